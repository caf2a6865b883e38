set_option maxHeartbeats 4000000 in
set_option maxRecDepth 100000 in
theorem f_X8_gone (g : GG) (l : Launch) (K len : Nat → Nat) (I : Nat → Nat → Int32) (J : Nat → Nat → Int64) (R : Nat → Nat → Option Nat) (hs : Sf K len I R) (a0 : Nat) (ka0 : K a0 = 9) (x1 : Int32) (h : Nat) (hh : R a0 2 = some h) (kh : K h = 2) (lk : Nat) (hlk2 : R h 0 = some lk) (klk : K lk = 3) (rd : Nat) (hrd : R a0 9 = some rd) (krd : K rd = 4) (lv : Nat) (hlv : R a0 4 = some lv) (klv : K lv = 41) (llv : len lv = 60) (kn : Nat) (hkn : R a0 6 = some kn) (kkn : K kn = 43) (lkn : len kn = 6) (cr : Nat) (hcr : R a0 5 = some cr) (kcr1 : K cr = 44) (lcr : len cr = 6) (hu : UU K R) (D : DD) (E : Nat → Nat → Int) (hc : KC D E a0 h lk rd I R) : Ct g l yX8_gone cX8_gone 2 (Option.some Jvm.ClassFile.FieldType.int) rmX8_gone [.ref a0, .int x1] (K, len, I, J, R) (pI1 (K, len, I, J, R) (fun r I' => Sf K len I' R ∧ Fr K [(1, 5), (1, 6), (9, 12), (43, 999), (50, 999), (51, 999), (52, 999), (53, 999), (54, 999)] I I' ∧ (KC D E a0 h lk rd I' R) ∧ ((0 ≤ x1.toInt ∧ x1.toInt < D 0 7) ∧ r.toInt = GV D x1.toInt.toNat (Ad D x1.toInt.toNat (LP1 D) 1) 60 ∨ ¬ (0 ≤ x1.toInt ∧ x1.toInt < D 0 7) ∧ r.toInt = -1) ∧ ((I' a0 12).toInt ≠ 4))) := by
  refine Ct_intro (by decide +kernel) (Nat.le_of_ble_eq_true rfl) (fun X hC hL hKK hNm hr hlk hQ => ?_)
  subst hL
  have hC : Cx g X cX8_gone "HillTap" 2 rmX8_gone := hC
  show P g X 2 0 [(0, .ref a0), (1, .int x1)] [] 0 0 (K, len, I, J, R)
  have hF : Fr K [(1, 5), (1, 6), (9, 12), (43, 999), (50, 999), (51, 999), (52, 999), (53, 999), (54, 999)] I I := Fr.refl
  have ka : KA a0 h lk rd K len R := ⟨⟨_, hs⟩, hu, ka0, kh, klk, krd⟩
  obtain ⟨sd1, sd2, sd3, sd4, sd5, sd7, sd8, sd9⟩ := id hc.2.1
  have d7b := hs.rng kh (k := 6) rfl (x := I h 6) rfl
  have d5b := hs.rng kh (k := 1) rfl (x := I h 1) rfl
  have d8b := hs.rng kh (k := 8) rfl (x := I h 8) rfl
  have b_x1 := ti_rng x1
  refine r_aload_n hC dX8_gone_0 0 rfl ?_
  refine r_iload_n hC dX8_gone_1 1 rfl ?_
  refine r_callV hC (As := [.int x1]) (rest := []) (ci := 8) (f_X8_isStory g (xL X) K len I J R hs a0 ka0 x1 h hh kh) mT_3_155 mT_1_1 mT_3_152 mT_3_154 mP_24 okX8_isStory ⟨by decide, by decide⟩ rfl (by show kO (K a0) = _; rw [ka0]; rfl) rfl rfl (Nat.le_of_ble_eq_true rfl) ⟨by decide, by decide⟩ dX8_gone_2 (aI0 (F := fun st M => P g X 2 5 [(0, .ref a0), (1, .int x1)] st _ _ M) (M := (K, len, I, J, R)) fun x1_ h1 => ?_)
  have k1_0 := h1
  clear h1
  show P g X 2 5 [(0, .ref a0), (1, .int x1)] [.int x1_] _ _ (K, len, I, J, R)
  rcases k1_0 with ⟨hr1, hw1⟩ | ⟨hr1, hw1⟩
  · refine r_if_ne hC (tgt := 14) dX8_gone_5 (by decide) (fun c2 => ?_) (fun c2 => ?_)
    rotate_left
    · exfalso; omega
    refine r_aload_n hC dX8_gone_14 0 rfl ?_
    refine r_aload_n hC dX8_gone_15 0 rfl ?_
    refine r_iload_n hC dX8_gone_16 1 rfl ?_
    refine r_callV hC (As := [.int x1]) (rest := [.ref a0]) (ci := 8) (f_X8_courseOf g (xL X) K len I J R hs a0 ka0 x1 h hh kh lk hlk2 klk rd hrd krd lv hlv klv llv kn hkn kkn lkn cr hcr kcr1 lcr hu D E hc (by omega) (by omega)) mT_3_163 mT_1_1 mT_3_160 mT_3_162 mP_26 okX8_courseOf ⟨by decide, by decide⟩ rfl (by show kO (K a0) = _; rw [ka0]; rfl) rfl rfl (Nat.le_of_ble_eq_true rfl) ⟨by decide, by decide⟩ dX8_gone_17 (aR1 (F := fun st M => P g X 2 20 [(0, .ref a0), (1, .int x1)] st _ _ M) (M := (K, len, I, J, R)) fun a3_ I3 h3 => ?_)
    obtain ⟨hs3, hf3, k3_0, k3_1, k3_2, k3_3, k3_4⟩ := h3
    show P g X 2 20 [(0, .ref a0), (1, .int x1)] [.ref a3_, .ref a0] _ _ (K, len, I3, J, R)
    have hF3 : Fr K [(1, 5), (1, 6), (9, 12), (43, 999), (50, 999), (51, 999), (52, 999), (53, 999), (54, 999)] I I3 := hF.trans hf3 rfl rfl
    refine r_geti hC 5 (ci := 0) rfl u0_in (by decide) mT_2_36 dX8_gone_20 k3_0 rfl rfl (fun x4_ e4 => ?_)
    have f4 : x4_.toInt = (I3 a3_ 5).toInt := by rw [e4]
    have q4 : x4_.toInt = GV D x1.toInt.toNat (Ad D x1.toInt.toNat (LP1 D) 1) 60 := by rw [e4]; exact k3_3.2.1
    refine r_callV hC (As := [.int x4_]) (rest := []) (ci := 8) (c_X8_answer g (xL X) K len I3 J R hs3 a0 ka0 x4_) mT_3_115 mT_1_1 mT_3_112 mT_3_114 mP_21 okX8_answer ⟨by decide, by decide⟩ rfl (by show kO (K a0) = _; rw [ka0]; rfl) rfl rfl (Nat.le_of_ble_eq_true rfl) ⟨by decide, by decide⟩ dX8_gone_23 (aI1 (F := fun st M => P g X 2 26 [(0, .ref a0), (1, .int x1)] st _ _ M) (M := (K, len, I3, J, R)) fun x5_ I5 h5 => ?_)
    obtain ⟨hs5, hf5, k5_0, k5_1⟩ := h5
    show P g X 2 26 [(0, .ref a0), (1, .int x1)] [.int x5_] _ _ (K, len, I5, J, R)
    have hF5 : Fr K [(1, 5), (1, 6), (9, 12), (43, 999), (50, 999), (51, 999), (52, 999), (53, 999), (54, 999)] I I5 := hF3.trans hf5 rfl rfl
    have hc5 := k3_2.mv ka hf5 rfl
    have coa3__5 := k3_3.mv hs k3_0 hf5 rfl
    exact r_iret hC hQ hlk hr rfl (by decide) (by decide) dX8_gone_26 ⟨_, _, rfl, rfl, ⟨hs5, hF5, (by exact hc5), (by first | exact Or.inr ⟨by omega, by omega⟩ | exact Or.inl ⟨by omega, (congrArg Int32.toInt k5_0).trans q4⟩), (by omega)⟩⟩
  · refine r_if_ne hC (tgt := 14) dX8_gone_5 (by decide) (fun c6 => ?_) (fun c6 => ?_)
    · exfalso; omega
    refine r_aload_n hC dX8_gone_8 0 rfl ?_
    refine r_iconst hC (v := (1)) dX8_gone_9 (by decide) (by decide) (fun x7_ e7 t7 => ?_)
    refine r_callV hC (As := [.int x7_]) (rest := []) (ci := 8) (c_X8_refuse g (xL X) K len I J R hs a0 ka0 x7_) mT_2_133 mT_1_1 mT_2_130 mT_2_132 mP_0 okX8_refuse ⟨by decide, by decide⟩ rfl (by show kO (K a0) = _; rw [ka0]; rfl) rfl rfl (Nat.le_of_ble_eq_true rfl) ⟨by decide, by decide⟩ dX8_gone_10 (aI1 (F := fun st M => P g X 2 13 [(0, .ref a0), (1, .int x1)] st _ _ M) (M := (K, len, I, J, R)) fun x8_ I8 h8 => ?_)
    obtain ⟨hs8, hf8, k8_0, k8_1⟩ := h8
    show P g X 2 13 [(0, .ref a0), (1, .int x1)] [.int x8_] _ _ (K, len, I8, J, R)
    have hF8 : Fr K [(1, 5), (1, 6), (9, 12), (43, 999), (50, 999), (51, 999), (52, 999), (53, 999), (54, 999)] I I8 := hF.trans hf8 rfl rfl
    have hc8 := hc.mv ka hf8 rfl
    exact r_iret hC hQ hlk hr rfl (by decide) (by decide) dX8_gone_13 ⟨_, _, rfl, rfl, ⟨hs8, hF8, (by exact hc8), (by first | exact Or.inr ⟨by omega, by omega⟩ | exact Or.inl ⟨by omega, (congrArg Int32.toInt k8_0).trans NOlq⟩), (by omega)⟩⟩
set_option maxHeartbeats 4000000 in
set_option maxRecDepth 100000 in
theorem f_X8_wave (g : GG) (l : Launch) (K len : Nat → Nat) (I : Nat → Nat → Int32) (J : Nat → Nat → Int64) (R : Nat → Nat → Option Nat) (hs : Sf K len I R) (a0 : Nat) (ka0 : K a0 = 9) (x1 : Int32) (h : Nat) (hh : R a0 2 = some h) (kh : K h = 2) (lk : Nat) (hlk2 : R h 0 = some lk) (klk : K lk = 3) (rd : Nat) (hrd : R a0 9 = some rd) (krd : K rd = 4) (lv : Nat) (hlv : R a0 4 = some lv) (klv : K lv = 41) (llv : len lv = 60) (kn : Nat) (hkn : R a0 6 = some kn) (kkn : K kn = 43) (lkn : len kn = 6) (cr : Nat) (hcr : R a0 5 = some cr) (kcr1 : K cr = 44) (lcr : len cr = 6) (hu : UU K R) (D : DD) (E : Nat → Nat → Int) (hc : KC D E a0 h lk rd I R) : Ct g l yX8_wave cX8_wave 2 (Option.some Jvm.ClassFile.FieldType.int) rmX8_wave [.ref a0, .int x1] (K, len, I, J, R) (pI1 (K, len, I, J, R) (fun r I' => Sf K len I' R ∧ Fr K [(1, 5), (1, 6), (9, 12), (43, 999), (50, 999), (51, 999), (52, 999), (53, 999), (54, 999)] I I' ∧ (KC D E a0 h lk rd I' R) ∧ ((0 ≤ x1.toInt ∧ x1.toInt < D 0 7) ∧ r.toInt = Wq D x1.toInt.toNat (Ad D x1.toInt.toNat (LP1 D) 1) (LP1 D) 60 ∨ ¬ (0 ≤ x1.toInt ∧ x1.toInt < D 0 7) ∧ r.toInt = -1) ∧ ((I' a0 12).toInt ≠ 4))) := by
  refine Ct_intro (by decide +kernel) (Nat.le_of_ble_eq_true rfl) (fun X hC hL hKK hNm hr hlk hQ => ?_)
  subst hL
  have hC : Cx g X cX8_wave "HillTap" 2 rmX8_wave := hC
  show P g X 2 0 [(0, .ref a0), (1, .int x1)] [] 0 0 (K, len, I, J, R)
  have hF : Fr K [(1, 5), (1, 6), (9, 12), (43, 999), (50, 999), (51, 999), (52, 999), (53, 999), (54, 999)] I I := Fr.refl
  have ka : KA a0 h lk rd K len R := ⟨⟨_, hs⟩, hu, ka0, kh, klk, krd⟩
  obtain ⟨sd1, sd2, sd3, sd4, sd5, sd7, sd8, sd9⟩ := id hc.2.1
  have d7b := hs.rng kh (k := 6) rfl (x := I h 6) rfl
  have d5b := hs.rng kh (k := 1) rfl (x := I h 1) rfl
  have d8b := hs.rng kh (k := 8) rfl (x := I h 8) rfl
  have b_x1 := ti_rng x1
  refine r_aload_n hC dX8_wave_0 0 rfl ?_
  refine r_iload_n hC dX8_wave_1 1 rfl ?_
  refine r_callV hC (As := [.int x1]) (rest := []) (ci := 8) (f_X8_isStory g (xL X) K len I J R hs a0 ka0 x1 h hh kh) mT_3_155 mT_1_1 mT_3_152 mT_3_154 mP_24 okX8_isStory ⟨by decide, by decide⟩ rfl (by show kO (K a0) = _; rw [ka0]; rfl) rfl rfl (Nat.le_of_ble_eq_true rfl) ⟨by decide, by decide⟩ dX8_wave_2 (aI0 (F := fun st M => P g X 2 5 [(0, .ref a0), (1, .int x1)] st _ _ M) (M := (K, len, I, J, R)) fun x1_ h1 => ?_)
  have k1_0 := h1
  clear h1
  show P g X 2 5 [(0, .ref a0), (1, .int x1)] [.int x1_] _ _ (K, len, I, J, R)
  rcases k1_0 with ⟨hr1, hw1⟩ | ⟨hr1, hw1⟩
  · refine r_if_ne hC (tgt := 14) dX8_wave_5 (by decide) (fun c2 => ?_) (fun c2 => ?_)
    rotate_left
    · exfalso; omega
    refine r_aload_n hC dX8_wave_14 0 rfl ?_
    refine r_aload_n hC dX8_wave_15 0 rfl ?_
    refine r_iload_n hC dX8_wave_16 1 rfl ?_
    refine r_callV hC (As := [.int x1]) (rest := [.ref a0]) (ci := 8) (f_X8_courseOf g (xL X) K len I J R hs a0 ka0 x1 h hh kh lk hlk2 klk rd hrd krd lv hlv klv llv kn hkn kkn lkn cr hcr kcr1 lcr hu D E hc (by omega) (by omega)) mT_3_163 mT_1_1 mT_3_160 mT_3_162 mP_26 okX8_courseOf ⟨by decide, by decide⟩ rfl (by show kO (K a0) = _; rw [ka0]; rfl) rfl rfl (Nat.le_of_ble_eq_true rfl) ⟨by decide, by decide⟩ dX8_wave_17 (aR1 (F := fun st M => P g X 2 20 [(0, .ref a0), (1, .int x1)] st _ _ M) (M := (K, len, I, J, R)) fun a3_ I3 h3 => ?_)
    obtain ⟨hs3, hf3, k3_0, k3_1, k3_2, k3_3, k3_4⟩ := h3
    show P g X 2 20 [(0, .ref a0), (1, .int x1)] [.ref a3_, .ref a0] _ _ (K, len, I3, J, R)
    have hF3 : Fr K [(1, 5), (1, 6), (9, 12), (43, 999), (50, 999), (51, 999), (52, 999), (53, 999), (54, 999)] I I3 := hF.trans hf3 rfl rfl
    refine r_geti hC 6 (ci := 0) rfl u0_in (by decide) mT_2_38 dX8_wave_20 k3_0 rfl rfl (fun x4_ e4 => ?_)
    have f4 : x4_.toInt = (I3 a3_ 6).toInt := by rw [e4]
    have q4 : x4_.toInt = Wq D x1.toInt.toNat (Ad D x1.toInt.toNat (LP1 D) 1) (LP1 D) 60 := by rw [e4]; exact k3_3.2.2
    refine r_callV hC (As := [.int x4_]) (rest := []) (ci := 8) (c_X8_answer g (xL X) K len I3 J R hs3 a0 ka0 x4_) mT_3_115 mT_1_1 mT_3_112 mT_3_114 mP_21 okX8_answer ⟨by decide, by decide⟩ rfl (by show kO (K a0) = _; rw [ka0]; rfl) rfl rfl (Nat.le_of_ble_eq_true rfl) ⟨by decide, by decide⟩ dX8_wave_23 (aI1 (F := fun st M => P g X 2 26 [(0, .ref a0), (1, .int x1)] st _ _ M) (M := (K, len, I3, J, R)) fun x5_ I5 h5 => ?_)
    obtain ⟨hs5, hf5, k5_0, k5_1⟩ := h5
    show P g X 2 26 [(0, .ref a0), (1, .int x1)] [.int x5_] _ _ (K, len, I5, J, R)
    have hF5 : Fr K [(1, 5), (1, 6), (9, 12), (43, 999), (50, 999), (51, 999), (52, 999), (53, 999), (54, 999)] I I5 := hF3.trans hf5 rfl rfl
    have hc5 := k3_2.mv ka hf5 rfl
    have coa3__5 := k3_3.mv hs k3_0 hf5 rfl
    exact r_iret hC hQ hlk hr rfl (by decide) (by decide) dX8_wave_26 ⟨_, _, rfl, rfl, ⟨hs5, hF5, (by exact hc5), (by first | exact Or.inr ⟨by omega, by omega⟩ | exact Or.inl ⟨by omega, (congrArg Int32.toInt k5_0).trans q4⟩), (by omega)⟩⟩
  · refine r_if_ne hC (tgt := 14) dX8_wave_5 (by decide) (fun c6 => ?_) (fun c6 => ?_)
    · exfalso; omega
    refine r_aload_n hC dX8_wave_8 0 rfl ?_
    refine r_iconst hC (v := (1)) dX8_wave_9 (by decide) (by decide) (fun x7_ e7 t7 => ?_)
    refine r_callV hC (As := [.int x7_]) (rest := []) (ci := 8) (c_X8_refuse g (xL X) K len I J R hs a0 ka0 x7_) mT_2_133 mT_1_1 mT_2_130 mT_2_132 mP_0 okX8_refuse ⟨by decide, by decide⟩ rfl (by show kO (K a0) = _; rw [ka0]; rfl) rfl rfl (Nat.le_of_ble_eq_true rfl) ⟨by decide, by decide⟩ dX8_wave_10 (aI1 (F := fun st M => P g X 2 13 [(0, .ref a0), (1, .int x1)] st _ _ M) (M := (K, len, I, J, R)) fun x8_ I8 h8 => ?_)
    obtain ⟨hs8, hf8, k8_0, k8_1⟩ := h8
    show P g X 2 13 [(0, .ref a0), (1, .int x1)] [.int x8_] _ _ (K, len, I8, J, R)
    have hF8 : Fr K [(1, 5), (1, 6), (9, 12), (43, 999), (50, 999), (51, 999), (52, 999), (53, 999), (54, 999)] I I8 := hF.trans hf8 rfl rfl
    have hc8 := hc.mv ka hf8 rfl
    exact r_iret hC hQ hlk hr rfl (by decide) (by decide) dX8_wave_13 ⟨_, _, rfl, rfl, ⟨hs8, hF8, (by exact hc8), (by first | exact Or.inr ⟨by omega, by omega⟩ | exact Or.inl ⟨by omega, (congrArg Int32.toInt k8_0).trans NOlq⟩), (by omega)⟩⟩
set_option maxHeartbeats 4000000 in
set_option maxRecDepth 100000 in
theorem f_X8_peg (g : GG) (l : Launch) (K len : Nat → Nat) (I : Nat → Nat → Int32) (J : Nat → Nat → Int64) (R : Nat → Nat → Option Nat) (hs : Sf K len I R) (a0 : Nat) (ka0 : K a0 = 9) (x1 : Int32) (x2 : Int32) (x3 : Int32) (x4 : Int32) (h : Nat) (hh : R a0 2 = some h) (kh : K h = 2) (lk : Nat) (hlk2 : R h 0 = some lk) (klk : K lk = 3) (rd : Nat) (hrd : R a0 9 = some rd) (krd : K rd = 4) (lv : Nat) (hlv : R a0 4 = some lv) (klv : K lv = 41) (llv : len lv = 60) (kn : Nat) (hkn : R a0 6 = some kn) (kkn : K kn = 43) (lkn : len kn = 6) (cr : Nat) (hcr : R a0 5 = some cr) (kcr1 : K cr = 44) (lcr : len cr = 6) (hu : UU K R) (D : DD) (E : Nat → Nat → Int) (hc : KC D E a0 h lk rd I R) : Ct g l yX8_peg cX8_peg 6 (Option.some Jvm.ClassFile.FieldType.int) rmX8_peg [.ref a0, .int x1, .int x2, .int x3, .int x4] (K, len, I, J, R) (pI1 (K, len, I, J, R) (fun r I' => Sf K len I' R ∧ Fr K [(1, 5), (1, 6), (9, 12), (43, 999), (50, 999), (51, 999), (52, 999), (53, 999), (54, 999)] I I' ∧ (KC D E a0 h lk rd I' R) ∧ ((I' a0 12).toInt ≠ 4))) := by
  refine Ct_intro (by decide +kernel) (Nat.le_of_ble_eq_true rfl) (fun X hC hL hKK hNm hr hlk hQ => ?_)
  subst hL
  have hC : Cx g X cX8_peg "HillTap" 6 rmX8_peg := hC
  show P g X 6 0 [(0, .ref a0), (1, .int x1), (2, .int x2), (3, .int x3), (4, .int x4)] [] 0 0 (K, len, I, J, R)
  have hF : Fr K [(1, 5), (1, 6), (9, 12), (43, 999), (50, 999), (51, 999), (52, 999), (53, 999), (54, 999)] I I := Fr.refl
  have ka : KA a0 h lk rd K len R := ⟨⟨_, hs⟩, hu, ka0, kh, klk, krd⟩
  obtain ⟨sd1, sd2, sd3, sd4, sd5, sd7, sd8, sd9⟩ := id hc.2.1
  have d7b := hs.rng kh (k := 6) rfl (x := I h 6) rfl
  have d5b := hs.rng kh (k := 1) rfl (x := I h 1) rfl
  have d8b := hs.rng kh (k := 8) rfl (x := I h 8) rfl
  have b_x1 := ti_rng x1
  have b_x2 := ti_rng x2
  have b_x3 := ti_rng x3
  have b_x4 := ti_rng x4
  refine r_aload_n hC dX8_peg_0 0 rfl ?_
  refine r_iload_n hC dX8_peg_1 1 rfl ?_
  refine r_iload_n hC dX8_peg_2 2 rfl ?_
  refine r_iload_n hC dX8_peg_3 3 rfl ?_
  refine r_callV hC (As := [.int x1, .int x2, .int x3]) (rest := []) (ci := 8) (f_X8_isPegDay g (xL X) K len I J R hs a0 ka0 x1 x2 x3 h hh kh) mT_3_151 mT_1_1 mT_3_148 mT_3_150 mP_23 okX8_isPegDay ⟨by decide, by decide⟩ rfl (by show kO (K a0) = _; rw [ka0]; rfl) rfl rfl (Nat.le_of_ble_eq_true rfl) ⟨by decide, by decide⟩ dX8_peg_4 (aI0 (F := fun st M => P g X 6 7 [(0, .ref a0), (1, .int x1), (2, .int x2), (3, .int x3), (4, .int x4)] st _ _ M) (M := (K, len, I, J, R)) fun x1_ h1 => ?_)
  have k1_0 := h1
  clear h1
  show P g X 6 7 [(0, .ref a0), (1, .int x1), (2, .int x2), (3, .int x3), (4, .int x4)] [.int x1_] _ _ (K, len, I, J, R)
  rcases k1_0 with ⟨hr1, hw1⟩ | ⟨hr1, hw1⟩
  · refine r_if_ne hC (tgt := 16) dX8_peg_7 (by decide) (fun c2 => ?_) (fun c2 => ?_)
    rotate_left
    · exfalso; omega
    refine r_aload_n hC dX8_peg_16 0 rfl ?_
    refine r_iload_n hC dX8_peg_17 1 rfl ?_
    refine r_callV hC (As := [.int x1]) (rest := []) (ci := 8) (f_X8_courseOf g (xL X) K len I J R hs a0 ka0 x1 h hh kh lk hlk2 klk rd hrd krd lv hlv klv llv kn hkn kkn lkn cr hcr kcr1 lcr hu D E hc (by omega) (by omega)) mT_3_163 mT_1_1 mT_3_160 mT_3_162 mP_26 okX8_courseOf ⟨by decide, by decide⟩ rfl (by show kO (K a0) = _; rw [ka0]; rfl) rfl rfl (Nat.le_of_ble_eq_true rfl) ⟨by decide, by decide⟩ dX8_peg_18 (aR1 (F := fun st M => P g X 6 21 [(0, .ref a0), (1, .int x1), (2, .int x2), (3, .int x3), (4, .int x4)] st _ _ M) (M := (K, len, I, J, R)) fun a3_ I3 h3 => ?_)
    obtain ⟨hs3, hf3, k3_0, k3_1, k3_2, k3_3, k3_4⟩ := h3
    show P g X 6 21 [(0, .ref a0), (1, .int x1), (2, .int x2), (3, .int x3), (4, .int x4)] [.ref a3_] _ _ (K, len, I3, J, R)
    have hF3 : Fr K [(1, 5), (1, 6), (9, 12), (43, 999), (50, 999), (51, 999), (52, 999), (53, 999), (54, 999)] I I3 := hF.trans hf3 rfl rfl
    refine r_astore hC (lv' := [(5, .ref a3_), (0, .ref a0), (1, .int x1), (2, .int x2), (3, .int x3), (4, .int x4)]) dX8_peg_21 (by decide) rfl ?_
    refine r_iload hC dX8_peg_23 5 rfl ?_
    by_cases o4 : x4.toInt < 0 ∨ 2 < x4.toInt
    · refine r_tabOut hC (tgt := 100) dX8_peg_25 o4 (by decide) ?_
      refine r_aload_n hC dX8_peg_100 1 rfl ?_
      refine r_iconst hC (v := (1)) dX8_peg_101 (by decide) (by decide) (fun x5_ e5 t5 => ?_)
      refine r_callV hC (As := [.int x5_]) (rest := []) (ci := 8) (c_X8_refuse g (xL X) K len I3 J R hs3 a0 ka0 x5_) mT_2_133 mT_1_1 mT_2_130 mT_2_132 mP_0 okX8_refuse ⟨by decide, by decide⟩ rfl (by show kO (K a0) = _; rw [ka0]; rfl) rfl rfl (Nat.le_of_ble_eq_true rfl) ⟨by decide, by decide⟩ dX8_peg_102 (aI1 (F := fun st M => P g X 6 105 [(5, .ref a3_), (0, .ref a0), (1, .int x1), (2, .int x2), (3, .int x3), (4, .int x4)] st _ _ M) (M := (K, len, I3, J, R)) fun x6_ I6 h6 => ?_)
      obtain ⟨hs6, hf6, k6_0, k6_1⟩ := h6
      show P g X 6 105 [(5, .ref a3_), (0, .ref a0), (1, .int x1), (2, .int x2), (3, .int x3), (4, .int x4)] [.int x6_] _ _ (K, len, I6, J, R)
      have hF6 : Fr K [(1, 5), (1, 6), (9, 12), (43, 999), (50, 999), (51, 999), (52, 999), (53, 999), (54, 999)] I I6 := hF3.trans hf6 rfl rfl
      have hc6 := k3_2.mv ka hf6 rfl
      have coa3__6 := k3_3.mv hs k3_0 hf6 rfl
      exact r_iret hC hQ hlk hr rfl (by decide) (by decide) dX8_peg_105 ⟨_, _, rfl, rfl, ⟨hs6, hF6, (by exact hc6), (by omega)⟩⟩
    · rcases (show x4.toInt = 0 ∨ x4.toInt = 1 ∨ x4.toInt = 2 by omega) with o4 | o4 | o4
      · refine r_tabIn hC (tgt := 52) (off := 27) dX8_peg_25 (by omega) (by omega) (by rw [o4]; decide) (by decide) ?_
        refine r_aload_n hC dX8_peg_52 1 rfl ?_
        refine r_aload hC dX8_peg_53 0 rfl ?_
        obtain ⟨a7_, hb7, hk7, hn7⟩ := hs3.row k3_0 1 51 300 (by decide) (by decide)
        refine r_getr hC 1 (ci := 0) rfl u0_in (by decide) mT_2_29 dX8_peg_55 k3_0 rfl rfl hb7 ?_
        refine r_iload_n hC dX8_peg_58 3 rfl ?_
        refine r_iload_n hC dX8_peg_59 4 rfl ?_
        refine r_callS hC (As := [.int x2, .int x3]) (rest := [.ref a7_, .ref a0]) (c_X8_row g (xL X) K len I3 J R hs3 x2 x3 (by omega) (by omega) (by omega) (by omega)) mT_3_192 mT_1_1 mT_3_197 mT_3_191 okX8_row ⟨by decide, by decide⟩ rfl rfl (Nat.le_of_ble_eq_true rfl) ⟨by decide, by decide⟩ dX8_peg_60 (aI0 (F := fun st M => P g X 6 63 [(5, .ref a3_), (0, .ref a0), (1, .int x1), (2, .int x2), (3, .int x3), (4, .int x4)] st _ _ M) (M := (K, len, I3, J, R)) fun x8_ h8 => ?_)
        have k8_0 := h8
        clear h8
        show P g X 6 63 [(5, .ref a3_), (0, .ref a0), (1, .int x1), (2, .int x2), (3, .int x3), (4, .int x4)] [.int x8_, .ref a7_, .ref a0] _ _ (K, len, I3, J, R)
        refine x_iaload hC hk7 hn7 (by decide) rfl rfl dX8_peg_63 (by omega) (by omega) (fun x9_ e9 => ?_)
        have q9 : x9_.toInt = NV D x1.toInt.toNat (Ad D x1.toInt.toNat (LP1 D) 1) x3.toInt.toNat x2.toInt.toNat := by rw [e9, clx (i := x8_) rfl (by omega), show x8_.toInt.toNat = 60 * x2.toInt.toNat + x3.toInt.toNat by omega]; exact k3_3.inc hs k3_0 hb7 (by omega) (by omega)
        have jb9 := k3_2.nvb (s := x1.toInt.toNat) (by omega) (w2 := 1) x3.toInt.toNat x2.toInt.toNat (by omega)
        refine r_callV hC (As := [.int x9_]) (rest := []) (ci := 8) (c_X8_answer g (xL X) K len I3 J R hs3 a0 ka0 x9_) mT_3_115 mT_1_1 mT_3_112 mT_3_114 mP_21 okX8_answer ⟨by decide, by decide⟩ rfl (by show kO (K a0) = _; rw [ka0]; rfl) rfl rfl (Nat.le_of_ble_eq_true rfl) ⟨by decide, by decide⟩ dX8_peg_64 (aI1 (F := fun st M => P g X 6 67 [(5, .ref a3_), (0, .ref a0), (1, .int x1), (2, .int x2), (3, .int x3), (4, .int x4)] st _ _ M) (M := (K, len, I3, J, R)) fun x10_ I10 h10 => ?_)
        obtain ⟨hs10, hf10, k10_0, k10_1⟩ := h10
        show P g X 6 67 [(5, .ref a3_), (0, .ref a0), (1, .int x1), (2, .int x2), (3, .int x3), (4, .int x4)] [.int x10_] _ _ (K, len, I10, J, R)
        have hF10 : Fr K [(1, 5), (1, 6), (9, 12), (43, 999), (50, 999), (51, 999), (52, 999), (53, 999), (54, 999)] I I10 := hF3.trans hf10 rfl rfl
        have hc10 := k3_2.mv ka hf10 rfl
        have coa3__10 := k3_3.mv hs k3_0 hf10 rfl
        exact r_iret hC hQ hlk hr rfl (by decide) (by decide) dX8_peg_67 ⟨_, _, rfl, rfl, ⟨hs10, hF10, (by exact hc10), (by omega)⟩⟩
      · refine r_tabIn hC (tgt := 68) (off := 43) dX8_peg_25 (by omega) (by omega) (by rw [o4]; decide) (by decide) ?_
        refine r_aload_n hC dX8_peg_68 1 rfl ?_
        refine r_aload hC dX8_peg_69 0 rfl ?_
        obtain ⟨a11_, hb11, hk11, hn11⟩ := hs3.row k3_0 0 50 300 (by decide) (by decide)
        refine r_getr hC 0 (ci := 0) rfl u0_in (by decide) mT_2_26 dX8_peg_71 k3_0 rfl rfl hb11 ?_
        refine r_iload_n hC dX8_peg_74 3 rfl ?_
        refine r_iload_n hC dX8_peg_75 4 rfl ?_
        refine r_callS hC (As := [.int x2, .int x3]) (rest := [.ref a11_, .ref a0]) (c_X8_row g (xL X) K len I3 J R hs3 x2 x3 (by omega) (by omega) (by omega) (by omega)) mT_3_192 mT_1_1 mT_3_197 mT_3_191 okX8_row ⟨by decide, by decide⟩ rfl rfl (Nat.le_of_ble_eq_true rfl) ⟨by decide, by decide⟩ dX8_peg_76 (aI0 (F := fun st M => P g X 6 79 [(5, .ref a3_), (0, .ref a0), (1, .int x1), (2, .int x2), (3, .int x3), (4, .int x4)] st _ _ M) (M := (K, len, I3, J, R)) fun x12_ h12 => ?_)
        have k12_0 := h12
        clear h12
        show P g X 6 79 [(5, .ref a3_), (0, .ref a0), (1, .int x1), (2, .int x2), (3, .int x3), (4, .int x4)] [.int x12_, .ref a11_, .ref a0] _ _ (K, len, I3, J, R)
        refine x_iaload hC hk11 hn11 (by decide) rfl rfl dX8_peg_79 (by omega) (by omega) (fun x13_ e13 => ?_)
        have q13 : x13_.toInt = SV D x1.toInt.toNat (Ad D x1.toInt.toNat (LP1 D) 1) x3.toInt.toNat x2.toInt.toNat := by rw [e13, clx (i := x12_) rfl (by omega), show x12_.toInt.toNat = 60 * x2.toInt.toNat + x3.toInt.toNat by omega]; exact k3_3.spd hs k3_0 hb11 (by omega) (by omega)
        have jb13 := k3_2.svb (s := x1.toInt.toNat) (by omega) (w2 := 1) x3.toInt.toNat x2.toInt.toNat
        refine r_callV hC (As := [.int x13_]) (rest := []) (ci := 8) (c_X8_answer g (xL X) K len I3 J R hs3 a0 ka0 x13_) mT_3_115 mT_1_1 mT_3_112 mT_3_114 mP_21 okX8_answer ⟨by decide, by decide⟩ rfl (by show kO (K a0) = _; rw [ka0]; rfl) rfl rfl (Nat.le_of_ble_eq_true rfl) ⟨by decide, by decide⟩ dX8_peg_80 (aI1 (F := fun st M => P g X 6 83 [(5, .ref a3_), (0, .ref a0), (1, .int x1), (2, .int x2), (3, .int x3), (4, .int x4)] st _ _ M) (M := (K, len, I3, J, R)) fun x14_ I14 h14 => ?_)
        obtain ⟨hs14, hf14, k14_0, k14_1⟩ := h14
        show P g X 6 83 [(5, .ref a3_), (0, .ref a0), (1, .int x1), (2, .int x2), (3, .int x3), (4, .int x4)] [.int x14_] _ _ (K, len, I14, J, R)
        have hF14 : Fr K [(1, 5), (1, 6), (9, 12), (43, 999), (50, 999), (51, 999), (52, 999), (53, 999), (54, 999)] I I14 := hF3.trans hf14 rfl rfl
        have hc14 := k3_2.mv ka hf14 rfl
        have coa3__14 := k3_3.mv hs k3_0 hf14 rfl
        exact r_iret hC hQ hlk hr rfl (by decide) (by decide) dX8_peg_83 ⟨_, _, rfl, rfl, ⟨hs14, hF14, (by exact hc14), (by omega)⟩⟩
      · refine r_tabIn hC (tgt := 84) (off := 59) dX8_peg_25 (by omega) (by omega) (by rw [o4]; decide) (by decide) ?_
        refine r_aload_n hC dX8_peg_84 1 rfl ?_
        refine r_aload hC dX8_peg_85 0 rfl ?_
        obtain ⟨a15_, hb15, hk15, hn15⟩ := hs3.row k3_0 2 52 300 (by decide) (by decide)
        refine r_getr hC 2 (ci := 0) rfl u0_in (by decide) mT_2_31 dX8_peg_87 k3_0 rfl rfl hb15 ?_
        refine r_iload_n hC dX8_peg_90 3 rfl ?_
        refine r_iload_n hC dX8_peg_91 4 rfl ?_
        refine r_callS hC (As := [.int x2, .int x3]) (rest := [.ref a15_, .ref a0]) (c_X8_row g (xL X) K len I3 J R hs3 x2 x3 (by omega) (by omega) (by omega) (by omega)) mT_3_192 mT_1_1 mT_3_197 mT_3_191 okX8_row ⟨by decide, by decide⟩ rfl rfl (Nat.le_of_ble_eq_true rfl) ⟨by decide, by decide⟩ dX8_peg_92 (aI0 (F := fun st M => P g X 6 95 [(5, .ref a3_), (0, .ref a0), (1, .int x1), (2, .int x2), (3, .int x3), (4, .int x4)] st _ _ M) (M := (K, len, I3, J, R)) fun x16_ h16 => ?_)
        have k16_0 := h16
        clear h16
        show P g X 6 95 [(5, .ref a3_), (0, .ref a0), (1, .int x1), (2, .int x2), (3, .int x3), (4, .int x4)] [.int x16_, .ref a15_, .ref a0] _ _ (K, len, I3, J, R)
        refine x_iaload hC hk15 hn15 (by decide) rfl rfl dX8_peg_95 (by omega) (by omega) (fun x17_ e17 => ?_)
        have q17 : x17_.toInt = WV D x1.toInt.toNat (Ad D x1.toInt.toNat (LP1 D) 1) x3.toInt.toNat x2.toInt.toNat := by rw [e17, clx (i := x16_) rfl (by omega), show x16_.toInt.toNat = 60 * x2.toInt.toNat + x3.toInt.toNat by omega]; exact k3_3.wrn hs k3_0 hb15 (by omega) (by omega)
        refine r_callV hC (As := [.int x17_]) (rest := []) (ci := 8) (c_X8_answer g (xL X) K len I3 J R hs3 a0 ka0 x17_) mT_3_115 mT_1_1 mT_3_112 mT_3_114 mP_21 okX8_answer ⟨by decide, by decide⟩ rfl (by show kO (K a0) = _; rw [ka0]; rfl) rfl rfl (Nat.le_of_ble_eq_true rfl) ⟨by decide, by decide⟩ dX8_peg_96 (aI1 (F := fun st M => P g X 6 99 [(5, .ref a3_), (0, .ref a0), (1, .int x1), (2, .int x2), (3, .int x3), (4, .int x4)] st _ _ M) (M := (K, len, I3, J, R)) fun x18_ I18 h18 => ?_)
        obtain ⟨hs18, hf18, k18_0, k18_1⟩ := h18
        show P g X 6 99 [(5, .ref a3_), (0, .ref a0), (1, .int x1), (2, .int x2), (3, .int x3), (4, .int x4)] [.int x18_] _ _ (K, len, I18, J, R)
        have hF18 : Fr K [(1, 5), (1, 6), (9, 12), (43, 999), (50, 999), (51, 999), (52, 999), (53, 999), (54, 999)] I I18 := hF3.trans hf18 rfl rfl
        have hc18 := k3_2.mv ka hf18 rfl
        have coa3__18 := k3_3.mv hs k3_0 hf18 rfl
        exact r_iret hC hQ hlk hr rfl (by decide) (by decide) dX8_peg_99 ⟨_, _, rfl, rfl, ⟨hs18, hF18, (by exact hc18), (by omega)⟩⟩
  · refine r_if_ne hC (tgt := 16) dX8_peg_7 (by decide) (fun c19 => ?_) (fun c19 => ?_)
    · exfalso; omega
    refine r_aload_n hC dX8_peg_10 0 rfl ?_
    refine r_iconst hC (v := (1)) dX8_peg_11 (by decide) (by decide) (fun x20_ e20 t20 => ?_)
    refine r_callV hC (As := [.int x20_]) (rest := []) (ci := 8) (c_X8_refuse g (xL X) K len I J R hs a0 ka0 x20_) mT_2_133 mT_1_1 mT_2_130 mT_2_132 mP_0 okX8_refuse ⟨by decide, by decide⟩ rfl (by show kO (K a0) = _; rw [ka0]; rfl) rfl rfl (Nat.le_of_ble_eq_true rfl) ⟨by decide, by decide⟩ dX8_peg_12 (aI1 (F := fun st M => P g X 6 15 [(0, .ref a0), (1, .int x1), (2, .int x2), (3, .int x3), (4, .int x4)] st _ _ M) (M := (K, len, I, J, R)) fun x21_ I21 h21 => ?_)
    obtain ⟨hs21, hf21, k21_0, k21_1⟩ := h21
    show P g X 6 15 [(0, .ref a0), (1, .int x1), (2, .int x2), (3, .int x3), (4, .int x4)] [.int x21_] _ _ (K, len, I21, J, R)
    have hF21 : Fr K [(1, 5), (1, 6), (9, 12), (43, 999), (50, 999), (51, 999), (52, 999), (53, 999), (54, 999)] I I21 := hF.trans hf21 rfl rfl
    have hc21 := hc.mv ka hf21 rfl
    exact r_iret hC hQ hlk hr rfl (by decide) (by decide) dX8_peg_15 ⟨_, _, rfl, rfl, ⟨hs21, hF21, (by exact hc21), (by omega)⟩⟩
set_option maxHeartbeats 4000000 in
set_option maxRecDepth 100000 in
theorem f_X8_nought (g : GG) (l : Launch) (K len : Nat → Nat) (I : Nat → Nat → Int32) (J : Nat → Nat → Int64) (R : Nat → Nat → Option Nat) (hs : Sf K len I R) (a0 : Nat) (ka0 : K a0 = 9) (x1 : Int32) (x2 : Int32) (x3 : Int32) (h : Nat) (hh : R a0 2 = some h) (kh : K h = 2) (lk : Nat) (hlk2 : R h 0 = some lk) (klk : K lk = 3) (rd : Nat) (hrd : R a0 9 = some rd) (krd : K rd = 4) (lv : Nat) (hlv : R a0 4 = some lv) (klv : K lv = 41) (llv : len lv = 60) (kn : Nat) (hkn : R a0 6 = some kn) (kkn : K kn = 43) (lkn : len kn = 6) (cr : Nat) (hcr : R a0 5 = some cr) (kcr1 : K cr = 44) (lcr : len cr = 6) (hu : UU K R) (D : DD) (E : Nat → Nat → Int) (hc : KC D E a0 h lk rd I R) : Ct g l yX8_nought cX8_nought 7 (Option.some Jvm.ClassFile.FieldType.int) rmX8_nought [.ref a0, .int x1, .int x2, .int x3] (K, len, I, J, R) (pI1 (K, len, I, J, R) (fun r I' => Sf K len I' R ∧ Fr K [(1, 5), (1, 6), (9, 12), (43, 999), (50, 999), (51, 999), (52, 999), (53, 999), (54, 999)] I I' ∧ (KC D E a0 h lk rd I' R) ∧ ((I' a0 12).toInt ≠ 4))) := by
  refine Ct_intro (by decide +kernel) (Nat.le_of_ble_eq_true rfl) (fun X hC hL hKK hNm hr hlk hQ => ?_)
  subst hL
  have hC : Cx g X cX8_nought "HillTap" 7 rmX8_nought := hC
  show P g X 7 0 [(0, .ref a0), (1, .int x1), (2, .int x2), (3, .int x3)] [] 0 0 (K, len, I, J, R)
  have hF : Fr K [(1, 5), (1, 6), (9, 12), (43, 999), (50, 999), (51, 999), (52, 999), (53, 999), (54, 999)] I I := Fr.refl
  have ka : KA a0 h lk rd K len R := ⟨⟨_, hs⟩, hu, ka0, kh, klk, krd⟩
  obtain ⟨sd1, sd2, sd3, sd4, sd5, sd7, sd8, sd9⟩ := id hc.2.1
  have d7b := hs.rng kh (k := 6) rfl (x := I h 6) rfl
  have d5b := hs.rng kh (k := 1) rfl (x := I h 1) rfl
  have d8b := hs.rng kh (k := 8) rfl (x := I h 8) rfl
  have b_x1 := ti_rng x1
  have b_x2 := ti_rng x2
  have b_x3 := ti_rng x3
  refine r_aload_n hC dX8_nought_0 0 rfl ?_
  refine r_iload_n hC dX8_nought_1 1 rfl ?_
  refine r_iload_n hC dX8_nought_2 2 rfl ?_
  refine r_iload_n hC dX8_nought_3 3 rfl ?_
  refine r_callV hC (As := [.int x1, .int x2, .int x3]) (rest := []) (ci := 8) (f_X8_isPegDay g (xL X) K len I J R hs a0 ka0 x1 x2 x3 h hh kh) mT_3_151 mT_1_1 mT_3_148 mT_3_150 mP_23 okX8_isPegDay ⟨by decide, by decide⟩ rfl (by show kO (K a0) = _; rw [ka0]; rfl) rfl rfl (Nat.le_of_ble_eq_true rfl) ⟨by decide, by decide⟩ dX8_nought_4 (aI0 (F := fun st M => P g X 7 7 [(0, .ref a0), (1, .int x1), (2, .int x2), (3, .int x3)] st _ _ M) (M := (K, len, I, J, R)) fun x1_ h1 => ?_)
  have k1_0 := h1
  clear h1
  show P g X 7 7 [(0, .ref a0), (1, .int x1), (2, .int x2), (3, .int x3)] [.int x1_] _ _ (K, len, I, J, R)
  rcases k1_0 with ⟨hr1, hw1⟩ | ⟨hr1, hw1⟩
  · refine r_if_eq hC (tgt := 16) dX8_nought_7 (by decide) (fun c2 => ?_) (fun c2 => ?_)
    · exfalso; omega
    refine r_iload_n hC dX8_nought_10 3 rfl ?_
    refine r_bipush hC (v := (59)) dX8_nought_11 (by decide) (by decide) (fun x3_ e3 t3 => ?_)
    refine r_icmp_lt hC (tgt := 22) dX8_nought_13 (by decide) (fun c4 => ?_) (fun c4 => ?_)
    · refine r_aload_n hC dX8_nought_22 0 rfl ?_
      refine r_iload_n hC dX8_nought_23 1 rfl ?_
      refine r_callV hC (As := [.int x1]) (rest := []) (ci := 8) (f_X8_courseOf g (xL X) K len I J R hs a0 ka0 x1 h hh kh lk hlk2 klk rd hrd krd lv hlv klv llv kn hkn kkn lkn cr hcr kcr1 lcr hu D E hc (by omega) (by omega)) mT_3_163 mT_1_1 mT_3_160 mT_3_162 mP_26 okX8_courseOf ⟨by decide, by decide⟩ rfl (by show kO (K a0) = _; rw [ka0]; rfl) rfl rfl (Nat.le_of_ble_eq_true rfl) ⟨by decide, by decide⟩ dX8_nought_24 (aR1 (F := fun st M => P g X 7 27 [(0, .ref a0), (1, .int x1), (2, .int x2), (3, .int x3)] st _ _ M) (M := (K, len, I, J, R)) fun a5_ I5 h5 => ?_)
      obtain ⟨hs5, hf5, k5_0, k5_1, k5_2, k5_3, k5_4⟩ := h5
      show P g X 7 27 [(0, .ref a0), (1, .int x1), (2, .int x2), (3, .int x3)] [.ref a5_] _ _ (K, len, I5, J, R)
      have hF5 : Fr K [(1, 5), (1, 6), (9, 12), (43, 999), (50, 999), (51, 999), (52, 999), (53, 999), (54, 999)] I I5 := hF.trans hf5 rfl rfl
      refine r_astore hC (lv' := [(4, .ref a5_), (0, .ref a0), (1, .int x1), (2, .int x2), (3, .int x3)]) dX8_nought_27 (by decide) rfl ?_
      refine r_aload hC dX8_nought_29 0 rfl ?_
      obtain ⟨a6_, hb6, hk6, hn6⟩ := hs5.row k5_0 0 50 300 (by decide) (by decide)
      refine r_getr hC 0 (ci := 0) rfl u0_in (by decide) mT_2_26 dX8_nought_31 k5_0 rfl rfl hb6 ?_
      refine r_iload_n hC dX8_nought_34 3 rfl ?_
      refine r_iload_n hC dX8_nought_35 4 rfl ?_
      refine r_callS hC (As := [.int x2, .int x3]) (rest := [.ref a6_]) (c_X8_row g (xL X) K len I5 J R hs5 x2 x3 (by omega) (by omega) (by omega) (by omega)) mT_3_192 mT_1_1 mT_3_197 mT_3_191 okX8_row ⟨by decide, by decide⟩ rfl rfl (Nat.le_of_ble_eq_true rfl) ⟨by decide, by decide⟩ dX8_nought_36 (aI0 (F := fun st M => P g X 7 39 [(4, .ref a5_), (0, .ref a0), (1, .int x1), (2, .int x2), (3, .int x3)] st _ _ M) (M := (K, len, I5, J, R)) fun x7_ h7 => ?_)
      have k7_0 := h7
      clear h7
      show P g X 7 39 [(4, .ref a5_), (0, .ref a0), (1, .int x1), (2, .int x2), (3, .int x3)] [.int x7_, .ref a6_] _ _ (K, len, I5, J, R)
      refine x_iaload hC hk6 hn6 (by decide) rfl rfl dX8_nought_39 (by omega) (by omega) (fun x8_ e8 => ?_)
      have q8 : x8_.toInt = SV D x1.toInt.toNat (Ad D x1.toInt.toNat (LP1 D) 1) x3.toInt.toNat x2.toInt.toNat := by rw [e8, clx (i := x7_) rfl (by omega), show x7_.toInt.toNat = 60 * x2.toInt.toNat + x3.toInt.toNat by omega]; exact k5_3.spd hs k5_0 hb6 (by omega) (by omega)
      have jb8 := k5_2.svb (s := x1.toInt.toNat) (by omega) (w2 := 1) x3.toInt.toNat x2.toInt.toNat
      refine r_istore hC (lv' := [(5, .int x8_), (4, .ref a5_), (0, .ref a0), (1, .int x1), (2, .int x2), (3, .int x3)]) dX8_nought_40 (by decide) rfl ?_
      refine r_aload hC dX8_nought_42 1 rfl ?_
      refine r_getr hC 0 (ci := 0) rfl u0_in (by decide) mT_2_26 dX8_nought_44 k5_0 rfl rfl hb6 ?_
      refine r_iload_n hC dX8_nought_47 4 rfl ?_
      refine r_iload_n hC dX8_nought_48 5 rfl ?_
      refine r_iconst hC (v := (1)) dX8_nought_49 (by decide) (by decide) (fun x9_ e9 t9 => ?_)
      refine r_iadd hC dX8_nought_50 (fun x10_ e10 => ?_)
      try have t10 : x10_.toInt = x3.toInt + x9_.toInt := by rw [e10]; exact ti_add (by omega) (by omega)
      refine r_callS hC (As := [.int x2, .int x10_]) (rest := [.ref a6_]) (c_X8_row g (xL X) K len I5 J R hs5 x2 x10_ (by omega) (by omega) (by omega) (by omega)) mT_3_192 mT_1_1 mT_3_197 mT_3_191 okX8_row ⟨by decide, by decide⟩ rfl rfl (Nat.le_of_ble_eq_true rfl) ⟨by decide, by decide⟩ dX8_nought_51 (aI0 (F := fun st M => P g X 7 54 [(5, .int x8_), (4, .ref a5_), (0, .ref a0), (1, .int x1), (2, .int x2), (3, .int x3)] st _ _ M) (M := (K, len, I5, J, R)) fun x11_ h11 => ?_)
      have k11_0 := h11
      clear h11
      show P g X 7 54 [(5, .int x8_), (4, .ref a5_), (0, .ref a0), (1, .int x1), (2, .int x2), (3, .int x3)] [.int x11_, .ref a6_] _ _ (K, len, I5, J, R)
      refine x_iaload hC hk6 hn6 (by decide) rfl rfl dX8_nought_54 (by omega) (by omega) (fun x12_ e12 => ?_)
      have q12 : x12_.toInt = SV D x1.toInt.toNat (Ad D x1.toInt.toNat (LP1 D) 1) x10_.toInt.toNat x2.toInt.toNat := by rw [e12, clx (i := x11_) rfl (by omega), show x11_.toInt.toNat = 60 * x2.toInt.toNat + x10_.toInt.toNat by omega]; exact k5_3.spd hs k5_0 hb6 (by omega) (by omega)
      have jb12 := k5_2.svb (s := x1.toInt.toNat) (by omega) (w2 := 1) x10_.toInt.toNat x2.toInt.toNat
      refine r_istore hC (lv' := [(6, .int x12_), (5, .int x8_), (4, .ref a5_), (0, .ref a0), (1, .int x1), (2, .int x2), (3, .int x3)]) dX8_nought_55 (by decide) rfl ?_
      refine r_aload_n hC dX8_nought_57 3 rfl ?_
      refine r_iload_n hC dX8_nought_58 6 rfl ?_
      refine r_iload hC dX8_nought_59 1 rfl ?_
      refine r_iload hC dX8_nought_61 0 rfl ?_
      refine r_callS hC (As := [.int x3, .int x8_, .int x12_]) (rest := [.ref a0]) (c_X8_noughtBy g (xL X) K len I5 J R hs5 x3 x8_ x12_) mT_4_62 mT_1_1 mT_4_60 mT_4_61 okX8_noughtBy ⟨by decide, by decide⟩ rfl rfl (Nat.le_of_ble_eq_true rfl) ⟨by decide, by decide⟩ dX8_nought_63 (aI0 (F := fun st M => P g X 7 66 [(6, .int x12_), (5, .int x8_), (4, .ref a5_), (0, .ref a0), (1, .int x1), (2, .int x2), (3, .int x3)] st _ _ M) (M := (K, len, I5, J, R)) fun x13_ h13 => ?_)
      skip
      show P g X 7 66 [(6, .int x12_), (5, .int x8_), (4, .ref a5_), (0, .ref a0), (1, .int x1), (2, .int x2), (3, .int x3)] [.int x13_, .ref a0] _ _ (K, len, I5, J, R)
      refine r_callV hC (As := [.int x13_]) (rest := []) (ci := 8) (c_X8_answer g (xL X) K len I5 J R hs5 a0 ka0 x13_) mT_3_115 mT_1_1 mT_3_112 mT_3_114 mP_21 okX8_answer ⟨by decide, by decide⟩ rfl (by show kO (K a0) = _; rw [ka0]; rfl) rfl rfl (Nat.le_of_ble_eq_true rfl) ⟨by decide, by decide⟩ dX8_nought_66 (aI1 (F := fun st M => P g X 7 69 [(6, .int x12_), (5, .int x8_), (4, .ref a5_), (0, .ref a0), (1, .int x1), (2, .int x2), (3, .int x3)] st _ _ M) (M := (K, len, I5, J, R)) fun x14_ I14 h14 => ?_)
      obtain ⟨hs14, hf14, k14_0, k14_1⟩ := h14
      show P g X 7 69 [(6, .int x12_), (5, .int x8_), (4, .ref a5_), (0, .ref a0), (1, .int x1), (2, .int x2), (3, .int x3)] [.int x14_] _ _ (K, len, I14, J, R)
      have hF14 : Fr K [(1, 5), (1, 6), (9, 12), (43, 999), (50, 999), (51, 999), (52, 999), (53, 999), (54, 999)] I I14 := hF5.trans hf14 rfl rfl
      have hc14 := k5_2.mv ka hf14 rfl
      have coa5__14 := k5_3.mv hs k5_0 hf14 rfl
      exact r_iret hC hQ hlk hr rfl (by decide) (by decide) dX8_nought_69 ⟨_, _, rfl, rfl, ⟨hs14, hF14, (by exact hc14), (by omega)⟩⟩
    · refine r_aload_n hC dX8_nought_16 0 rfl ?_
      refine r_iconst hC (v := (1)) dX8_nought_17 (by decide) (by decide) (fun x15_ e15 t15 => ?_)
      refine r_callV hC (As := [.int x15_]) (rest := []) (ci := 8) (c_X8_refuse g (xL X) K len I J R hs a0 ka0 x15_) mT_2_133 mT_1_1 mT_2_130 mT_2_132 mP_0 okX8_refuse ⟨by decide, by decide⟩ rfl (by show kO (K a0) = _; rw [ka0]; rfl) rfl rfl (Nat.le_of_ble_eq_true rfl) ⟨by decide, by decide⟩ dX8_nought_18 (aI1 (F := fun st M => P g X 7 21 [(0, .ref a0), (1, .int x1), (2, .int x2), (3, .int x3)] st _ _ M) (M := (K, len, I, J, R)) fun x16_ I16 h16 => ?_)
      obtain ⟨hs16, hf16, k16_0, k16_1⟩ := h16
      show P g X 7 21 [(0, .ref a0), (1, .int x1), (2, .int x2), (3, .int x3)] [.int x16_] _ _ (K, len, I16, J, R)
      have hF16 : Fr K [(1, 5), (1, 6), (9, 12), (43, 999), (50, 999), (51, 999), (52, 999), (53, 999), (54, 999)] I I16 := hF.trans hf16 rfl rfl
      have hc16 := hc.mv ka hf16 rfl
      exact r_iret hC hQ hlk hr rfl (by decide) (by decide) dX8_nought_21 ⟨_, _, rfl, rfl, ⟨hs16, hF16, (by exact hc16), (by omega)⟩⟩
  · refine r_if_eq hC (tgt := 16) dX8_nought_7 (by decide) (fun c17 => ?_) (fun c17 => ?_)
    rotate_left
    · exfalso; omega
    refine r_aload_n hC dX8_nought_16 0 rfl ?_
    refine r_iconst hC (v := (1)) dX8_nought_17 (by decide) (by decide) (fun x18_ e18 t18 => ?_)
    refine r_callV hC (As := [.int x18_]) (rest := []) (ci := 8) (c_X8_refuse g (xL X) K len I J R hs a0 ka0 x18_) mT_2_133 mT_1_1 mT_2_130 mT_2_132 mP_0 okX8_refuse ⟨by decide, by decide⟩ rfl (by show kO (K a0) = _; rw [ka0]; rfl) rfl rfl (Nat.le_of_ble_eq_true rfl) ⟨by decide, by decide⟩ dX8_nought_18 (aI1 (F := fun st M => P g X 7 21 [(0, .ref a0), (1, .int x1), (2, .int x2), (3, .int x3)] st _ _ M) (M := (K, len, I, J, R)) fun x19_ I19 h19 => ?_)
    obtain ⟨hs19, hf19, k19_0, k19_1⟩ := h19
    show P g X 7 21 [(0, .ref a0), (1, .int x1), (2, .int x2), (3, .int x3)] [.int x19_] _ _ (K, len, I19, J, R)
    have hF19 : Fr K [(1, 5), (1, 6), (9, 12), (43, 999), (50, 999), (51, 999), (52, 999), (53, 999), (54, 999)] I I19 := hF.trans hf19 rfl rfl
    have hc19 := hc.mv ka hf19 rfl
    exact r_iret hC hQ hlk hr rfl (by decide) (by decide) dX8_nought_21 ⟨_, _, rfl, rfl, ⟨hs19, hF19, (by exact hc19), (by omega)⟩⟩
set_option maxHeartbeats 4000000 in
set_option maxRecDepth 100000 in
theorem f_X8_struck (g : GG) (l : Launch) (K len : Nat → Nat) (I : Nat → Nat → Int32) (J : Nat → Nat → Int64) (R : Nat → Nat → Option Nat) (hs : Sf K len I R) (a0 : Nat) (ka0 : K a0 = 9) (x1 : Int32) (x2 : Int32) (h : Nat) (hh : R a0 2 = some h) (kh : K h = 2) (lk : Nat) (hlk2 : R h 0 = some lk) (klk : K lk = 3) (rd : Nat) (hrd : R a0 9 = some rd) (krd : K rd = 4) (lv : Nat) (hlv : R a0 4 = some lv) (klv : K lv = 41) (llv : len lv = 60) (kn : Nat) (hkn : R a0 6 = some kn) (kkn : K kn = 43) (lkn : len kn = 6) (cr : Nat) (hcr : R a0 5 = some cr) (kcr1 : K cr = 44) (lcr : len cr = 6) (hu : UU K R) (D : DD) (E : Nat → Nat → Int) (hc : KC D E a0 h lk rd I R) : Ct g l yX8_struck cX8_struck 3 (Option.some Jvm.ClassFile.FieldType.int) rmX8_struck [.ref a0, .int x1, .int x2] (K, len, I, J, R) (pI1 (K, len, I, J, R) (fun r I' => Sf K len I' R ∧ Fr K [(1, 5), (1, 6), (9, 12), (43, 999), (50, 999), (51, 999), (52, 999), (53, 999), (54, 999)] I I' ∧ (KC D E a0 h lk rd I' R) ∧ ((I' a0 12).toInt ≠ 4))) := by
  refine Ct_intro (by decide +kernel) (Nat.le_of_ble_eq_true rfl) (fun X hC hL hKK hNm hr hlk hQ => ?_)
  subst hL
  have hC : Cx g X cX8_struck "HillTap" 3 rmX8_struck := hC
  show P g X 3 0 [(0, .ref a0), (1, .int x1), (2, .int x2)] [] 0 0 (K, len, I, J, R)
  have hF : Fr K [(1, 5), (1, 6), (9, 12), (43, 999), (50, 999), (51, 999), (52, 999), (53, 999), (54, 999)] I I := Fr.refl
  have ka : KA a0 h lk rd K len R := ⟨⟨_, hs⟩, hu, ka0, kh, klk, krd⟩
  obtain ⟨sd1, sd2, sd3, sd4, sd5, sd7, sd8, sd9⟩ := id hc.2.1
  have d7b := hs.rng kh (k := 6) rfl (x := I h 6) rfl
  have d5b := hs.rng kh (k := 1) rfl (x := I h 1) rfl
  have d8b := hs.rng kh (k := 8) rfl (x := I h 8) rfl
  have b_x1 := ti_rng x1
  have b_x2 := ti_rng x2
  refine r_aload_n hC dX8_struck_0 0 rfl ?_
  refine r_iload_n hC dX8_struck_1 1 rfl ?_
  refine r_callV hC (As := [.int x1]) (rest := []) (ci := 8) (f_X8_isStory g (xL X) K len I J R hs a0 ka0 x1 h hh kh) mT_3_155 mT_1_1 mT_3_152 mT_3_154 mP_24 okX8_isStory ⟨by decide, by decide⟩ rfl (by show kO (K a0) = _; rw [ka0]; rfl) rfl rfl (Nat.le_of_ble_eq_true rfl) ⟨by decide, by decide⟩ dX8_struck_2 (aI0 (F := fun st M => P g X 3 5 [(0, .ref a0), (1, .int x1), (2, .int x2)] st _ _ M) (M := (K, len, I, J, R)) fun x1_ h1 => ?_)
  have k1_0 := h1
  clear h1
  show P g X 3 5 [(0, .ref a0), (1, .int x1), (2, .int x2)] [.int x1_] _ _ (K, len, I, J, R)
  rcases k1_0 with ⟨hr1, hw1⟩ | ⟨hr1, hw1⟩
  · refine r_if_eq hC (tgt := 16) dX8_struck_5 (by decide) (fun c2 => ?_) (fun c2 => ?_)
    · exfalso; omega
    refine r_aload_n hC dX8_struck_8 0 rfl ?_
    refine r_iload_n hC dX8_struck_9 2 rfl ?_
    refine r_callV hC (As := [.int x2]) (rest := []) (ci := 8) (f_X8_isVillage g (xL X) K len I J R hs a0 ka0 x2 h hh kh) mT_4_119 mT_1_1 mT_4_116 mT_4_118 mP_45 okX8_isVillage ⟨by decide, by decide⟩ rfl (by show kO (K a0) = _; rw [ka0]; rfl) rfl rfl (Nat.le_of_ble_eq_true rfl) ⟨by decide, by decide⟩ dX8_struck_10 (aI0 (F := fun st M => P g X 3 13 [(0, .ref a0), (1, .int x1), (2, .int x2)] st _ _ M) (M := (K, len, I, J, R)) fun x3_ h3 => ?_)
    have k3_0 := h3
    clear h3
    show P g X 3 13 [(0, .ref a0), (1, .int x1), (2, .int x2)] [.int x3_] _ _ (K, len, I, J, R)
    rcases k3_0 with ⟨hr3, hw3⟩ | ⟨hr3, hw3⟩
    · refine r_if_ne hC (tgt := 22) dX8_struck_13 (by decide) (fun c4 => ?_) (fun c4 => ?_)
      rotate_left
      · exfalso; omega
      refine r_aload_n hC dX8_struck_22 0 rfl ?_
      refine r_aload_n hC dX8_struck_23 0 rfl ?_
      refine r_iload_n hC dX8_struck_24 1 rfl ?_
      refine r_iload_n hC dX8_struck_25 2 rfl ?_
      refine r_callV hC (As := [.int x1, .int x2]) (rest := [.ref a0]) (ci := 8) (f_X8_strikes g (xL X) K len I J R hs a0 ka0 x1 x2 h hh kh lk hlk2 klk rd hrd krd lv hlv klv llv kn hkn kkn lkn cr hcr kcr1 lcr hu D E hc (by omega) (by omega) (by omega) (by omega)) mT_4_123 mT_1_1 mT_4_120 mT_4_122 mP_46 okX8_strikes ⟨by decide, by decide⟩ rfl (by show kO (K a0) = _; rw [ka0]; rfl) rfl rfl (Nat.le_of_ble_eq_true rfl) ⟨by decide, by decide⟩ dX8_struck_26 (aI1 (F := fun st M => P g X 3 29 [(0, .ref a0), (1, .int x1), (2, .int x2)] st _ _ M) (M := (K, len, I, J, R)) fun x5_ I5 h5 => ?_)
      obtain ⟨hs5, hf5, k5_0, k5_1⟩ := h5
      show P g X 3 29 [(0, .ref a0), (1, .int x1), (2, .int x2)] [.int x5_, .ref a0] _ _ (K, len, I5, J, R)
      have hF5 : Fr K [(1, 5), (1, 6), (9, 12), (43, 999), (50, 999), (51, 999), (52, 999), (53, 999), (54, 999)] I I5 := hF.trans hf5 rfl rfl
      refine r_if_eq hC (tgt := 36) dX8_struck_29 (by decide) (fun c6 => ?_) (fun c6 => ?_)
      · refine r_iconst hC (v := (0)) dX8_struck_36 (by decide) (by decide) (fun x7_ e7 t7 => ?_)
        refine r_callV hC (As := [.int x7_]) (rest := []) (ci := 8) (c_X8_answer g (xL X) K len I5 J R hs5 a0 ka0 x7_) mT_3_115 mT_1_1 mT_3_112 mT_3_114 mP_21 okX8_answer ⟨by decide, by decide⟩ rfl (by show kO (K a0) = _; rw [ka0]; rfl) rfl rfl (Nat.le_of_ble_eq_true rfl) ⟨by decide, by decide⟩ dX8_struck_37 (aI1 (F := fun st M => P g X 3 40 [(0, .ref a0), (1, .int x1), (2, .int x2)] st _ _ M) (M := (K, len, I5, J, R)) fun x8_ I8 h8 => ?_)
        obtain ⟨hs8, hf8, k8_0, k8_1⟩ := h8
        show P g X 3 40 [(0, .ref a0), (1, .int x1), (2, .int x2)] [.int x8_] _ _ (K, len, I8, J, R)
        have hF8 : Fr K [(1, 5), (1, 6), (9, 12), (43, 999), (50, 999), (51, 999), (52, 999), (53, 999), (54, 999)] I I8 := hF5.trans hf8 rfl rfl
        have hc8 := k5_0.mv ka hf8 rfl
        exact r_iret hC hQ hlk hr rfl (by decide) (by decide) dX8_struck_40 ⟨_, _, rfl, rfl, ⟨hs8, hF8, (by exact hc8), (by omega)⟩⟩
      · refine r_iconst hC (v := (1)) dX8_struck_32 (by decide) (by decide) (fun x9_ e9 t9 => ?_)
        refine r_goto hC (tgt := 37) dX8_struck_33 (by decide) ?_
        refine r_callV hC (As := [.int x9_]) (rest := []) (ci := 8) (c_X8_answer g (xL X) K len I5 J R hs5 a0 ka0 x9_) mT_3_115 mT_1_1 mT_3_112 mT_3_114 mP_21 okX8_answer ⟨by decide, by decide⟩ rfl (by show kO (K a0) = _; rw [ka0]; rfl) rfl rfl (Nat.le_of_ble_eq_true rfl) ⟨by decide, by decide⟩ dX8_struck_37 (aI1 (F := fun st M => P g X 3 40 [(0, .ref a0), (1, .int x1), (2, .int x2)] st _ _ M) (M := (K, len, I5, J, R)) fun x10_ I10 h10 => ?_)
        obtain ⟨hs10, hf10, k10_0, k10_1⟩ := h10
        show P g X 3 40 [(0, .ref a0), (1, .int x1), (2, .int x2)] [.int x10_] _ _ (K, len, I10, J, R)
        have hF10 : Fr K [(1, 5), (1, 6), (9, 12), (43, 999), (50, 999), (51, 999), (52, 999), (53, 999), (54, 999)] I I10 := hF5.trans hf10 rfl rfl
        have hc10 := k5_0.mv ka hf10 rfl
        exact r_iret hC hQ hlk hr rfl (by decide) (by decide) dX8_struck_40 ⟨_, _, rfl, rfl, ⟨hs10, hF10, (by exact hc10), (by omega)⟩⟩
    · refine r_if_ne hC (tgt := 22) dX8_struck_13 (by decide) (fun c11 => ?_) (fun c11 => ?_)
      · exfalso; omega
      refine r_aload_n hC dX8_struck_16 0 rfl ?_
      refine r_iconst hC (v := (1)) dX8_struck_17 (by decide) (by decide) (fun x12_ e12 t12 => ?_)
      refine r_callV hC (As := [.int x12_]) (rest := []) (ci := 8) (c_X8_refuse g (xL X) K len I J R hs a0 ka0 x12_) mT_2_133 mT_1_1 mT_2_130 mT_2_132 mP_0 okX8_refuse ⟨by decide, by decide⟩ rfl (by show kO (K a0) = _; rw [ka0]; rfl) rfl rfl (Nat.le_of_ble_eq_true rfl) ⟨by decide, by decide⟩ dX8_struck_18 (aI1 (F := fun st M => P g X 3 21 [(0, .ref a0), (1, .int x1), (2, .int x2)] st _ _ M) (M := (K, len, I, J, R)) fun x13_ I13 h13 => ?_)
      obtain ⟨hs13, hf13, k13_0, k13_1⟩ := h13
      show P g X 3 21 [(0, .ref a0), (1, .int x1), (2, .int x2)] [.int x13_] _ _ (K, len, I13, J, R)
      have hF13 : Fr K [(1, 5), (1, 6), (9, 12), (43, 999), (50, 999), (51, 999), (52, 999), (53, 999), (54, 999)] I I13 := hF.trans hf13 rfl rfl
      have hc13 := hc.mv ka hf13 rfl
      exact r_iret hC hQ hlk hr rfl (by decide) (by decide) dX8_struck_21 ⟨_, _, rfl, rfl, ⟨hs13, hF13, (by exact hc13), (by omega)⟩⟩
  · refine r_if_eq hC (tgt := 16) dX8_struck_5 (by decide) (fun c14 => ?_) (fun c14 => ?_)
    rotate_left
    · exfalso; omega
    refine r_aload_n hC dX8_struck_16 0 rfl ?_
    refine r_iconst hC (v := (1)) dX8_struck_17 (by decide) (by decide) (fun x15_ e15 t15 => ?_)
    refine r_callV hC (As := [.int x15_]) (rest := []) (ci := 8) (c_X8_refuse g (xL X) K len I J R hs a0 ka0 x15_) mT_2_133 mT_1_1 mT_2_130 mT_2_132 mP_0 okX8_refuse ⟨by decide, by decide⟩ rfl (by show kO (K a0) = _; rw [ka0]; rfl) rfl rfl (Nat.le_of_ble_eq_true rfl) ⟨by decide, by decide⟩ dX8_struck_18 (aI1 (F := fun st M => P g X 3 21 [(0, .ref a0), (1, .int x1), (2, .int x2)] st _ _ M) (M := (K, len, I, J, R)) fun x16_ I16 h16 => ?_)
    obtain ⟨hs16, hf16, k16_0, k16_1⟩ := h16
    show P g X 3 21 [(0, .ref a0), (1, .int x1), (2, .int x2)] [.int x16_] _ _ (K, len, I16, J, R)
    have hF16 : Fr K [(1, 5), (1, 6), (9, 12), (43, 999), (50, 999), (51, 999), (52, 999), (53, 999), (54, 999)] I I16 := hF.trans hf16 rfl rfl
    have hc16 := hc.mv ka hf16 rfl
    exact r_iret hC hQ hlk hr rfl (by decide) (by decide) dX8_struck_21 ⟨_, _, rfl, rfl, ⟨hs16, hF16, (by exact hc16), (by omega)⟩⟩
set_option maxHeartbeats 4000000 in
set_option maxRecDepth 100000 in
theorem f_X8_tapOf (g : GG) (l : Launch) (K len : Nat → Nat) (I : Nat → Nat → Int32) (J : Nat → Nat → Int64) (R : Nat → Nat → Option Nat) (hs : Sf K len I R) (a0 : Nat) (ka0 : K a0 = 9) (x1 : Int32) (h : Nat) (hh : R a0 2 = some h) (kh : K h = 2) (lk : Nat) (hlk2 : R h 0 = some lk) (klk : K lk = 3) (rd : Nat) (hrd : R a0 9 = some rd) (krd : K rd = 4) (lv : Nat) (hlv : R a0 4 = some lv) (klv : K lv = 41) (llv : len lv = 60) (kn : Nat) (hkn : R a0 6 = some kn) (kkn : K kn = 43) (lkn : len kn = 6) (cr : Nat) (hcr : R a0 5 = some cr) (kcr1 : K cr = 44) (lcr : len cr = 6) (hu : UU K R) (D : DD) (E : Nat → Nat → Int) (hc : KC D E a0 h lk rd I R) (p0 : 0 ≤ x1.toInt) (p1 : x1.toInt < D 0 7) : Ct g l yX8_tapOf cX8_tapOf 5 (Option.some Jvm.ClassFile.FieldType.int) rmX8_tapOf [.ref a0, .int x1] (K, len, I, J, R) (pI1 (K, len, I, J, R) (fun r I' => Sf K len I' R ∧ Fr K [(1, 5), (1, 6), (43, 999), (50, 999), (51, 999), (52, 999), (53, 999), (54, 999)] I I' ∧ (KC D E a0 h lk rd I' R))) := by
  refine Ct_intro (by decide +kernel) (Nat.le_of_ble_eq_true rfl) (fun X hC hL hKK hNm hr hlk hQ => ?_)
  subst hL
  have hC : Cx g X cX8_tapOf "HillTap" 5 rmX8_tapOf := hC
  show P g X 5 0 [(0, .ref a0), (1, .int x1)] [] 0 0 (K, len, I, J, R)
  have hF : Fr K [(1, 5), (1, 6), (43, 999), (50, 999), (51, 999), (52, 999), (53, 999), (54, 999)] I I := Fr.refl
  have ka : KA a0 h lk rd K len R := ⟨⟨_, hs⟩, hu, ka0, kh, klk, krd⟩
  obtain ⟨sd1, sd2, sd3, sd4, sd5, sd7, sd8, sd9⟩ := id hc.2.1
  have d7b := hs.rng kh (k := 6) rfl (x := I h 6) rfl
  have d5b := hs.rng kh (k := 1) rfl (x := I h 1) rfl
  have d8b := hs.rng kh (k := 8) rfl (x := I h 8) rfl
  have b_x1 := ti_rng x1
  refine r_aload_n hC dX8_tapOf_0 0 rfl ?_
  refine r_iload_n hC dX8_tapOf_1 1 rfl ?_
  refine r_callV hC (As := [.int x1]) (rest := []) (ci := 8) (f_X8_courseOf g (xL X) K len I J R hs a0 ka0 x1 h hh kh lk hlk2 klk rd hrd krd lv hlv klv llv kn hkn kkn lkn cr hcr kcr1 lcr hu D E hc (by omega) (by omega)) mT_3_163 mT_1_1 mT_3_160 mT_3_162 mP_26 okX8_courseOf ⟨by decide, by decide⟩ rfl (by show kO (K a0) = _; rw [ka0]; rfl) rfl rfl (Nat.le_of_ble_eq_true rfl) ⟨by decide, by decide⟩ dX8_tapOf_2 (aR1 (F := fun st M => P g X 5 5 [(0, .ref a0), (1, .int x1)] st _ _ M) (M := (K, len, I, J, R)) fun a1_ I1 h1 => ?_)
  obtain ⟨hs1, hf1, k1_0, k1_1, k1_2, k1_3, k1_4⟩ := h1
  show P g X 5 5 [(0, .ref a0), (1, .int x1)] [.ref a1_] _ _ (K, len, I1, J, R)
  have hF1 : Fr K [(1, 5), (1, 6), (43, 999), (50, 999), (51, 999), (52, 999), (53, 999), (54, 999)] I I1 := hF.trans hf1 rfl rfl
  refine r_astore_n hC (lv' := [(2, .ref a1_), (0, .ref a0), (1, .int x1)]) dX8_tapOf_5 (by decide) rfl ?_
  refine r_iconst hC (v := (0)) dX8_tapOf_6 (by decide) (by decide) (fun x2_ e2 t2 => ?_)
  refine r_istore_n hC (lv' := [(3, .int x2_), (2, .ref a1_), (0, .ref a0), (1, .int x1)]) dX8_tapOf_7 (by decide) rfl ?_
  refine r_iconst hC (v := (0)) dX8_tapOf_8 (by decide) (by decide) (fun x3_ e3 t3 => ?_)
  refine r_istore hC (lv' := [(4, .int x3_), (3, .int x2_), (2, .ref a1_), (0, .ref a0), (1, .int x1)]) dX8_tapOf_9 (by decide) rfl ?_
  have LP4 : ∀ (mu : Nat) (x4_4 : Int32) (x4_3 : Int32) (v4_0 : 0 ≤ x4_4.toInt) (v4_1 : x4_4.toInt ≤ 60), (60 - x4_4.toInt).toNat = mu → P g X 5 11 [(0, .ref a0), (1, .int x1), (2, .ref a1_), (3, .int x4_3), (4, .int x4_4)] [] 0 0 (K, len, I1, J, R) := by
    intro mu; induction mu using Nat.strongRecOn with | ind mu ih => ?_
    intro x4_4 x4_3 v4_0 v4_1 hmu
    have ih4 := ih
    clear ih
    have hmu4 := hmu
    clear hmu
    refine r_iload hC dX8_tapOf_11 4 rfl ?_
    refine r_bipush hC (v := (60)) dX8_tapOf_13 (by decide) (by decide) (fun x5_ e5 t5 => ?_)
    refine r_icmp_ge hC (tgt := 47) dX8_tapOf_15 (by decide) (fun c6 => ?_) (fun c6 => ?_)
    · refine r_iload_n hC dX8_tapOf_47 3 rfl ?_
      exact r_iret hC hQ hlk hr rfl (by decide) (by decide) dX8_tapOf_48 ⟨_, _, rfl, rfl, ⟨hs1, hF1, (by exact k1_2)⟩⟩
    · refine r_aload_n hC dX8_tapOf_18 0 rfl ?_
      refine r_iload hC dX8_tapOf_19 4 rfl ?_
      refine r_callV hC (As := [.int x4_4]) (rest := []) (ci := 8) (c_X8_isLetting g (xL X) K len I1 J R hs1 a0 ka0 x4_4) mT_4_31 mT_1_1 mT_4_28 mT_4_30 mP_38 okX8_isLetting ⟨by decide, by decide⟩ rfl (by show kO (K a0) = _; rw [ka0]; rfl) rfl rfl (Nat.le_of_ble_eq_true rfl) ⟨by decide, by decide⟩ dX8_tapOf_21 (aI0 (F := fun st M => P g X 5 24 [(0, .ref a0), (1, .int x1), (2, .ref a1_), (3, .int x4_3), (4, .int x4_4)] st _ _ M) (M := (K, len, I1, J, R)) fun x7_ h7 => ?_)
      obtain ⟨k7_0, k7_1⟩ := h7
      show P g X 5 24 [(0, .ref a0), (1, .int x1), (2, .ref a1_), (3, .int x4_3), (4, .int x4_4)] [.int x7_] _ _ (K, len, I1, J, R)
      refine r_if_eq hC (tgt := 41) dX8_tapOf_24 (by decide) (fun c8 => ?_) (fun c8 => ?_)
      · obtain ⟨x9_, e9⟩ : ∃ z : Int32, z = x4_4 + Int32.ofInt (1) := ⟨_, rfl⟩
        refine r_iinc hC (j := 4) (v := x9_) (lv' := [(4, .int x9_), (0, .ref a0), (1, .int x1), (2, .ref a1_), (3, .int x4_3)]) dX8_tapOf_41 rfl (by rw [e9]) (by decide) rfl ?_
        try have t9 : x9_.toInt = x4_4.toInt + (1) := by rw [e9]; exact (ti_add (b := Int32.ofInt (1)) (by show _ ≤ _ + (1 : Int); omega) (by show _ + (1 : Int) ≤ _; omega))
        refine r_goto hC (tgt := 11) dX8_tapOf_44 (by decide) ?_
        refine r_sub [1, 2, 3, 4, 0] rfl ?_
        exact ih4 ((60 - x9_.toInt).toNat) (by omega) x9_ x4_3 (by omega) (by omega) rfl
      · refine r_aload_n hC dX8_tapOf_27 2 rfl ?_
        refine r_iload hC dX8_tapOf_28 4 rfl ?_
        refine r_callV hC (As := [.int x4_4]) (rest := []) (ci := 0) (c_X0_heldFrom g (xL X) K len I1 J R hs1 a1_ k1_0 x4_4 (by omega) (by omega)) mT_4_47 mT_1_8 mT_4_44 mT_4_45 mT_4_46 okX0_heldFrom ⟨by decide, by decide⟩ rfl (by show kO (K a1_) = _; rw [k1_0]; rfl) rfl rfl (Nat.le_of_ble_eq_true rfl) ⟨by decide, by decide⟩ dX8_tapOf_30 (aI0 (F := fun st M => P g X 5 33 [(0, .ref a0), (1, .int x1), (2, .ref a1_), (3, .int x4_3), (4, .int x4_4)] st _ _ M) (M := (K, len, I1, J, R)) fun x10_ h10 => ?_)
        obtain ⟨k10_0, k10_1⟩ := h10
        show P g X 5 33 [(0, .ref a0), (1, .int x1), (2, .ref a1_), (3, .int x4_3), (4, .int x4_4)] [.int x10_] _ _ (K, len, I1, J, R)
        refine r_if_ne hC (tgt := 38) dX8_tapOf_33 (by decide) (fun c11 => ?_) (fun c11 => ?_)
        · obtain ⟨x12_, e12⟩ : ∃ z : Int32, z = x4_3 + Int32.ofInt (1) := ⟨_, rfl⟩
          refine r_iinc hC (j := 3) (v := x12_) (lv' := [(3, .int x12_), (0, .ref a0), (1, .int x1), (2, .ref a1_), (4, .int x4_4)]) dX8_tapOf_38 rfl (by rw [e12]) (by decide) rfl ?_
          try have t12 : x12_.toInt = x4_3.toInt + (1) := by rw [e12]; exact (ti_add (b := Int32.ofInt (1)) (by show _ ≤ _ + (1 : Int); omega) (by show _ + (1 : Int) ≤ _; omega))
          obtain ⟨x13_, e13⟩ : ∃ z : Int32, z = x4_4 + Int32.ofInt (1) := ⟨_, rfl⟩
          refine r_iinc hC (j := 4) (v := x13_) (lv' := [(4, .int x13_), (3, .int x12_), (0, .ref a0), (1, .int x1), (2, .ref a1_)]) dX8_tapOf_41 rfl (by rw [e13]) (by decide) rfl ?_
          try have t13 : x13_.toInt = x4_4.toInt + (1) := by rw [e13]; exact (ti_add (b := Int32.ofInt (1)) (by show _ ≤ _ + (1 : Int); omega) (by show _ + (1 : Int) ≤ _; omega))
          refine r_goto hC (tgt := 11) dX8_tapOf_44 (by decide) ?_
          refine r_sub [2, 3, 4, 1, 0] rfl ?_
          exact ih4 ((60 - x13_.toInt).toNat) (by omega) x13_ x12_ (by omega) (by omega) rfl
        · refine r_iload_n hC dX8_tapOf_36 3 rfl ?_
          exact r_iret hC hQ hlk hr rfl (by decide) (by decide) dX8_tapOf_37 ⟨_, _, rfl, rfl, ⟨hs1, hF1, (by exact k1_2)⟩⟩
  refine r_sub [3, 4, 2, 1, 0] rfl ?_
  exact LP4 _ x3_ x2_ (by omega) (by omega) rfl
set_option maxHeartbeats 4000000 in
set_option maxRecDepth 100000 in
theorem f_X8_tap (g : GG) (l : Launch) (K len : Nat → Nat) (I : Nat → Nat → Int32) (J : Nat → Nat → Int64) (R : Nat → Nat → Option Nat) (hs : Sf K len I R) (a0 : Nat) (ka0 : K a0 = 9) (x1 : Int32) (h : Nat) (hh : R a0 2 = some h) (kh : K h = 2) (lk : Nat) (hlk2 : R h 0 = some lk) (klk : K lk = 3) (rd : Nat) (hrd : R a0 9 = some rd) (krd : K rd = 4) (lv : Nat) (hlv : R a0 4 = some lv) (klv : K lv = 41) (llv : len lv = 60) (kn : Nat) (hkn : R a0 6 = some kn) (kkn : K kn = 43) (lkn : len kn = 6) (cr : Nat) (hcr : R a0 5 = some cr) (kcr1 : K cr = 44) (lcr : len cr = 6) (hu : UU K R) (D : DD) (E : Nat → Nat → Int) (hc : KC D E a0 h lk rd I R) : Ct g l yX8_tap cX8_tap 2 (Option.some Jvm.ClassFile.FieldType.int) rmX8_tap [.ref a0, .int x1] (K, len, I, J, R) (pI1 (K, len, I, J, R) (fun r I' => Sf K len I' R ∧ Fr K [(1, 5), (1, 6), (9, 12), (43, 999), (50, 999), (51, 999), (52, 999), (53, 999), (54, 999)] I I' ∧ (KC D E a0 h lk rd I' R) ∧ ((I' a0 12).toInt ≠ 4))) := by
  refine Ct_intro (by decide +kernel) (Nat.le_of_ble_eq_true rfl) (fun X hC hL hKK hNm hr hlk hQ => ?_)
  subst hL
  have hC : Cx g X cX8_tap "HillTap" 2 rmX8_tap := hC
  show P g X 2 0 [(0, .ref a0), (1, .int x1)] [] 0 0 (K, len, I, J, R)
  have hF : Fr K [(1, 5), (1, 6), (9, 12), (43, 999), (50, 999), (51, 999), (52, 999), (53, 999), (54, 999)] I I := Fr.refl
  have ka : KA a0 h lk rd K len R := ⟨⟨_, hs⟩, hu, ka0, kh, klk, krd⟩
  obtain ⟨sd1, sd2, sd3, sd4, sd5, sd7, sd8, sd9⟩ := id hc.2.1
  have d7b := hs.rng kh (k := 6) rfl (x := I h 6) rfl
  have d5b := hs.rng kh (k := 1) rfl (x := I h 1) rfl
  have d8b := hs.rng kh (k := 8) rfl (x := I h 8) rfl
  have b_x1 := ti_rng x1
  refine r_aload_n hC dX8_tap_0 0 rfl ?_
  refine r_iload_n hC dX8_tap_1 1 rfl ?_
  refine r_callV hC (As := [.int x1]) (rest := []) (ci := 8) (f_X8_isStory g (xL X) K len I J R hs a0 ka0 x1 h hh kh) mT_3_155 mT_1_1 mT_3_152 mT_3_154 mP_24 okX8_isStory ⟨by decide, by decide⟩ rfl (by show kO (K a0) = _; rw [ka0]; rfl) rfl rfl (Nat.le_of_ble_eq_true rfl) ⟨by decide, by decide⟩ dX8_tap_2 (aI0 (F := fun st M => P g X 2 5 [(0, .ref a0), (1, .int x1)] st _ _ M) (M := (K, len, I, J, R)) fun x1_ h1 => ?_)
  have k1_0 := h1
  clear h1
  show P g X 2 5 [(0, .ref a0), (1, .int x1)] [.int x1_] _ _ (K, len, I, J, R)
  rcases k1_0 with ⟨hr1, hw1⟩ | ⟨hr1, hw1⟩
  · refine r_if_ne hC (tgt := 14) dX8_tap_5 (by decide) (fun c2 => ?_) (fun c2 => ?_)
    rotate_left
    · exfalso; omega
    refine r_aload_n hC dX8_tap_14 0 rfl ?_
    refine r_aload_n hC dX8_tap_15 0 rfl ?_
    refine r_iload_n hC dX8_tap_16 1 rfl ?_
    refine r_callV hC (As := [.int x1]) (rest := [.ref a0]) (ci := 8) (f_X8_tapOf g (xL X) K len I J R hs a0 ka0 x1 h hh kh lk hlk2 klk rd hrd krd lv hlv klv llv kn hkn kkn lkn cr hcr kcr1 lcr hu D E hc (by omega) (by omega)) mT_4_43 mT_1_1 mT_4_40 mT_4_42 mP_40 okX8_tapOf ⟨by decide, by decide⟩ rfl (by show kO (K a0) = _; rw [ka0]; rfl) rfl rfl (Nat.le_of_ble_eq_true rfl) ⟨by decide, by decide⟩ dX8_tap_17 (aI1 (F := fun st M => P g X 2 20 [(0, .ref a0), (1, .int x1)] st _ _ M) (M := (K, len, I, J, R)) fun x3_ I3 h3 => ?_)
    obtain ⟨hs3, hf3, k3_0⟩ := h3
    show P g X 2 20 [(0, .ref a0), (1, .int x1)] [.int x3_, .ref a0] _ _ (K, len, I3, J, R)
    have hF3 : Fr K [(1, 5), (1, 6), (9, 12), (43, 999), (50, 999), (51, 999), (52, 999), (53, 999), (54, 999)] I I3 := hF.trans hf3 rfl rfl
    refine r_callV hC (As := [.int x3_]) (rest := []) (ci := 8) (c_X8_answer g (xL X) K len I3 J R hs3 a0 ka0 x3_) mT_3_115 mT_1_1 mT_3_112 mT_3_114 mP_21 okX8_answer ⟨by decide, by decide⟩ rfl (by show kO (K a0) = _; rw [ka0]; rfl) rfl rfl (Nat.le_of_ble_eq_true rfl) ⟨by decide, by decide⟩ dX8_tap_20 (aI1 (F := fun st M => P g X 2 23 [(0, .ref a0), (1, .int x1)] st _ _ M) (M := (K, len, I3, J, R)) fun x4_ I4 h4 => ?_)
    obtain ⟨hs4, hf4, k4_0, k4_1⟩ := h4
    show P g X 2 23 [(0, .ref a0), (1, .int x1)] [.int x4_] _ _ (K, len, I4, J, R)
    have hF4 : Fr K [(1, 5), (1, 6), (9, 12), (43, 999), (50, 999), (51, 999), (52, 999), (53, 999), (54, 999)] I I4 := hF3.trans hf4 rfl rfl
    have hc4 := k3_0.mv ka hf4 rfl
    exact r_iret hC hQ hlk hr rfl (by decide) (by decide) dX8_tap_23 ⟨_, _, rfl, rfl, ⟨hs4, hF4, (by exact hc4), (by omega)⟩⟩
  · refine r_if_ne hC (tgt := 14) dX8_tap_5 (by decide) (fun c5 => ?_) (fun c5 => ?_)
    · exfalso; omega
    refine r_aload_n hC dX8_tap_8 0 rfl ?_
    refine r_iconst hC (v := (1)) dX8_tap_9 (by decide) (by decide) (fun x6_ e6 t6 => ?_)
    refine r_callV hC (As := [.int x6_]) (rest := []) (ci := 8) (c_X8_refuse g (xL X) K len I J R hs a0 ka0 x6_) mT_2_133 mT_1_1 mT_2_130 mT_2_132 mP_0 okX8_refuse ⟨by decide, by decide⟩ rfl (by show kO (K a0) = _; rw [ka0]; rfl) rfl rfl (Nat.le_of_ble_eq_true rfl) ⟨by decide, by decide⟩ dX8_tap_10 (aI1 (F := fun st M => P g X 2 13 [(0, .ref a0), (1, .int x1)] st _ _ M) (M := (K, len, I, J, R)) fun x7_ I7 h7 => ?_)
    obtain ⟨hs7, hf7, k7_0, k7_1⟩ := h7
    show P g X 2 13 [(0, .ref a0), (1, .int x1)] [.int x7_] _ _ (K, len, I7, J, R)
    have hF7 : Fr K [(1, 5), (1, 6), (9, 12), (43, 999), (50, 999), (51, 999), (52, 999), (53, 999), (54, 999)] I I7 := hF.trans hf7 rfl rfl
    have hc7 := hc.mv ka hf7 rfl
    exact r_iret hC hQ hlk hr rfl (by decide) (by decide) dX8_tap_13 ⟨_, _, rfl, rfl, ⟨hs7, hF7, (by exact hc7), (by omega)⟩⟩
set_option maxHeartbeats 4000000 in
set_option maxRecDepth 100000 in
theorem f_X8_fooled (g : GG) (l : Launch) (K len : Nat → Nat) (I : Nat → Nat → Int32) (J : Nat → Nat → Int64) (R : Nat → Nat → Option Nat) (hs : Sf K len I R) (a0 : Nat) (ka0 : K a0 = 9) (x1 : Int32) (h : Nat) (hh : R a0 2 = some h) (kh : K h = 2) (lk : Nat) (hlk2 : R h 0 = some lk) (klk : K lk = 3) (rd : Nat) (hrd : R a0 9 = some rd) (krd : K rd = 4) (lv : Nat) (hlv : R a0 4 = some lv) (klv : K lv = 41) (llv : len lv = 60) (kn : Nat) (hkn : R a0 6 = some kn) (kkn : K kn = 43) (lkn : len kn = 6) (cr : Nat) (hcr : R a0 5 = some cr) (kcr1 : K cr = 44) (lcr : len cr = 6) (hu : UU K R) (D : DD) (E : Nat → Nat → Int) (hc : KC D E a0 h lk rd I R) : Ct g l yX8_fooled cX8_fooled 3 (Option.some Jvm.ClassFile.FieldType.int) rmX8_fooled [.ref a0, .int x1] (K, len, I, J, R) (pI1 (K, len, I, J, R) (fun r I' => Sf K len I' R ∧ Fr K [(1, 5), (1, 6), (9, 12), (43, 999), (50, 999), (51, 999), (52, 999), (53, 999), (54, 999)] I I' ∧ (KC D E a0 h lk rd I' R) ∧ ((I' a0 12).toInt ≠ 4))) := by
  refine Ct_intro (by decide +kernel) (Nat.le_of_ble_eq_true rfl) (fun X hC hL hKK hNm hr hlk hQ => ?_)
  subst hL
  have hC : Cx g X cX8_fooled "HillTap" 3 rmX8_fooled := hC
  show P g X 3 0 [(0, .ref a0), (1, .int x1)] [] 0 0 (K, len, I, J, R)
  have hF : Fr K [(1, 5), (1, 6), (9, 12), (43, 999), (50, 999), (51, 999), (52, 999), (53, 999), (54, 999)] I I := Fr.refl
  have ka : KA a0 h lk rd K len R := ⟨⟨_, hs⟩, hu, ka0, kh, klk, krd⟩
  obtain ⟨sd1, sd2, sd3, sd4, sd5, sd7, sd8, sd9⟩ := id hc.2.1
  have d7b := hs.rng kh (k := 6) rfl (x := I h 6) rfl
  have d5b := hs.rng kh (k := 1) rfl (x := I h 1) rfl
  have d8b := hs.rng kh (k := 8) rfl (x := I h 8) rfl
  have b_x1 := ti_rng x1
  refine r_aload_n hC dX8_fooled_0 0 rfl ?_
  refine r_callV hC (As := []) (rest := []) (ci := 8) (f_X8_noHill g (xL X) K len I J R hs a0 ka0 h hh kh) mT_3_131 mT_1_1 mT_3_128 mT_3_130 mP_22 okX8_noHill ⟨by decide, by decide⟩ rfl (by show kO (K a0) = _; rw [ka0]; rfl) rfl rfl (Nat.le_of_ble_eq_true rfl) ⟨by decide, by decide⟩ dX8_fooled_1 (aI0 (F := fun st M => P g X 3 4 [(0, .ref a0), (1, .int x1)] st _ _ M) (M := (K, len, I, J, R)) fun x1_ h1 => ?_)
  have k1_0 := h1
  clear h1
  show P g X 3 4 [(0, .ref a0), (1, .int x1)] [.int x1_] _ _ (K, len, I, J, R)
  rcases k1_0 with ⟨hr1, hw1⟩ | ⟨hr1, hw1⟩
  · refine r_if_eq hC (tgt := 13) dX8_fooled_4 (by decide) (fun c2 => ?_) (fun c2 => ?_)
    · exfalso; omega
    refine r_aload_n hC dX8_fooled_7 0 rfl ?_
    refine r_iconst hC (v := (1)) dX8_fooled_8 (by decide) (by decide) (fun x3_ e3 t3 => ?_)
    refine r_callV hC (As := [.int x3_]) (rest := []) (ci := 8) (c_X8_refuse g (xL X) K len I J R hs a0 ka0 x3_) mT_2_133 mT_1_1 mT_2_130 mT_2_132 mP_0 okX8_refuse ⟨by decide, by decide⟩ rfl (by show kO (K a0) = _; rw [ka0]; rfl) rfl rfl (Nat.le_of_ble_eq_true rfl) ⟨by decide, by decide⟩ dX8_fooled_9 (aI1 (F := fun st M => P g X 3 12 [(0, .ref a0), (1, .int x1)] st _ _ M) (M := (K, len, I, J, R)) fun x4_ I4 h4 => ?_)
    obtain ⟨hs4, hf4, k4_0, k4_1⟩ := h4
    show P g X 3 12 [(0, .ref a0), (1, .int x1)] [.int x4_] _ _ (K, len, I4, J, R)
    have hF4 : Fr K [(1, 5), (1, 6), (9, 12), (43, 999), (50, 999), (51, 999), (52, 999), (53, 999), (54, 999)] I I4 := hF.trans hf4 rfl rfl
    have hc4 := hc.mv ka hf4 rfl
    exact r_iret hC hQ hlk hr rfl (by decide) (by decide) dX8_fooled_12 ⟨_, _, rfl, rfl, ⟨hs4, hF4, (by exact hc4), (by omega)⟩⟩
  · refine r_if_eq hC (tgt := 13) dX8_fooled_4 (by decide) (fun c5 => ?_) (fun c5 => ?_)
    rotate_left
    · exfalso; omega
    refine r_iload_n hC dX8_fooled_13 1 rfl ?_
    refine r_if_ge hC (tgt := 23) dX8_fooled_14 (by decide) (fun c6 => ?_) (fun c6 => ?_)
    · refine r_aload_n hC dX8_fooled_23 0 rfl ?_
      refine r_callV hC (As := []) (rest := []) (ci := 8) (c_X8_countLettings g (xL X) K len I J R hs a0 ka0) mT_4_27 mT_1_1 mT_4_24 mT_4_26 mP_37 okX8_countLettings ⟨by decide, by decide⟩ rfl (by show kO (K a0) = _; rw [ka0]; rfl) rfl rfl (Nat.le_of_ble_eq_true rfl) ⟨by decide, by decide⟩ dX8_fooled_24 (aI0 (F := fun st M => P g X 3 27 [(0, .ref a0), (1, .int x1)] st _ _ M) (M := (K, len, I, J, R)) fun x7_ h7 => ?_)
      skip
      show P g X 3 27 [(0, .ref a0), (1, .int x1)] [.int x7_] _ _ (K, len, I, J, R)
      refine r_iload_n hC dX8_fooled_27 1 rfl ?_
      refine r_icmp_gt hC (tgt := 38) dX8_fooled_28 (by decide) (fun c8 => ?_) (fun c8 => ?_)
      · refine r_iconst hC (v := (0)) dX8_fooled_38 (by decide) (by decide) (fun x9_ e9 t9 => ?_)
        refine r_istore_n hC (lv' := [(2, .int x9_), (0, .ref a0), (1, .int x1)]) dX8_fooled_39 (by decide) rfl ?_
        have LP10 : ∀ (mu : Nat) (x10_2 : Int32) (I10 : Nat → Nat → Int32) (hs10 : Sf K len I10 R) (hF10 : Fr K [(1, 5), (1, 6), (9, 12), (43, 999), (50, 999), (51, 999), (52, 999), (53, 999), (54, 999)] I I10) (v10_0 : 0 ≤ x10_2.toInt) (v10_1 : x10_2.toInt ≤ 6) (v10_2 : KC D E a0 h lk rd I10 R), (6 - x10_2.toInt).toNat = mu → P g X 3 40 [(0, .ref a0), (1, .int x1), (2, .int x10_2)] [] 0 0 (K, len, I10, J, R) := by
          intro mu; induction mu using Nat.strongRecOn with | ind mu ih => ?_
          intro x10_2 I10 hs10 hF10 v10_0 v10_1 v10_2 hmu
          have ih10 := ih
          clear ih
          have hmu10 := hmu
          clear hmu
          refine r_iload_n hC dX8_fooled_40 2 rfl ?_
          refine r_aload_n hC dX8_fooled_41 0 rfl ?_
          refine r_getr hC 2 (ci := 8) rfl u8_in (by decide) mT_2_80 dX8_fooled_42 ka0 rfl rfl hh ?_
          refine r_geti hC 6 (ci := 1) rfl u1_in (by decide) mT_1_202 dX8_fooled_45 kh rfl rfl (fun x11_ e11 => ?_)
          have r11 := hs10.rng kh rfl e11
          have f11 : x11_.toInt = (I10 h 6).toInt := by rw [e11]
          have sc11 : x11_.toInt = D 0 7 := by rw [e11]; exact v10_2.2.1.2.2.2.2.2.1
          refine r_icmp_ge hC (tgt := 72) dX8_fooled_48 (by decide) (fun c12 => ?_) (fun c12 => ?_)
          · refine r_aload_n hC dX8_fooled_72 0 rfl ?_
            refine r_bipush hC (v := (-2)) dX8_fooled_73 (by decide) (by decide) (fun x13_ e13 t13 => ?_)
            refine r_callV hC (As := [.int x13_]) (rest := []) (ci := 8) (c_X8_answer g (xL X) K len I10 J R hs10 a0 ka0 x13_) mT_3_115 mT_1_1 mT_3_112 mT_3_114 mP_21 okX8_answer ⟨by decide, by decide⟩ rfl (by show kO (K a0) = _; rw [ka0]; rfl) rfl rfl (Nat.le_of_ble_eq_true rfl) ⟨by decide, by decide⟩ dX8_fooled_75 (aI1 (F := fun st M => P g X 3 78 [(0, .ref a0), (1, .int x1), (2, .int x10_2)] st _ _ M) (M := (K, len, I10, J, R)) fun x14_ I14 h14 => ?_)
            obtain ⟨hs14, hf14, k14_0, k14_1⟩ := h14
            show P g X 3 78 [(0, .ref a0), (1, .int x1), (2, .int x10_2)] [.int x14_] _ _ (K, len, I14, J, R)
            have hF14 : Fr K [(1, 5), (1, 6), (9, 12), (43, 999), (50, 999), (51, 999), (52, 999), (53, 999), (54, 999)] I I14 := hF10.trans hf14 rfl rfl
            have hc14 := v10_2.mv ka hf14 rfl
            exact r_iret hC hQ hlk hr rfl (by decide) (by decide) dX8_fooled_78 ⟨_, _, rfl, rfl, ⟨hs14, hF14, (by exact hc14), (by omega)⟩⟩
          · refine r_aload_n hC dX8_fooled_51 0 rfl ?_
            refine r_iload_n hC dX8_fooled_52 2 rfl ?_
            refine r_callV hC (As := [.int x10_2]) (rest := []) (ci := 8) (f_X8_tapOf g (xL X) K len I10 J R hs10 a0 ka0 x10_2 h hh kh lk hlk2 klk rd hrd krd lv hlv klv llv kn hkn kkn lkn cr hcr kcr1 lcr hu D E v10_2 (by omega) (by omega)) mT_4_43 mT_1_1 mT_4_40 mT_4_42 mP_40 okX8_tapOf ⟨by decide, by decide⟩ rfl (by show kO (K a0) = _; rw [ka0]; rfl) rfl rfl (Nat.le_of_ble_eq_true rfl) ⟨by decide, by decide⟩ dX8_fooled_53 (aI1 (F := fun st M => P g X 3 56 [(0, .ref a0), (1, .int x1), (2, .int x10_2)] st _ _ M) (M := (K, len, I10, J, R)) fun x15_ I15 h15 => ?_)
            obtain ⟨hs15, hf15, k15_0⟩ := h15
            show P g X 3 56 [(0, .ref a0), (1, .int x1), (2, .int x10_2)] [.int x15_] _ _ (K, len, I15, J, R)
            have hF15 : Fr K [(1, 5), (1, 6), (9, 12), (43, 999), (50, 999), (51, 999), (52, 999), (53, 999), (54, 999)] I I15 := hF10.trans hf15 rfl rfl
            refine r_iload_n hC dX8_fooled_56 1 rfl ?_
            refine r_icmp_ne hC (tgt := 66) dX8_fooled_57 (by decide) (fun c16 => ?_) (fun c16 => ?_)
            · obtain ⟨x17_, e17⟩ : ∃ z : Int32, z = x10_2 + Int32.ofInt (1) := ⟨_, rfl⟩
              refine r_iinc hC (j := 2) (v := x17_) (lv' := [(2, .int x17_), (0, .ref a0), (1, .int x1)]) dX8_fooled_66 rfl (by rw [e17]) (by decide) rfl ?_
              try have t17 : x17_.toInt = x10_2.toInt + (1) := by rw [e17]; exact (ti_add (b := Int32.ofInt (1)) (by show _ ≤ _ + (1 : Int); omega) (by show _ + (1 : Int) ≤ _; omega))
              refine r_goto hC (tgt := 40) dX8_fooled_69 (by decide) ?_
              refine r_sub [1, 2, 0] rfl ?_
              exact ih10 ((6 - x17_.toInt).toNat) (by omega) x17_ I15 hs15 hF15 (by omega) (by omega) (by exact k15_0) rfl
            · refine r_aload_n hC dX8_fooled_60 0 rfl ?_
              refine r_iload_n hC dX8_fooled_61 2 rfl ?_
              refine r_callV hC (As := [.int x10_2]) (rest := []) (ci := 8) (c_X8_answer g (xL X) K len I15 J R hs15 a0 ka0 x10_2) mT_3_115 mT_1_1 mT_3_112 mT_3_114 mP_21 okX8_answer ⟨by decide, by decide⟩ rfl (by show kO (K a0) = _; rw [ka0]; rfl) rfl rfl (Nat.le_of_ble_eq_true rfl) ⟨by decide, by decide⟩ dX8_fooled_62 (aI1 (F := fun st M => P g X 3 65 [(0, .ref a0), (1, .int x1), (2, .int x10_2)] st _ _ M) (M := (K, len, I15, J, R)) fun x18_ I18 h18 => ?_)
              obtain ⟨hs18, hf18, k18_0, k18_1⟩ := h18
              show P g X 3 65 [(0, .ref a0), (1, .int x1), (2, .int x10_2)] [.int x18_] _ _ (K, len, I18, J, R)
              have hF18 : Fr K [(1, 5), (1, 6), (9, 12), (43, 999), (50, 999), (51, 999), (52, 999), (53, 999), (54, 999)] I I18 := hF15.trans hf18 rfl rfl
              have hc18 := k15_0.mv ka hf18 rfl
              exact r_iret hC hQ hlk hr rfl (by decide) (by decide) dX8_fooled_65 ⟨_, _, rfl, rfl, ⟨hs18, hF18, (by exact hc18), (by omega)⟩⟩
        refine r_sub [1, 2, 0] rfl ?_
        exact LP10 _ x9_ I hs hF (by omega) (by omega) (by exact hc) rfl
      · refine r_aload_n hC dX8_fooled_31 0 rfl ?_
        refine r_bipush hC (v := (-2)) dX8_fooled_32 (by decide) (by decide) (fun x19_ e19 t19 => ?_)
        refine r_callV hC (As := [.int x19_]) (rest := []) (ci := 8) (c_X8_answer g (xL X) K len I J R hs a0 ka0 x19_) mT_3_115 mT_1_1 mT_3_112 mT_3_114 mP_21 okX8_answer ⟨by decide, by decide⟩ rfl (by show kO (K a0) = _; rw [ka0]; rfl) rfl rfl (Nat.le_of_ble_eq_true rfl) ⟨by decide, by decide⟩ dX8_fooled_34 (aI1 (F := fun st M => P g X 3 37 [(0, .ref a0), (1, .int x1)] st _ _ M) (M := (K, len, I, J, R)) fun x20_ I20 h20 => ?_)
        obtain ⟨hs20, hf20, k20_0, k20_1⟩ := h20
        show P g X 3 37 [(0, .ref a0), (1, .int x1)] [.int x20_] _ _ (K, len, I20, J, R)
        have hF20 : Fr K [(1, 5), (1, 6), (9, 12), (43, 999), (50, 999), (51, 999), (52, 999), (53, 999), (54, 999)] I I20 := hF.trans hf20 rfl rfl
        have hc20 := hc.mv ka hf20 rfl
        exact r_iret hC hQ hlk hr rfl (by decide) (by decide) dX8_fooled_37 ⟨_, _, rfl, rfl, ⟨hs20, hF20, (by exact hc20), (by omega)⟩⟩
    · refine r_aload_n hC dX8_fooled_17 0 rfl ?_
      refine r_iconst hC (v := (2)) dX8_fooled_18 (by decide) (by decide) (fun x21_ e21 t21 => ?_)
      refine r_callV hC (As := [.int x21_]) (rest := []) (ci := 8) (c_X8_refuse g (xL X) K len I J R hs a0 ka0 x21_) mT_2_133 mT_1_1 mT_2_130 mT_2_132 mP_0 okX8_refuse ⟨by decide, by decide⟩ rfl (by show kO (K a0) = _; rw [ka0]; rfl) rfl rfl (Nat.le_of_ble_eq_true rfl) ⟨by decide, by decide⟩ dX8_fooled_19 (aI1 (F := fun st M => P g X 3 22 [(0, .ref a0), (1, .int x1)] st _ _ M) (M := (K, len, I, J, R)) fun x22_ I22 h22 => ?_)
      obtain ⟨hs22, hf22, k22_0, k22_1⟩ := h22
      show P g X 3 22 [(0, .ref a0), (1, .int x1)] [.int x22_] _ _ (K, len, I22, J, R)
      have hF22 : Fr K [(1, 5), (1, 6), (9, 12), (43, 999), (50, 999), (51, 999), (52, 999), (53, 999), (54, 999)] I I22 := hF.trans hf22 rfl rfl
      have hc22 := hc.mv ka hf22 rfl
      exact r_iret hC hQ hlk hr rfl (by decide) (by decide) dX8_fooled_22 ⟨_, _, rfl, rfl, ⟨hs22, hF22, (by exact hc22), (by omega)⟩⟩
set_option maxHeartbeats 4000000 in
set_option maxRecDepth 100000 in
theorem f_X8_span (g : GG) (l : Launch) (K len : Nat → Nat) (I : Nat → Nat → Int32) (J : Nat → Nat → Int64) (R : Nat → Nat → Option Nat) (hs : Sf K len I R) (a0 : Nat) (ka0 : K a0 = 9) (x1 : Int32) (x2 : Int32) (x3 : Int32) (x4 : Int32) (x5 : Int32) (h : Nat) (hh : R a0 2 = some h) (kh : K h = 2) (lk : Nat) (hlk2 : R h 0 = some lk) (klk : K lk = 3) (rd : Nat) (hrd : R a0 9 = some rd) (krd : K rd = 4) (lv : Nat) (hlv : R a0 4 = some lv) (klv : K lv = 41) (llv : len lv = 60) (kn : Nat) (hkn : R a0 6 = some kn) (kkn : K kn = 43) (lkn : len kn = 6) (cr : Nat) (hcr : R a0 5 = some cr) (kcr1 : K cr = 44) (lcr : len cr = 6) (hu : UU K R) (D : DD) (E : Nat → Nat → Int) (hc : KC D E a0 h lk rd I R) : Ct g l yX8_span cX8_span 13 (Option.some Jvm.ClassFile.FieldType.int) rmX8_span [.ref a0, .int x1, .int x2, .int x3, .int x4, .int x5] (K, len, I, J, R) (pI1 (K, len, I, J, R) (fun r I' => Sf K len I' R ∧ Fr K [(1, 5), (1, 6), (9, 12), (43, 999), (50, 999), (51, 999), (52, 999), (53, 999), (54, 999)] I I' ∧ (KC D E a0 h lk rd I' R) ∧ ((I' a0 12).toInt ≠ 4))) := by
  refine Ct_intro (by decide +kernel) (Nat.le_of_ble_eq_true rfl) (fun X hC hL hKK hNm hr hlk hQ => ?_)
  subst hL
  have hC : Cx g X cX8_span "HillTap" 13 rmX8_span := hC
  show P g X 13 0 [(0, .ref a0), (1, .int x1), (2, .int x2), (3, .int x3), (4, .int x4), (5, .int x5)] [] 0 0 (K, len, I, J, R)
  have hF : Fr K [(1, 5), (1, 6), (9, 12), (43, 999), (50, 999), (51, 999), (52, 999), (53, 999), (54, 999)] I I := Fr.refl
  have ka : KA a0 h lk rd K len R := ⟨⟨_, hs⟩, hu, ka0, kh, klk, krd⟩
  obtain ⟨sd1, sd2, sd3, sd4, sd5, sd7, sd8, sd9⟩ := id hc.2.1
  have d7b := hs.rng kh (k := 6) rfl (x := I h 6) rfl
  have d5b := hs.rng kh (k := 1) rfl (x := I h 1) rfl
  have d8b := hs.rng kh (k := 8) rfl (x := I h 8) rfl
  have b_x1 := ti_rng x1
  have b_x2 := ti_rng x2
  have b_x3 := ti_rng x3
  have b_x4 := ti_rng x4
  have b_x5 := ti_rng x5
  refine r_aload_n hC dX8_span_0 0 rfl ?_
  refine r_iload_n hC dX8_span_1 1 rfl ?_
  refine r_iload_n hC dX8_span_2 2 rfl ?_
  refine r_iload_n hC dX8_span_3 3 rfl ?_
  refine r_callV hC (As := [.int x1, .int x2, .int x3]) (rest := []) (ci := 8) (f_X8_isPegDay g (xL X) K len I J R hs a0 ka0 x1 x2 x3 h hh kh) mT_3_151 mT_1_1 mT_3_148 mT_3_150 mP_23 okX8_isPegDay ⟨by decide, by decide⟩ rfl (by show kO (K a0) = _; rw [ka0]; rfl) rfl rfl (Nat.le_of_ble_eq_true rfl) ⟨by decide, by decide⟩ dX8_span_4 (aI0 (F := fun st M => P g X 13 7 [(0, .ref a0), (1, .int x1), (2, .int x2), (3, .int x3), (4, .int x4), (5, .int x5)] st _ _ M) (M := (K, len, I, J, R)) fun x1_ h1 => ?_)
  have k1_0 := h1
  clear h1
  show P g X 13 7 [(0, .ref a0), (1, .int x1), (2, .int x2), (3, .int x3), (4, .int x4), (5, .int x5)] [.int x1_] _ _ (K, len, I, J, R)
  rcases k1_0 with ⟨hr1, hw1⟩ | ⟨hr1, hw1⟩
  · refine r_if_eq hC (tgt := 16) dX8_span_7 (by decide) (fun c2 => ?_) (fun c2 => ?_)
    · exfalso; omega
    refine r_iload_n hC dX8_span_10 3 rfl ?_
    refine r_bipush hC (v := (59)) dX8_span_11 (by decide) (by decide) (fun x3_ e3 t3 => ?_)
    refine r_icmp_lt hC (tgt := 22) dX8_span_13 (by decide) (fun c4 => ?_) (fun c4 => ?_)
    · refine r_iload hC dX8_span_22 4 rfl ?_
      refine r_if_lt hC (tgt := 34) dX8_span_24 (by decide) (fun c5 => ?_) (fun c5 => ?_)
      · refine r_aload_n hC dX8_span_34 0 rfl ?_
        refine r_iconst hC (v := (2)) dX8_span_35 (by decide) (by decide) (fun x6_ e6 t6 => ?_)
        refine r_callV hC (As := [.int x6_]) (rest := []) (ci := 8) (c_X8_refuse g (xL X) K len I J R hs a0 ka0 x6_) mT_2_133 mT_1_1 mT_2_130 mT_2_132 mP_0 okX8_refuse ⟨by decide, by decide⟩ rfl (by show kO (K a0) = _; rw [ka0]; rfl) rfl rfl (Nat.le_of_ble_eq_true rfl) ⟨by decide, by decide⟩ dX8_span_36 (aI1 (F := fun st M => P g X 13 39 [(0, .ref a0), (1, .int x1), (2, .int x2), (3, .int x3), (4, .int x4), (5, .int x5)] st _ _ M) (M := (K, len, I, J, R)) fun x7_ I7 h7 => ?_)
        obtain ⟨hs7, hf7, k7_0, k7_1⟩ := h7
        show P g X 13 39 [(0, .ref a0), (1, .int x1), (2, .int x2), (3, .int x3), (4, .int x4), (5, .int x5)] [.int x7_] _ _ (K, len, I7, J, R)
        have hF7 : Fr K [(1, 5), (1, 6), (9, 12), (43, 999), (50, 999), (51, 999), (52, 999), (53, 999), (54, 999)] I I7 := hF.trans hf7 rfl rfl
        have hc7 := hc.mv ka hf7 rfl
        exact r_iret hC hQ hlk hr rfl (by decide) (by decide) dX8_span_39 ⟨_, _, rfl, rfl, ⟨hs7, hF7, (by exact hc7), (by omega)⟩⟩
      · refine r_iload hC dX8_span_27 4 rfl ?_
        refine r_bipush hC (v := (20)) dX8_span_29 (by decide) (by decide) (fun x8_ e8 t8 => ?_)
        refine r_icmp_le hC (tgt := 40) dX8_span_31 (by decide) (fun c9 => ?_) (fun c9 => ?_)
        · refine r_aload_n hC dX8_span_40 0 rfl ?_
          refine r_iload_n hC dX8_span_41 1 rfl ?_
          refine r_callV hC (As := [.int x1]) (rest := []) (ci := 8) (f_X8_courseOf g (xL X) K len I J R hs a0 ka0 x1 h hh kh lk hlk2 klk rd hrd krd lv hlv klv llv kn hkn kkn lkn cr hcr kcr1 lcr hu D E hc (by omega) (by omega)) mT_3_163 mT_1_1 mT_3_160 mT_3_162 mP_26 okX8_courseOf ⟨by decide, by decide⟩ rfl (by show kO (K a0) = _; rw [ka0]; rfl) rfl rfl (Nat.le_of_ble_eq_true rfl) ⟨by decide, by decide⟩ dX8_span_42 (aR1 (F := fun st M => P g X 13 45 [(0, .ref a0), (1, .int x1), (2, .int x2), (3, .int x3), (4, .int x4), (5, .int x5)] st _ _ M) (M := (K, len, I, J, R)) fun a10_ I10 h10 => ?_)
          obtain ⟨hs10, hf10, k10_0, k10_1, k10_2, k10_3, k10_4⟩ := h10
          show P g X 13 45 [(0, .ref a0), (1, .int x1), (2, .int x2), (3, .int x3), (4, .int x4), (5, .int x5)] [.ref a10_] _ _ (K, len, I10, J, R)
          have hF10 : Fr K [(1, 5), (1, 6), (9, 12), (43, 999), (50, 999), (51, 999), (52, 999), (53, 999), (54, 999)] I I10 := hF.trans hf10 rfl rfl
          refine r_astore hC (lv' := [(6, .ref a10_), (0, .ref a0), (1, .int x1), (2, .int x2), (3, .int x3), (4, .int x4), (5, .int x5)]) dX8_span_45 (by decide) rfl ?_
          refine r_aload hC dX8_span_47 0 rfl ?_
          obtain ⟨a11_, hb11, hk11, hn11⟩ := hs10.row k10_0 0 50 300 (by decide) (by decide)
          refine r_getr hC 0 (ci := 0) rfl u0_in (by decide) mT_2_26 dX8_span_49 k10_0 rfl rfl hb11 ?_
          refine r_iload_n hC dX8_span_52 3 rfl ?_
          refine r_iload_n hC dX8_span_53 4 rfl ?_
          refine r_callS hC (As := [.int x2, .int x3]) (rest := [.ref a11_]) (c_X8_row g (xL X) K len I10 J R hs10 x2 x3 (by omega) (by omega) (by omega) (by omega)) mT_3_192 mT_1_1 mT_3_197 mT_3_191 okX8_row ⟨by decide, by decide⟩ rfl rfl (Nat.le_of_ble_eq_true rfl) ⟨by decide, by decide⟩ dX8_span_54 (aI0 (F := fun st M => P g X 13 57 [(6, .ref a10_), (0, .ref a0), (1, .int x1), (2, .int x2), (3, .int x3), (4, .int x4), (5, .int x5)] st _ _ M) (M := (K, len, I10, J, R)) fun x12_ h12 => ?_)
          have k12_0 := h12
          clear h12
          show P g X 13 57 [(6, .ref a10_), (0, .ref a0), (1, .int x1), (2, .int x2), (3, .int x3), (4, .int x4), (5, .int x5)] [.int x12_, .ref a11_] _ _ (K, len, I10, J, R)
          refine x_iaload hC hk11 hn11 (by decide) rfl rfl dX8_span_57 (by omega) (by omega) (fun x13_ e13 => ?_)
          have q13 : x13_.toInt = SV D x1.toInt.toNat (Ad D x1.toInt.toNat (LP1 D) 1) x3.toInt.toNat x2.toInt.toNat := by rw [e13, clx (i := x12_) rfl (by omega), show x12_.toInt.toNat = 60 * x2.toInt.toNat + x3.toInt.toNat by omega]; exact k10_3.spd hs k10_0 hb11 (by omega) (by omega)
          have jb13 := k10_2.svb (s := x1.toInt.toNat) (by omega) (w2 := 1) x3.toInt.toNat x2.toInt.toNat
          refine r_istore hC (lv' := [(7, .int x13_), (6, .ref a10_), (0, .ref a0), (1, .int x1), (2, .int x2), (3, .int x3), (4, .int x4), (5, .int x5)]) dX8_span_58 (by decide) rfl ?_
          refine r_aload hC dX8_span_60 1 rfl ?_
          refine r_getr hC 0 (ci := 0) rfl u0_in (by decide) mT_2_26 dX8_span_62 k10_0 rfl rfl hb11 ?_
          refine r_iload_n hC dX8_span_65 4 rfl ?_
          refine r_iload_n hC dX8_span_66 5 rfl ?_
          refine r_iconst hC (v := (1)) dX8_span_67 (by decide) (by decide) (fun x14_ e14 t14 => ?_)
          refine r_iadd hC dX8_span_68 (fun x15_ e15 => ?_)
          try have t15 : x15_.toInt = x3.toInt + x14_.toInt := by rw [e15]; exact ti_add (by omega) (by omega)
          refine r_callS hC (As := [.int x2, .int x15_]) (rest := [.ref a11_]) (c_X8_row g (xL X) K len I10 J R hs10 x2 x15_ (by omega) (by omega) (by omega) (by omega)) mT_3_192 mT_1_1 mT_3_197 mT_3_191 okX8_row ⟨by decide, by decide⟩ rfl rfl (Nat.le_of_ble_eq_true rfl) ⟨by decide, by decide⟩ dX8_span_69 (aI0 (F := fun st M => P g X 13 72 [(7, .int x13_), (6, .ref a10_), (0, .ref a0), (1, .int x1), (2, .int x2), (3, .int x3), (4, .int x4), (5, .int x5)] st _ _ M) (M := (K, len, I10, J, R)) fun x16_ h16 => ?_)
          have k16_0 := h16
          clear h16
          show P g X 13 72 [(7, .int x13_), (6, .ref a10_), (0, .ref a0), (1, .int x1), (2, .int x2), (3, .int x3), (4, .int x4), (5, .int x5)] [.int x16_, .ref a11_] _ _ (K, len, I10, J, R)
          refine x_iaload hC hk11 hn11 (by decide) rfl rfl dX8_span_72 (by omega) (by omega) (fun x17_ e17 => ?_)
          have q17 : x17_.toInt = SV D x1.toInt.toNat (Ad D x1.toInt.toNat (LP1 D) 1) x15_.toInt.toNat x2.toInt.toNat := by rw [e17, clx (i := x16_) rfl (by omega), show x16_.toInt.toNat = 60 * x2.toInt.toNat + x15_.toInt.toNat by omega]; exact k10_3.spd hs k10_0 hb11 (by omega) (by omega)
          have jb17 := k10_2.svb (s := x1.toInt.toNat) (by omega) (w2 := 1) x15_.toInt.toNat x2.toInt.toNat
          refine r_istore hC (lv' := [(8, .int x17_), (7, .int x13_), (6, .ref a10_), (0, .ref a0), (1, .int x1), (2, .int x2), (3, .int x3), (4, .int x4), (5, .int x5)]) dX8_span_73 (by decide) rfl ?_
          refine r_bipush hC (v := (-2)) dX8_span_75 (by decide) (by decide) (fun x18_ e18 t18 => ?_)
          refine r_istore hC (lv' := [(9, .int x18_), (8, .int x17_), (7, .int x13_), (6, .ref a10_), (0, .ref a0), (1, .int x1), (2, .int x2), (3, .int x3), (4, .int x4), (5, .int x5)]) dX8_span_77 (by decide) rfl ?_
          refine r_iconst hC (v := (-1)) dX8_span_79 (by decide) (by decide) (fun x19_ e19 t19 => ?_)
          refine r_istore hC (lv' := [(10, .int x19_), (9, .int x18_), (8, .int x17_), (7, .int x13_), (6, .ref a10_), (0, .ref a0), (1, .int x1), (2, .int x2), (3, .int x3), (4, .int x4), (5, .int x5)]) dX8_span_80 (by decide) rfl ?_
          have LP20 : ∀ (mu : Nat) (x20_10 : Int32) (x20_9 : Int32) (v20_0 : -1 ≤ x20_10.toInt) (v20_1 : x20_10.toInt ≤ 2), (2 - x20_10.toInt).toNat = mu → P g X 13 82 [(0, .ref a0), (1, .int x1), (2, .int x2), (3, .int x3), (4, .int x4), (5, .int x5), (6, .ref a10_), (7, .int x13_), (8, .int x17_), (9, .int x20_9), (10, .int x20_10)] [] 0 0 (K, len, I10, J, R) := by
            intro mu; induction mu using Nat.strongRecOn with | ind mu ih => ?_
            intro x20_10 x20_9 v20_0 v20_1 hmu
            have ih20 := ih
            clear ih
            have hmu20 := hmu
            clear hmu
            refine r_iload hC dX8_span_82 10 rfl ?_
            refine r_iconst hC (v := (1)) dX8_span_84 (by decide) (by decide) (fun x21_ e21 t21 => ?_)
            refine r_icmp_gt hC (tgt := 171) dX8_span_85 (by decide) (fun c22 => ?_) (fun c22 => ?_)
            · refine r_aload_n hC dX8_span_171 0 rfl ?_
              refine r_iload hC dX8_span_172 9 rfl ?_
              refine r_callV hC (As := [.int x20_9]) (rest := []) (ci := 8) (c_X8_answer g (xL X) K len I10 J R hs10 a0 ka0 x20_9) mT_3_115 mT_1_1 mT_3_112 mT_3_114 mP_21 okX8_answer ⟨by decide, by decide⟩ rfl (by show kO (K a0) = _; rw [ka0]; rfl) rfl rfl (Nat.le_of_ble_eq_true rfl) ⟨by decide, by decide⟩ dX8_span_174 (aI1 (F := fun st M => P g X 13 177 [(0, .ref a0), (1, .int x1), (2, .int x2), (3, .int x3), (4, .int x4), (5, .int x5), (6, .ref a10_), (7, .int x13_), (8, .int x17_), (9, .int x20_9), (10, .int x20_10)] st _ _ M) (M := (K, len, I10, J, R)) fun x23_ I23 h23 => ?_)
              obtain ⟨hs23, hf23, k23_0, k23_1⟩ := h23
              show P g X 13 177 [(0, .ref a0), (1, .int x1), (2, .int x2), (3, .int x3), (4, .int x4), (5, .int x5), (6, .ref a10_), (7, .int x13_), (8, .int x17_), (9, .int x20_9), (10, .int x20_10)] [.int x23_] _ _ (K, len, I23, J, R)
              have hF23 : Fr K [(1, 5), (1, 6), (9, 12), (43, 999), (50, 999), (51, 999), (52, 999), (53, 999), (54, 999)] I I23 := hF10.trans hf23 rfl rfl
              have hc23 := k10_2.mv ka hf23 rfl
              have coa10__23 := k10_3.mv hs k10_0 hf23 rfl
              exact r_iret hC hQ hlk hr rfl (by decide) (by decide) dX8_span_177 ⟨_, _, rfl, rfl, ⟨hs23, hF23, (by exact hc23), (by omega)⟩⟩
            · refine r_iconst hC (v := (-1)) dX8_span_88 (by decide) (by decide) (fun x24_ e24 t24 => ?_)
              refine r_istore hC (lv' := [(11, .int x24_), (0, .ref a0), (1, .int x1), (2, .int x2), (3, .int x3), (4, .int x4), (5, .int x5), (6, .ref a10_), (7, .int x13_), (8, .int x17_), (9, .int x20_9), (10, .int x20_10)]) dX8_span_89 (by decide) rfl ?_
              have LP25 : ∀ (mu : Nat) (x25_11 : Int32) (x25_9 : Int32) (v25_0 : -1 ≤ x25_11.toInt) (v25_1 : x25_11.toInt ≤ 2), (2 - x25_11.toInt).toNat = mu → P g X 13 91 [(0, .ref a0), (1, .int x1), (2, .int x2), (3, .int x3), (4, .int x4), (5, .int x5), (6, .ref a10_), (7, .int x13_), (8, .int x17_), (9, .int x25_9), (10, .int x20_10), (11, .int x25_11)] [] 0 0 (K, len, I10, J, R) := by
                intro mu; induction mu using Nat.strongRecOn with | ind mu ih => ?_
                intro x25_11 x25_9 v25_0 v25_1 hmu
                have ih25 := ih
                clear ih
                have hmu25 := hmu
                clear hmu
                refine r_iload hC dX8_span_91 11 rfl ?_
                refine r_iconst hC (v := (1)) dX8_span_93 (by decide) (by decide) (fun x26_ e26 t26 => ?_)
                refine r_icmp_gt hC (tgt := 165) dX8_span_94 (by decide) (fun c27 => ?_) (fun c27 => ?_)
                · obtain ⟨x28_, e28⟩ : ∃ z : Int32, z = x20_10 + Int32.ofInt (1) := ⟨_, rfl⟩
                  refine r_iinc hC (j := 10) (v := x28_) (lv' := [(10, .int x28_), (0, .ref a0), (1, .int x1), (2, .int x2), (3, .int x3), (4, .int x4), (5, .int x5), (6, .ref a10_), (7, .int x13_), (8, .int x17_), (9, .int x25_9), (11, .int x25_11)]) dX8_span_165 rfl (by rw [e28]) (by decide) rfl ?_
                  try have t28 : x28_.toInt = x20_10.toInt + (1) := by rw [e28]; exact (ti_add (b := Int32.ofInt (1)) (by show _ ≤ _ + (1 : Int); omega) (by show _ + (1 : Int) ≤ _; omega))
                  refine r_goto hC (tgt := 82) dX8_span_168 (by decide) ?_
                  refine r_sub [1, 2, 3, 4, 5, 6, 7, 8, 9, 10, 0] rfl ?_
                  exact ih20 ((2 - x28_.toInt).toNat) (by omega) x28_ x25_9 (by omega) (by omega) rfl
                · refine r_iload_n hC dX8_span_97 3 rfl ?_
                  refine r_iload hC dX8_span_98 7 rfl ?_
                  refine r_iload hC dX8_span_100 10 rfl ?_
                  refine r_iload hC dX8_span_102 4 rfl ?_
                  refine r_imul hC dX8_span_104 (fun x29_ e29 => ?_)
                  refine r_iadd hC dX8_span_105 (fun x30_ e30 => ?_)
                  try have t30 : x30_.toInt = x13_.toInt + x29_.toInt := by rw [e30]; exact ti_add (by omega) (by omega)
                  refine r_iload hC dX8_span_106 8 rfl ?_
                  refine r_iload hC dX8_span_108 11 rfl ?_
                  refine r_iload hC dX8_span_110 4 rfl ?_
                  refine r_imul hC dX8_span_112 (fun x31_ e31 => ?_)
                  refine r_iadd hC dX8_span_113 (fun x32_ e32 => ?_)
                  try have t32 : x32_.toInt = x17_.toInt + x31_.toInt := by rw [e32]; exact ti_add (by omega) (by omega)
                  refine r_callS hC (As := [.int x3, .int x30_, .int x32_]) (rest := []) (c_X8_noughtBy g (xL X) K len I10 J R hs10 x3 x30_ x32_) mT_4_62 mT_1_1 mT_4_60 mT_4_61 okX8_noughtBy ⟨by decide, by decide⟩ rfl rfl (Nat.le_of_ble_eq_true rfl) ⟨by decide, by decide⟩ dX8_span_114 (aI0 (F := fun st M => P g X 13 117 [(0, .ref a0), (1, .int x1), (2, .int x2), (3, .int x3), (4, .int x4), (5, .int x5), (6, .ref a10_), (7, .int x13_), (8, .int x17_), (9, .int x25_9), (10, .int x20_10), (11, .int x25_11)] st _ _ M) (M := (K, len, I10, J, R)) fun x33_ h33 => ?_)
                  skip
                  show P g X 13 117 [(0, .ref a0), (1, .int x1), (2, .int x2), (3, .int x3), (4, .int x4), (5, .int x5), (6, .ref a10_), (7, .int x13_), (8, .int x17_), (9, .int x25_9), (10, .int x20_10), (11, .int x25_11)] [.int x33_] _ _ (K, len, I10, J, R)
                  refine r_istore hC (lv' := [(12, .int x33_), (0, .ref a0), (1, .int x1), (2, .int x2), (3, .int x3), (4, .int x4), (5, .int x5), (6, .ref a10_), (7, .int x13_), (8, .int x17_), (9, .int x25_9), (10, .int x20_10), (11, .int x25_11)]) dX8_span_117 (by decide) rfl ?_
                  refine r_iload hC dX8_span_119 0 rfl ?_
                  refine r_bipush hC (v := (-2)) dX8_span_121 (by decide) (by decide) (fun x34_ e34 t34 => ?_)
                  refine r_icmp_eq hC (tgt := 159) dX8_span_123 (by decide) (fun c35 => ?_) (fun c35 => ?_)
                  · obtain ⟨x36_, e36⟩ : ∃ z : Int32, z = x25_11 + Int32.ofInt (1) := ⟨_, rfl⟩
                    refine r_iinc hC (j := 12) (v := x36_) (lv' := [(11, .int x36_), (12, .int x33_), (0, .ref a0), (1, .int x1), (2, .int x2), (3, .int x3), (4, .int x4), (5, .int x5), (6, .ref a10_), (7, .int x13_), (8, .int x17_), (9, .int x25_9), (10, .int x20_10)]) dX8_span_159 rfl (by rw [e36]) (by decide) rfl ?_
                    try have t36 : x36_.toInt = x25_11.toInt + (1) := by rw [e36]; exact (ti_add (b := Int32.ofInt (1)) (by show _ ≤ _ + (1 : Int); omega) (by show _ + (1 : Int) ≤ _; omega))
                    refine r_goto hC (tgt := 91) dX8_span_162 (by decide) ?_
                    refine r_sub [2, 3, 4, 5, 6, 7, 8, 9, 10, 11, 12, 0] rfl ?_
                    exact ih25 ((2 - x36_.toInt).toNat) (by omega) x36_ x25_9 (by omega) (by omega) rfl
                  · refine r_iload hC dX8_span_126 10 rfl ?_
                    refine r_bipush hC (v := (-2)) dX8_span_128 (by decide) (by decide) (fun x37_ e37 t37 => ?_)
                    refine r_icmp_eq hC (tgt := 155) dX8_span_130 (by decide) (fun c38 => ?_) (fun c38 => ?_)
                    · refine r_iload hC dX8_span_155 0 rfl ?_
                      refine r_istore hC (lv' := [(9, .int x33_), (12, .int x33_), (0, .ref a0), (1, .int x1), (2, .int x2), (3, .int x3), (4, .int x4), (5, .int x5), (6, .ref a10_), (7, .int x13_), (8, .int x17_), (10, .int x20_10), (11, .int x25_11)]) dX8_span_157 (by decide) rfl ?_
                      obtain ⟨x39_, e39⟩ : ∃ z : Int32, z = x25_11 + Int32.ofInt (1) := ⟨_, rfl⟩
                      refine r_iinc hC (j := 12) (v := x39_) (lv' := [(11, .int x39_), (9, .int x33_), (12, .int x33_), (0, .ref a0), (1, .int x1), (2, .int x2), (3, .int x3), (4, .int x4), (5, .int x5), (6, .ref a10_), (7, .int x13_), (8, .int x17_), (10, .int x20_10)]) dX8_span_159 rfl (by rw [e39]) (by decide) rfl ?_
                      try have t39 : x39_.toInt = x25_11.toInt + (1) := by rw [e39]; exact (ti_add (b := Int32.ofInt (1)) (by show _ ≤ _ + (1 : Int); omega) (by show _ + (1 : Int) ≤ _; omega))
                      refine r_goto hC (tgt := 91) dX8_span_162 (by decide) ?_
                      refine r_sub [3, 4, 5, 6, 7, 8, 9, 10, 11, 1, 12, 0] rfl ?_
                      exact ih25 ((2 - x39_.toInt).toNat) (by omega) x39_ x33_ (by omega) (by omega) rfl
                    · refine r_iload hC dX8_span_133 6 rfl ?_
                      refine r_if_eq hC (tgt := 148) dX8_span_135 (by decide) (fun c40 => ?_) (fun c40 => ?_)
                      · refine r_iload hC dX8_span_148 0 rfl ?_
                        refine r_iload hC dX8_span_150 10 rfl ?_
                        refine r_icmp_ge hC (tgt := 159) dX8_span_152 (by decide) (fun c41 => ?_) (fun c41 => ?_)
                        · obtain ⟨x42_, e42⟩ : ∃ z : Int32, z = x25_11 + Int32.ofInt (1) := ⟨_, rfl⟩
                          refine r_iinc hC (j := 12) (v := x42_) (lv' := [(11, .int x42_), (12, .int x33_), (0, .ref a0), (1, .int x1), (2, .int x2), (3, .int x3), (4, .int x4), (5, .int x5), (6, .ref a10_), (7, .int x13_), (8, .int x17_), (9, .int x25_9), (10, .int x20_10)]) dX8_span_159 rfl (by rw [e42]) (by decide) rfl ?_
                          try have t42 : x42_.toInt = x25_11.toInt + (1) := by rw [e42]; exact (ti_add (b := Int32.ofInt (1)) (by show _ ≤ _ + (1 : Int); omega) (by show _ + (1 : Int) ≤ _; omega))
                          refine r_goto hC (tgt := 91) dX8_span_162 (by decide) ?_
                          refine r_sub [2, 3, 4, 5, 6, 7, 8, 9, 10, 11, 12, 0] rfl ?_
                          exact ih25 ((2 - x42_.toInt).toNat) (by omega) x42_ x25_9 (by omega) (by omega) rfl
                        · refine r_iload hC dX8_span_155 0 rfl ?_
                          refine r_istore hC (lv' := [(9, .int x33_), (12, .int x33_), (0, .ref a0), (1, .int x1), (2, .int x2), (3, .int x3), (4, .int x4), (5, .int x5), (6, .ref a10_), (7, .int x13_), (8, .int x17_), (10, .int x20_10), (11, .int x25_11)]) dX8_span_157 (by decide) rfl ?_
                          obtain ⟨x43_, e43⟩ : ∃ z : Int32, z = x25_11 + Int32.ofInt (1) := ⟨_, rfl⟩
                          refine r_iinc hC (j := 12) (v := x43_) (lv' := [(11, .int x43_), (9, .int x33_), (12, .int x33_), (0, .ref a0), (1, .int x1), (2, .int x2), (3, .int x3), (4, .int x4), (5, .int x5), (6, .ref a10_), (7, .int x13_), (8, .int x17_), (10, .int x20_10)]) dX8_span_159 rfl (by rw [e43]) (by decide) rfl ?_
                          try have t43 : x43_.toInt = x25_11.toInt + (1) := by rw [e43]; exact (ti_add (b := Int32.ofInt (1)) (by show _ ≤ _ + (1 : Int); omega) (by show _ + (1 : Int) ≤ _; omega))
                          refine r_goto hC (tgt := 91) dX8_span_162 (by decide) ?_
                          refine r_sub [3, 4, 5, 6, 7, 8, 9, 10, 11, 1, 12, 0] rfl ?_
                          exact ih25 ((2 - x43_.toInt).toNat) (by omega) x43_ x33_ (by omega) (by omega) rfl
                      · refine r_iload hC dX8_span_138 0 rfl ?_
                        refine r_iload hC dX8_span_140 10 rfl ?_
                        refine r_icmp_le hC (tgt := 159) dX8_span_142 (by decide) (fun c44 => ?_) (fun c44 => ?_)
                        · obtain ⟨x45_, e45⟩ : ∃ z : Int32, z = x25_11 + Int32.ofInt (1) := ⟨_, rfl⟩
                          refine r_iinc hC (j := 12) (v := x45_) (lv' := [(11, .int x45_), (12, .int x33_), (0, .ref a0), (1, .int x1), (2, .int x2), (3, .int x3), (4, .int x4), (5, .int x5), (6, .ref a10_), (7, .int x13_), (8, .int x17_), (9, .int x25_9), (10, .int x20_10)]) dX8_span_159 rfl (by rw [e45]) (by decide) rfl ?_
                          try have t45 : x45_.toInt = x25_11.toInt + (1) := by rw [e45]; exact (ti_add (b := Int32.ofInt (1)) (by show _ ≤ _ + (1 : Int); omega) (by show _ + (1 : Int) ≤ _; omega))
                          refine r_goto hC (tgt := 91) dX8_span_162 (by decide) ?_
                          refine r_sub [2, 3, 4, 5, 6, 7, 8, 9, 10, 11, 12, 0] rfl ?_
                          exact ih25 ((2 - x45_.toInt).toNat) (by omega) x45_ x25_9 (by omega) (by omega) rfl
                        · refine r_goto hC (tgt := 155) dX8_span_145 (by decide) ?_
                          refine r_iload hC dX8_span_155 0 rfl ?_
                          refine r_istore hC (lv' := [(9, .int x33_), (12, .int x33_), (0, .ref a0), (1, .int x1), (2, .int x2), (3, .int x3), (4, .int x4), (5, .int x5), (6, .ref a10_), (7, .int x13_), (8, .int x17_), (10, .int x20_10), (11, .int x25_11)]) dX8_span_157 (by decide) rfl ?_
                          obtain ⟨x46_, e46⟩ : ∃ z : Int32, z = x25_11 + Int32.ofInt (1) := ⟨_, rfl⟩
                          refine r_iinc hC (j := 12) (v := x46_) (lv' := [(11, .int x46_), (9, .int x33_), (12, .int x33_), (0, .ref a0), (1, .int x1), (2, .int x2), (3, .int x3), (4, .int x4), (5, .int x5), (6, .ref a10_), (7, .int x13_), (8, .int x17_), (10, .int x20_10)]) dX8_span_159 rfl (by rw [e46]) (by decide) rfl ?_
                          try have t46 : x46_.toInt = x25_11.toInt + (1) := by rw [e46]; exact (ti_add (b := Int32.ofInt (1)) (by show _ ≤ _ + (1 : Int); omega) (by show _ + (1 : Int) ≤ _; omega))
                          refine r_goto hC (tgt := 91) dX8_span_162 (by decide) ?_
                          refine r_sub [3, 4, 5, 6, 7, 8, 9, 10, 11, 1, 12, 0] rfl ?_
                          exact ih25 ((2 - x46_.toInt).toNat) (by omega) x46_ x33_ (by omega) (by omega) rfl
              refine r_sub [1, 2, 3, 4, 5, 6, 7, 8, 9, 10, 11, 0] rfl ?_
              exact LP25 _ x24_ x20_9 (by omega) (by omega) rfl
          refine r_sub [5, 6, 7, 8, 9, 10, 4, 3, 2, 1, 0] rfl ?_
          exact LP20 _ x19_ x18_ (by omega) (by omega) rfl
        · refine r_aload_n hC dX8_span_34 0 rfl ?_
          refine r_iconst hC (v := (2)) dX8_span_35 (by decide) (by decide) (fun x47_ e47 t47 => ?_)
          refine r_callV hC (As := [.int x47_]) (rest := []) (ci := 8) (c_X8_refuse g (xL X) K len I J R hs a0 ka0 x47_) mT_2_133 mT_1_1 mT_2_130 mT_2_132 mP_0 okX8_refuse ⟨by decide, by decide⟩ rfl (by show kO (K a0) = _; rw [ka0]; rfl) rfl rfl (Nat.le_of_ble_eq_true rfl) ⟨by decide, by decide⟩ dX8_span_36 (aI1 (F := fun st M => P g X 13 39 [(0, .ref a0), (1, .int x1), (2, .int x2), (3, .int x3), (4, .int x4), (5, .int x5)] st _ _ M) (M := (K, len, I, J, R)) fun x48_ I48 h48 => ?_)
          obtain ⟨hs48, hf48, k48_0, k48_1⟩ := h48
          show P g X 13 39 [(0, .ref a0), (1, .int x1), (2, .int x2), (3, .int x3), (4, .int x4), (5, .int x5)] [.int x48_] _ _ (K, len, I48, J, R)
          have hF48 : Fr K [(1, 5), (1, 6), (9, 12), (43, 999), (50, 999), (51, 999), (52, 999), (53, 999), (54, 999)] I I48 := hF.trans hf48 rfl rfl
          have hc48 := hc.mv ka hf48 rfl
          exact r_iret hC hQ hlk hr rfl (by decide) (by decide) dX8_span_39 ⟨_, _, rfl, rfl, ⟨hs48, hF48, (by exact hc48), (by omega)⟩⟩
    · refine r_aload_n hC dX8_span_16 0 rfl ?_
      refine r_iconst hC (v := (1)) dX8_span_17 (by decide) (by decide) (fun x49_ e49 t49 => ?_)
      refine r_callV hC (As := [.int x49_]) (rest := []) (ci := 8) (c_X8_refuse g (xL X) K len I J R hs a0 ka0 x49_) mT_2_133 mT_1_1 mT_2_130 mT_2_132 mP_0 okX8_refuse ⟨by decide, by decide⟩ rfl (by show kO (K a0) = _; rw [ka0]; rfl) rfl rfl (Nat.le_of_ble_eq_true rfl) ⟨by decide, by decide⟩ dX8_span_18 (aI1 (F := fun st M => P g X 13 21 [(0, .ref a0), (1, .int x1), (2, .int x2), (3, .int x3), (4, .int x4), (5, .int x5)] st _ _ M) (M := (K, len, I, J, R)) fun x50_ I50 h50 => ?_)
      obtain ⟨hs50, hf50, k50_0, k50_1⟩ := h50
      show P g X 13 21 [(0, .ref a0), (1, .int x1), (2, .int x2), (3, .int x3), (4, .int x4), (5, .int x5)] [.int x50_] _ _ (K, len, I50, J, R)
      have hF50 : Fr K [(1, 5), (1, 6), (9, 12), (43, 999), (50, 999), (51, 999), (52, 999), (53, 999), (54, 999)] I I50 := hF.trans hf50 rfl rfl
      have hc50 := hc.mv ka hf50 rfl
      exact r_iret hC hQ hlk hr rfl (by decide) (by decide) dX8_span_21 ⟨_, _, rfl, rfl, ⟨hs50, hF50, (by exact hc50), (by omega)⟩⟩
  · refine r_if_eq hC (tgt := 16) dX8_span_7 (by decide) (fun c51 => ?_) (fun c51 => ?_)
    rotate_left
    · exfalso; omega
    refine r_aload_n hC dX8_span_16 0 rfl ?_
    refine r_iconst hC (v := (1)) dX8_span_17 (by decide) (by decide) (fun x52_ e52 t52 => ?_)
    refine r_callV hC (As := [.int x52_]) (rest := []) (ci := 8) (c_X8_refuse g (xL X) K len I J R hs a0 ka0 x52_) mT_2_133 mT_1_1 mT_2_130 mT_2_132 mP_0 okX8_refuse ⟨by decide, by decide⟩ rfl (by show kO (K a0) = _; rw [ka0]; rfl) rfl rfl (Nat.le_of_ble_eq_true rfl) ⟨by decide, by decide⟩ dX8_span_18 (aI1 (F := fun st M => P g X 13 21 [(0, .ref a0), (1, .int x1), (2, .int x2), (3, .int x3), (4, .int x4), (5, .int x5)] st _ _ M) (M := (K, len, I, J, R)) fun x53_ I53 h53 => ?_)
    obtain ⟨hs53, hf53, k53_0, k53_1⟩ := h53
    show P g X 13 21 [(0, .ref a0), (1, .int x1), (2, .int x2), (3, .int x3), (4, .int x4), (5, .int x5)] [.int x53_] _ _ (K, len, I53, J, R)
    have hF53 : Fr K [(1, 5), (1, 6), (9, 12), (43, 999), (50, 999), (51, 999), (52, 999), (53, 999), (54, 999)] I I53 := hF.trans hf53 rfl rfl
    have hc53 := hc.mv ka hf53 rfl
    exact r_iret hC hQ hlk hr rfl (by decide) (by decide) dX8_span_21 ⟨_, _, rfl, rfl, ⟨hs53, hF53, (by exact hc53), (by omega)⟩⟩
set_option maxHeartbeats 4000000 in
set_option maxRecDepth 100000 in
theorem f_X8_dead (g : GG) (l : Launch) (K len : Nat → Nat) (I : Nat → Nat → Int32) (J : Nat → Nat → Int64) (R : Nat → Nat → Option Nat) (hs : Sf K len I R) (a0 : Nat) (ka0 : K a0 = 9) (x1 : Int32) (x2 : Int32) (h : Nat) (hh : R a0 2 = some h) (kh : K h = 2) (lk : Nat) (hlk2 : R h 0 = some lk) (klk : K lk = 3) (rd : Nat) (hrd : R a0 9 = some rd) (krd : K rd = 4) (lv : Nat) (hlv : R a0 4 = some lv) (klv : K lv = 41) (llv : len lv = 60) (kn : Nat) (hkn : R a0 6 = some kn) (kkn : K kn = 43) (lkn : len kn = 6) (cr : Nat) (hcr : R a0 5 = some cr) (kcr1 : K cr = 44) (lcr : len cr = 6) (hu : UU K R) (D : DD) (E : Nat → Nat → Int) (hc : KC D E a0 h lk rd I R) : Ct g l yX8_dead cX8_dead 6 (Option.some Jvm.ClassFile.FieldType.int) rmX8_dead [.ref a0, .int x1, .int x2] (K, len, I, J, R) (pI1 (K, len, I, J, R) (fun r I' => Sf K len I' R ∧ Fr K [(1, 5), (1, 6), (9, 12), (43, 999), (50, 999), (51, 999), (52, 999), (53, 999), (54, 999)] I I' ∧ (KC D E a0 h lk rd I' R) ∧ ((I' a0 12).toInt ≠ 4))) := by
  refine Ct_intro (by decide +kernel) (Nat.le_of_ble_eq_true rfl) (fun X hC hL hKK hNm hr hlk hQ => ?_)
  subst hL
  have hC : Cx g X cX8_dead "HillTap" 6 rmX8_dead := hC
  show P g X 6 0 [(0, .ref a0), (1, .int x1), (2, .int x2)] [] 0 0 (K, len, I, J, R)
  have hF : Fr K [(1, 5), (1, 6), (9, 12), (43, 999), (50, 999), (51, 999), (52, 999), (53, 999), (54, 999)] I I := Fr.refl
  have ka : KA a0 h lk rd K len R := ⟨⟨_, hs⟩, hu, ka0, kh, klk, krd⟩
  obtain ⟨sd1, sd2, sd3, sd4, sd5, sd7, sd8, sd9⟩ := id hc.2.1
  have d7b := hs.rng kh (k := 6) rfl (x := I h 6) rfl
  have d5b := hs.rng kh (k := 1) rfl (x := I h 1) rfl
  have d8b := hs.rng kh (k := 8) rfl (x := I h 8) rfl
  have b_x1 := ti_rng x1
  have b_x2 := ti_rng x2
  refine r_aload_n hC dX8_dead_0 0 rfl ?_
  refine r_iload_n hC dX8_dead_1 1 rfl ?_
  refine r_callV hC (As := [.int x1]) (rest := []) (ci := 8) (f_X8_isStory g (xL X) K len I J R hs a0 ka0 x1 h hh kh) mT_3_155 mT_1_1 mT_3_152 mT_3_154 mP_24 okX8_isStory ⟨by decide, by decide⟩ rfl (by show kO (K a0) = _; rw [ka0]; rfl) rfl rfl (Nat.le_of_ble_eq_true rfl) ⟨by decide, by decide⟩ dX8_dead_2 (aI0 (F := fun st M => P g X 6 5 [(0, .ref a0), (1, .int x1), (2, .int x2)] st _ _ M) (M := (K, len, I, J, R)) fun x1_ h1 => ?_)
  have k1_0 := h1
  clear h1
  show P g X 6 5 [(0, .ref a0), (1, .int x1), (2, .int x2)] [.int x1_] _ _ (K, len, I, J, R)
  rcases k1_0 with ⟨hr1, hw1⟩ | ⟨hr1, hw1⟩
  · refine r_if_eq hC (tgt := 15) dX8_dead_5 (by decide) (fun c2 => ?_) (fun c2 => ?_)
    · exfalso; omega
    refine r_iload_n hC dX8_dead_8 2 rfl ?_
    refine r_callS hC (As := [.int x2]) (rest := []) (f_X8_isDay g (xL X) K len I J R hs x2) mT_3_134 mT_1_1 mT_3_132 mT_3_133 okX8_isDay ⟨by decide, by decide⟩ rfl rfl (Nat.le_of_ble_eq_true rfl) ⟨by decide, by decide⟩ dX8_dead_9 (aI0 (F := fun st M => P g X 6 12 [(0, .ref a0), (1, .int x1), (2, .int x2)] st _ _ M) (M := (K, len, I, J, R)) fun x3_ h3 => ?_)
    have k3_0 := h3
    clear h3
    show P g X 6 12 [(0, .ref a0), (1, .int x1), (2, .int x2)] [.int x3_] _ _ (K, len, I, J, R)
    rcases k3_0 with ⟨hr3, hw3⟩ | ⟨hr3, hw3⟩
    · refine r_if_ne hC (tgt := 21) dX8_dead_12 (by decide) (fun c4 => ?_) (fun c4 => ?_)
      rotate_left
      · exfalso; omega
      refine r_aload_n hC dX8_dead_21 0 rfl ?_
      refine r_iload_n hC dX8_dead_22 1 rfl ?_
      refine r_callV hC (As := [.int x1]) (rest := []) (ci := 8) (f_X8_courseOf g (xL X) K len I J R hs a0 ka0 x1 h hh kh lk hlk2 klk rd hrd krd lv hlv klv llv kn hkn kkn lkn cr hcr kcr1 lcr hu D E hc (by omega) (by omega)) mT_3_163 mT_1_1 mT_3_160 mT_3_162 mP_26 okX8_courseOf ⟨by decide, by decide⟩ rfl (by show kO (K a0) = _; rw [ka0]; rfl) rfl rfl (Nat.le_of_ble_eq_true rfl) ⟨by decide, by decide⟩ dX8_dead_23 (aR1 (F := fun st M => P g X 6 26 [(0, .ref a0), (1, .int x1), (2, .int x2)] st _ _ M) (M := (K, len, I, J, R)) fun a5_ I5 h5 => ?_)
      obtain ⟨hs5, hf5, k5_0, k5_1, k5_2, k5_3, k5_4⟩ := h5
      show P g X 6 26 [(0, .ref a0), (1, .int x1), (2, .int x2)] [.ref a5_] _ _ (K, len, I5, J, R)
      have hF5 : Fr K [(1, 5), (1, 6), (9, 12), (43, 999), (50, 999), (51, 999), (52, 999), (53, 999), (54, 999)] I I5 := hF.trans hf5 rfl rfl
      refine r_geti hC 5 (ci := 0) rfl u0_in (by decide) mT_2_36 dX8_dead_26 k5_0 rfl rfl (fun x6_ e6 => ?_)
      have f6 : x6_.toInt = (I5 a5_ 5).toInt := by rw [e6]
      have q6 : x6_.toInt = GV D x1.toInt.toNat (Ad D x1.toInt.toNat (LP1 D) 1) 60 := by rw [e6]; exact k5_3.2.1
      refine r_istore_n hC (lv' := [(3, .int x6_), (0, .ref a0), (1, .int x1), (2, .int x2)]) dX8_dead_29 (by decide) rfl ?_
      refine r_iconst hC (v := (0)) dX8_dead_30 (by decide) (by decide) (fun x7_ e7 t7 => ?_)
      refine r_istore hC (lv' := [(4, .int x7_), (3, .int x6_), (0, .ref a0), (1, .int x1), (2, .int x2)]) dX8_dead_31 (by decide) rfl ?_
      refine r_iconst hC (v := (0)) dX8_dead_33 (by decide) (by decide) (fun x8_ e8 t8 => ?_)
      refine r_istore hC (lv' := [(5, .int x8_), (4, .int x7_), (3, .int x6_), (0, .ref a0), (1, .int x1), (2, .int x2)]) dX8_dead_34 (by decide) rfl ?_
      have LP9 : ∀ (mu : Nat) (x9_5 : Int32) (x9_4 : Int32) (I9 : Nat → Nat → Int32) (hs9 : Sf K len I9 R) (hF9 : Fr K [(1, 5), (1, 6), (9, 12), (43, 999), (50, 999), (51, 999), (52, 999), (53, 999), (54, 999)] I I9) (v9_0 : 0 ≤ x9_5.toInt) (v9_1 : x9_5.toInt ≤ 4) (v9_2 : KC D E a0 h lk rd I9 R), (4 - x9_5.toInt).toNat = mu → P g X 6 36 [(0, .ref a0), (1, .int x1), (2, .int x2), (3, .int x6_), (4, .int x9_4), (5, .int x9_5)] [] 0 0 (K, len, I9, J, R) := by
        intro mu; induction mu using Nat.strongRecOn with | ind mu ih => ?_
        intro x9_5 x9_4 I9 hs9 hF9 v9_0 v9_1 v9_2 hmu
        have ih9 := ih
        clear ih
        have hmu9 := hmu
        clear hmu
        refine r_iload hC dX8_dead_36 5 rfl ?_
        refine r_aload_n hC dX8_dead_38 0 rfl ?_
        refine r_getr hC 2 (ci := 8) rfl u8_in (by decide) mT_2_80 dX8_dead_39 ka0 rfl rfl hh ?_
        refine r_geti hC 8 (ci := 1) rfl u1_in (by decide) mT_1_208 dX8_dead_42 kh rfl rfl (fun x10_ e10 => ?_)
        have r10 := hs9.rng kh rfl e10
        have f10 : x10_.toInt = (I9 h 8).toInt := by rw [e10]
        have sc10 : x10_.toInt = D 0 8 := by rw [e10]; exact v9_2.2.1.2.2.2.2.2.2.1
        refine r_icmp_ge hC (tgt := 95) dX8_dead_45 (by decide) (fun c11 => ?_) (fun c11 => ?_)
        · refine r_aload_n hC dX8_dead_95 0 rfl ?_
          refine r_iload hC dX8_dead_96 4 rfl ?_
          refine r_callV hC (As := [.int x9_4]) (rest := []) (ci := 8) (c_X8_answer g (xL X) K len I9 J R hs9 a0 ka0 x9_4) mT_3_115 mT_1_1 mT_3_112 mT_3_114 mP_21 okX8_answer ⟨by decide, by decide⟩ rfl (by show kO (K a0) = _; rw [ka0]; rfl) rfl rfl (Nat.le_of_ble_eq_true rfl) ⟨by decide, by decide⟩ dX8_dead_98 (aI1 (F := fun st M => P g X 6 101 [(0, .ref a0), (1, .int x1), (2, .int x2), (3, .int x6_), (4, .int x9_4), (5, .int x9_5)] st _ _ M) (M := (K, len, I9, J, R)) fun x12_ I12 h12 => ?_)
          obtain ⟨hs12, hf12, k12_0, k12_1⟩ := h12
          show P g X 6 101 [(0, .ref a0), (1, .int x1), (2, .int x2), (3, .int x6_), (4, .int x9_4), (5, .int x9_5)] [.int x12_] _ _ (K, len, I12, J, R)
          have hF12 : Fr K [(1, 5), (1, 6), (9, 12), (43, 999), (50, 999), (51, 999), (52, 999), (53, 999), (54, 999)] I I12 := hF9.trans hf12 rfl rfl
          have hc12 := v9_2.mv ka hf12 rfl
          exact r_iret hC hQ hlk hr rfl (by decide) (by decide) dX8_dead_101 ⟨_, _, rfl, rfl, ⟨hs12, hF12, (by exact hc12), (by omega)⟩⟩
        · refine r_aload_n hC dX8_dead_48 0 rfl ?_
          refine r_iload_n hC dX8_dead_49 1 rfl ?_
          refine r_iload hC dX8_dead_50 5 rfl ?_
          refine r_callV hC (As := [.int x1, .int x9_5]) (rest := []) (ci := 8) (f_X8_strikes g (xL X) K len I9 J R hs9 a0 ka0 x1 x9_5 h hh kh lk hlk2 klk rd hrd krd lv hlv klv llv kn hkn kkn lkn cr hcr kcr1 lcr hu D E v9_2 (by omega) (by omega) (by omega) (by omega)) mT_4_123 mT_1_1 mT_4_120 mT_4_122 mP_46 okX8_strikes ⟨by decide, by decide⟩ rfl (by show kO (K a0) = _; rw [ka0]; rfl) rfl rfl (Nat.le_of_ble_eq_true rfl) ⟨by decide, by decide⟩ dX8_dead_52 (aI1 (F := fun st M => P g X 6 55 [(0, .ref a0), (1, .int x1), (2, .int x2), (3, .int x6_), (4, .int x9_4), (5, .int x9_5)] st _ _ M) (M := (K, len, I9, J, R)) fun x13_ I13 h13 => ?_)
          obtain ⟨hs13, hf13, k13_0, k13_1⟩ := h13
          show P g X 6 55 [(0, .ref a0), (1, .int x1), (2, .int x2), (3, .int x6_), (4, .int x9_4), (5, .int x9_5)] [.int x13_] _ _ (K, len, I13, J, R)
          have hF13 : Fr K [(1, 5), (1, 6), (9, 12), (43, 999), (50, 999), (51, 999), (52, 999), (53, 999), (54, 999)] I I13 := hF9.trans hf13 rfl rfl
          refine r_if_eq hC (tgt := 89) dX8_dead_55 (by decide) (fun c14 => ?_) (fun c14 => ?_)
          · obtain ⟨x15_, e15⟩ : ∃ z : Int32, z = x9_5 + Int32.ofInt (1) := ⟨_, rfl⟩
            refine r_iinc hC (j := 5) (v := x15_) (lv' := [(5, .int x15_), (0, .ref a0), (1, .int x1), (2, .int x2), (3, .int x6_), (4, .int x9_4)]) dX8_dead_89 rfl (by rw [e15]) (by decide) rfl ?_
            try have t15 : x15_.toInt = x9_5.toInt + (1) := by rw [e15]; exact (ti_add (b := Int32.ofInt (1)) (by show _ ≤ _ + (1 : Int); omega) (by show _ + (1 : Int) ≤ _; omega))
            refine r_goto hC (tgt := 36) dX8_dead_92 (by decide) ?_
            refine r_sub [1, 2, 3, 4, 5, 0] rfl ?_
            exact ih9 ((4 - x15_.toInt).toNat) (by omega) x15_ x9_4 I13 hs13 hF13 (by omega) (by omega) (by exact k13_0) rfl
          · refine r_iload_n hC dX8_dead_58 2 rfl ?_
            refine r_aload_n hC dX8_dead_59 0 rfl ?_
            refine r_getr hC 2 (ci := 8) rfl u8_in (by decide) mT_2_80 dX8_dead_60 ka0 rfl rfl hh ?_
            obtain ⟨a16_, hb16, hk16, hn16⟩ := hs13.row kh 11 60 4 (by decide) (by decide)
            refine r_getr hC 11 (ci := 1) rfl u1_in (by decide) mT_1_217 dX8_dead_63 kh rfl rfl hb16 ?_
            refine r_iload hC dX8_dead_66 5 rfl ?_
            refine x_iaload hC hk16 hn16 (by decide) rfl rfl dX8_dead_68 (by omega) (by omega) (fun x17_ e17 => ?_)
            have q17 : x17_.toInt = D 12 x9_5.toInt.toNat := by rw [e17, clx (i := x9_5) rfl (by omega)]; exact k13_0.1 12 _ _ _ (cCt (r := 12) rfl hb16) (by rw [cnt_12]; omega) (fun h9 => absurd h9 (by decide))
            have jb17 : 0 ≤ D 12 x9_5.toInt.toNat ∧ D 12 x9_5.toInt.toNat ≤ 30 := ((k13_0.2.2.1 (by omega)).1).2.2.2.1 12 _ (by decide) (by decide) (by decide)
            refine r_iadd hC dX8_dead_69 (fun x18_ e18 => ?_)
            try have t18 : x18_.toInt = x2.toInt + x17_.toInt := by rw [e18]; exact ti_add (by omega) (by omega)
            refine r_iload_n hC dX8_dead_70 3 rfl ?_
            refine r_icmp_le hC (tgt := 89) dX8_dead_71 (by decide) (fun c19 => ?_) (fun c19 => ?_)
            · obtain ⟨x20_, e20⟩ : ∃ z : Int32, z = x9_5 + Int32.ofInt (1) := ⟨_, rfl⟩
              refine r_iinc hC (j := 5) (v := x20_) (lv' := [(5, .int x20_), (0, .ref a0), (1, .int x1), (2, .int x2), (3, .int x6_), (4, .int x9_4)]) dX8_dead_89 rfl (by rw [e20]) (by decide) rfl ?_
              try have t20 : x20_.toInt = x9_5.toInt + (1) := by rw [e20]; exact (ti_add (b := Int32.ofInt (1)) (by show _ ≤ _ + (1 : Int); omega) (by show _ + (1 : Int) ≤ _; omega))
              refine r_goto hC (tgt := 36) dX8_dead_92 (by decide) ?_
              refine r_sub [1, 2, 3, 4, 5, 0] rfl ?_
              exact ih9 ((4 - x20_.toInt).toNat) (by omega) x20_ x9_4 I13 hs13 hF13 (by omega) (by omega) (by exact k13_0) rfl
            · refine r_iload hC dX8_dead_74 4 rfl ?_
              refine r_aload_n hC dX8_dead_76 0 rfl ?_
              refine r_getr hC 2 (ci := 8) rfl u8_in (by decide) mT_2_80 dX8_dead_77 ka0 rfl rfl hh ?_
              obtain ⟨a21_, hb21, hk21, hn21⟩ := hs13.row kh 10 59 4 (by decide) (by decide)
              refine r_getr hC 10 (ci := 1) rfl u1_in (by decide) mT_1_214 dX8_dead_80 kh rfl rfl hb21 ?_
              refine r_iload hC dX8_dead_83 5 rfl ?_
              refine x_iaload hC hk21 hn21 (by decide) rfl rfl dX8_dead_85 (by omega) (by omega) (fun x22_ e22 => ?_)
              have q22 : x22_.toInt = D 11 x9_5.toInt.toNat := by rw [e22, clx (i := x9_5) rfl (by omega)]; exact k13_0.1 11 _ _ _ (cCt (r := 11) rfl hb21) (by rw [cnt_11]; omega) (fun h9 => absurd h9 (by decide))
              have jb22 : 0 ≤ D 11 x9_5.toInt.toNat ∧ D 11 x9_5.toInt.toNat ≤ 999 := ((k13_0.2.2.1 (by omega)).1).2.2.2.1 11 _ (by decide) (by decide) (by decide)
              refine r_iadd hC dX8_dead_86 (fun x23_ e23 => ?_)
              try have t23 : x23_.toInt = x9_4.toInt + x22_.toInt := by rw [e23]; exact ti_add (by omega) (by omega)
              refine r_istore hC (lv' := [(4, .int x23_), (0, .ref a0), (1, .int x1), (2, .int x2), (3, .int x6_), (5, .int x9_5)]) dX8_dead_87 (by decide) rfl ?_
              obtain ⟨x24_, e24⟩ : ∃ z : Int32, z = x9_5 + Int32.ofInt (1) := ⟨_, rfl⟩
              refine r_iinc hC (j := 5) (v := x24_) (lv' := [(5, .int x24_), (4, .int x23_), (0, .ref a0), (1, .int x1), (2, .int x2), (3, .int x6_)]) dX8_dead_89 rfl (by rw [e24]) (by decide) rfl ?_
              try have t24 : x24_.toInt = x9_5.toInt + (1) := by rw [e24]; exact (ti_add (b := Int32.ofInt (1)) (by show _ ≤ _ + (1 : Int); omega) (by show _ + (1 : Int) ≤ _; omega))
              refine r_goto hC (tgt := 36) dX8_dead_92 (by decide) ?_
              refine r_sub [2, 3, 4, 5, 1, 0] rfl ?_
              exact ih9 ((4 - x24_.toInt).toNat) (by omega) x24_ x23_ I13 hs13 hF13 (by omega) (by omega) (by exact k13_0) rfl
      refine r_sub [3, 4, 5, 2, 1, 0] rfl ?_
      exact LP9 _ x8_ x7_ I5 hs5 hF5 (by omega) (by omega) (by exact k5_2) rfl
    · refine r_if_ne hC (tgt := 21) dX8_dead_12 (by decide) (fun c25 => ?_) (fun c25 => ?_)
      · exfalso; omega
      refine r_aload_n hC dX8_dead_15 0 rfl ?_
      refine r_iconst hC (v := (1)) dX8_dead_16 (by decide) (by decide) (fun x26_ e26 t26 => ?_)
      refine r_callV hC (As := [.int x26_]) (rest := []) (ci := 8) (c_X8_refuse g (xL X) K len I J R hs a0 ka0 x26_) mT_2_133 mT_1_1 mT_2_130 mT_2_132 mP_0 okX8_refuse ⟨by decide, by decide⟩ rfl (by show kO (K a0) = _; rw [ka0]; rfl) rfl rfl (Nat.le_of_ble_eq_true rfl) ⟨by decide, by decide⟩ dX8_dead_17 (aI1 (F := fun st M => P g X 6 20 [(0, .ref a0), (1, .int x1), (2, .int x2)] st _ _ M) (M := (K, len, I, J, R)) fun x27_ I27 h27 => ?_)
      obtain ⟨hs27, hf27, k27_0, k27_1⟩ := h27
      show P g X 6 20 [(0, .ref a0), (1, .int x1), (2, .int x2)] [.int x27_] _ _ (K, len, I27, J, R)
      have hF27 : Fr K [(1, 5), (1, 6), (9, 12), (43, 999), (50, 999), (51, 999), (52, 999), (53, 999), (54, 999)] I I27 := hF.trans hf27 rfl rfl
      have hc27 := hc.mv ka hf27 rfl
      exact r_iret hC hQ hlk hr rfl (by decide) (by decide) dX8_dead_20 ⟨_, _, rfl, rfl, ⟨hs27, hF27, (by exact hc27), (by omega)⟩⟩
  · refine r_if_eq hC (tgt := 15) dX8_dead_5 (by decide) (fun c28 => ?_) (fun c28 => ?_)
    rotate_left
    · exfalso; omega
    refine r_aload_n hC dX8_dead_15 0 rfl ?_
    refine r_iconst hC (v := (1)) dX8_dead_16 (by decide) (by decide) (fun x29_ e29 t29 => ?_)
    refine r_callV hC (As := [.int x29_]) (rest := []) (ci := 8) (c_X8_refuse g (xL X) K len I J R hs a0 ka0 x29_) mT_2_133 mT_1_1 mT_2_130 mT_2_132 mP_0 okX8_refuse ⟨by decide, by decide⟩ rfl (by show kO (K a0) = _; rw [ka0]; rfl) rfl rfl (Nat.le_of_ble_eq_true rfl) ⟨by decide, by decide⟩ dX8_dead_17 (aI1 (F := fun st M => P g X 6 20 [(0, .ref a0), (1, .int x1), (2, .int x2)] st _ _ M) (M := (K, len, I, J, R)) fun x30_ I30 h30 => ?_)
    obtain ⟨hs30, hf30, k30_0, k30_1⟩ := h30
    show P g X 6 20 [(0, .ref a0), (1, .int x1), (2, .int x2)] [.int x30_] _ _ (K, len, I30, J, R)
    have hF30 : Fr K [(1, 5), (1, 6), (9, 12), (43, 999), (50, 999), (51, 999), (52, 999), (53, 999), (54, 999)] I I30 := hF.trans hf30 rfl rfl
    have hc30 := hc.mv ka hf30 rfl
    exact r_iret hC hQ hlk hr rfl (by decide) (by decide) dX8_dead_20 ⟨_, _, rfl, rfl, ⟨hs30, hF30, (by exact hc30), (by omega)⟩⟩

