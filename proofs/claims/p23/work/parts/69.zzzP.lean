section DOWN
variable {D : DD} {s d p : Nat} {A A' L L' G G' : Nat → Int} {v v' w w' : Int}
end DOWN
set_option maxHeartbeats 4000000 in
set_option maxRecDepth 100000 in
theorem a_X8_helps (g : GG) (l : Launch) (K len : Nat → Nat) (I : Nat → Nat → Int32) (J : Nat → Nat → Int64) (R : Nat → Nat → Option Nat) (hs : Sf K len I R) (a0 : Nat) (ka0 : K a0 = 9) (x1 : Int32) (x2 : Int32) (h : Nat) (hh : R a0 2 = some h) (kh : K h = 2) (lk : Nat) (hlk2 : R h 0 = some lk) (klk : K lk = 3) (rd : Nat) (hrd : R a0 9 = some rd) (krd : K rd = 4) (lv : Nat) (hlv : R a0 4 = some lv) (klv : K lv = 41) (llv : len lv = 60) (kn : Nat) (hkn : R a0 6 = some kn) (kkn : K kn = 43) (lkn : len kn = 6) (cr : Nat) (hcr : R a0 5 = some cr) (kcr1 : K cr = 44) (lcr : len cr = 6) (hu : UU K R) (D : DD) (E : Nat → Nat → Int) (hc : KC D E a0 h lk rd I R) : Ct g l yX8_helps cX8_helps 3 (Option.some Jvm.ClassFile.FieldType.int) rmX8_helps [.ref a0, .int x1, .int x2] (K, len, I, J, R) (pI1 (K, len, I, J, R) (fun r I' => Sf K len I' R ∧ Fr K [(1, 5), (1, 6), (9, 12), (41, 999), (50, 999), (51, 999), (52, 999), (53, 999), (54, 999)] I I' ∧ (KC D E a0 h lk rd I' R) ∧ (((0 ≤ x1.toInt ∧ x1.toInt < D 0 7) ∧ 0 ≤ x2.toInt ∧ x2.toInt ≤ 59) ∧ r.toInt = (if GV D x1.toInt.toNat (Ad D x1.toInt.toNat (fun j => Lp D (Gp D x2.toInt) (j + 1)) 1) 60 = -2 then (1 : Int) else 0) ∨ ¬ ((0 ≤ x1.toInt ∧ x1.toInt < D 0 7) ∧ 0 ≤ x2.toInt ∧ x2.toInt ≤ 59) ∧ r.toInt = -1) ∧ ((I' a0 12).toInt ≠ 4))) := by
  refine Ct_intro (by decide +kernel) (Nat.le_of_ble_eq_true rfl) (fun X hC hL hKK hNm hr hlk hQ => ?_)
  subst hL
  have hC : Cx g X cX8_helps "HillTap" 3 rmX8_helps := hC
  show P g X 3 0 [(0, .ref a0), (1, .int x1), (2, .int x2)] [] 0 0 (K, len, I, J, R)
  have hF : Fr K [(1, 5), (1, 6), (9, 12), (41, 999), (50, 999), (51, 999), (52, 999), (53, 999), (54, 999)] I I := Fr.refl
  have ka : KA a0 h lk rd K len R := ⟨⟨_, hs⟩, hu, ka0, kh, klk, krd⟩
  obtain ⟨sd1, sd2, sd3, sd4, sd5, sd7, sd8, sd9⟩ := id hc.2.1
  have d7b := hs.rng kh (k := 6) rfl (x := I h 6) rfl
  have d5b := hs.rng kh (k := 1) rfl (x := I h 1) rfl
  have d8b := hs.rng kh (k := 8) rfl (x := I h 8) rfl
  have b_x1 := ti_rng x1
  have b_x2 := ti_rng x2
  refine r_aload_n hC dX8_helps_0 0 rfl ?_
  refine r_iload_n hC dX8_helps_1 1 rfl ?_
  refine r_callV hC (As := [.int x1]) (rest := []) (ci := 8) (f_X8_isStory g (xL X) K len I J R hs a0 ka0 x1 h hh kh) mT_3_155 mT_1_1 mT_3_152 mT_3_154 mP_24 okX8_isStory ⟨by decide, by decide⟩ rfl (by show kO (K a0) = _; rw [ka0]; rfl) rfl rfl (Nat.le_of_ble_eq_true rfl) ⟨by decide, by decide⟩ dX8_helps_2 (aI0 (F := fun st M => P g X 3 5 [(0, .ref a0), (1, .int x1), (2, .int x2)] st _ _ M) (M := (K, len, I, J, R)) fun x1_ h1 => ?_)
  have k1_0 := h1
  clear h1
  show P g X 3 5 [(0, .ref a0), (1, .int x1), (2, .int x2)] [.int x1_] _ _ (K, len, I, J, R)
  rcases k1_0 with ⟨hr1, hw1⟩ | ⟨hr1, hw1⟩
  · refine r_if_eq hC (tgt := 15) dX8_helps_5 (by decide) (fun c2 => ?_) (fun c2 => ?_)
    · exfalso; omega
    refine r_iload_n hC dX8_helps_8 2 rfl ?_
    refine r_callS hC (As := [.int x2]) (rest := []) (f_X8_isDay g (xL X) K len I J R hs x2) mT_3_134 mT_1_1 mT_3_132 mT_3_133 okX8_isDay ⟨by decide, by decide⟩ rfl rfl (Nat.le_of_ble_eq_true rfl) ⟨by decide, by decide⟩ dX8_helps_9 (aI0 (F := fun st M => P g X 3 12 [(0, .ref a0), (1, .int x1), (2, .int x2)] st _ _ M) (M := (K, len, I, J, R)) fun x3_ h3 => ?_)
    have k3_0 := h3
    clear h3
    show P g X 3 12 [(0, .ref a0), (1, .int x1), (2, .int x2)] [.int x3_] _ _ (K, len, I, J, R)
    rcases k3_0 with ⟨hr3, hw3⟩ | ⟨hr3, hw3⟩
    · refine r_if_ne hC (tgt := 21) dX8_helps_12 (by decide) (fun c4 => ?_) (fun c4 => ?_)
      rotate_left
      · exfalso; omega
      refine r_aload_n hC dX8_helps_21 0 rfl ?_
      refine r_aload_n hC dX8_helps_22 0 rfl ?_
      refine r_iload_n hC dX8_helps_23 1 rfl ?_
      refine r_iload_n hC dX8_helps_24 2 rfl ?_
      refine r_callV hC (As := [.int x1, .int x2]) (rest := [.ref a0]) (ci := 8) (f_X8_staysIfDownFrom g (xL X) K len I J R hs a0 ka0 x1 x2 h hh kh lk hlk2 klk rd hrd krd lv hlv klv llv kn hkn kkn lkn cr hcr kcr1 lcr hu D E hc (by omega) (by omega)) mT_4_74 mT_1_1 mT_4_71 mT_4_73 mP_41 okX8_staysIfDownFrom ⟨by decide, by decide⟩ rfl (by show kO (K a0) = _; rw [ka0]; rfl) rfl rfl (Nat.le_of_ble_eq_true rfl) ⟨by decide, by decide⟩ dX8_helps_25 (aI1 (F := fun st M => P g X 3 28 [(0, .ref a0), (1, .int x1), (2, .int x2)] st _ _ M) (M := (K, len, I, J, R)) fun x5_ I5 h5 => ?_)
      obtain ⟨hs5, hf5, k5_0, k5_1⟩ := h5
      show P g X 3 28 [(0, .ref a0), (1, .int x1), (2, .int x2)] [.int x5_, .ref a0] _ _ (K, len, I5, J, R)
      have hF5 : Fr K [(1, 5), (1, 6), (9, 12), (41, 999), (50, 999), (51, 999), (52, 999), (53, 999), (54, 999)] I I5 := hF.trans hf5 rfl rfl
      rcases k5_1 with ⟨hr5, hw5⟩ | ⟨hr5, hw5⟩
      · refine r_if_eq hC (tgt := 35) dX8_helps_28 (by decide) (fun c6 => ?_) (fun c6 => ?_)
        · exfalso; omega
        refine r_iconst hC (v := (1)) dX8_helps_31 (by decide) (by decide) (fun x7_ e7 t7 => ?_)
        refine r_goto hC (tgt := 36) dX8_helps_32 (by decide) ?_
        refine r_callV hC (As := [.int x7_]) (rest := []) (ci := 8) (c_X8_answer g (xL X) K len I5 J R hs5 a0 ka0 x7_) mT_3_115 mT_1_1 mT_3_112 mT_3_114 mP_21 okX8_answer ⟨by decide, by decide⟩ rfl (by show kO (K a0) = _; rw [ka0]; rfl) rfl rfl (Nat.le_of_ble_eq_true rfl) ⟨by decide, by decide⟩ dX8_helps_36 (aI1 (F := fun st M => P g X 3 39 [(0, .ref a0), (1, .int x1), (2, .int x2)] st _ _ M) (M := (K, len, I5, J, R)) fun x8_ I8 h8 => ?_)
        obtain ⟨hs8, hf8, k8_0, k8_1⟩ := h8
        show P g X 3 39 [(0, .ref a0), (1, .int x1), (2, .int x2)] [.int x8_] _ _ (K, len, I8, J, R)
        have hF8 : Fr K [(1, 5), (1, 6), (9, 12), (41, 999), (50, 999), (51, 999), (52, 999), (53, 999), (54, 999)] I I8 := hF5.trans hf8 rfl rfl
        have hc8 := k5_0.mv ka hf8 rfl
        exact r_iret hC hQ hlk hr rfl (by decide) (by decide) dX8_helps_39 ⟨_, _, rfl, rfl, ⟨hs8, hF8, (by exact hc8), (by first | exact Or.inr ⟨by omega, by omega⟩ | exact Or.inl ⟨by omega, (congrArg Int32.toInt k8_0).trans (by first | (rw [if_pos (by omega)]; omega) | (rw [if_neg (by omega)]; omega))⟩), (by omega)⟩⟩
      · refine r_if_eq hC (tgt := 35) dX8_helps_28 (by decide) (fun c9 => ?_) (fun c9 => ?_)
        rotate_left
        · exfalso; omega
        refine r_iconst hC (v := (0)) dX8_helps_35 (by decide) (by decide) (fun x10_ e10 t10 => ?_)
        refine r_callV hC (As := [.int x10_]) (rest := []) (ci := 8) (c_X8_answer g (xL X) K len I5 J R hs5 a0 ka0 x10_) mT_3_115 mT_1_1 mT_3_112 mT_3_114 mP_21 okX8_answer ⟨by decide, by decide⟩ rfl (by show kO (K a0) = _; rw [ka0]; rfl) rfl rfl (Nat.le_of_ble_eq_true rfl) ⟨by decide, by decide⟩ dX8_helps_36 (aI1 (F := fun st M => P g X 3 39 [(0, .ref a0), (1, .int x1), (2, .int x2)] st _ _ M) (M := (K, len, I5, J, R)) fun x11_ I11 h11 => ?_)
        obtain ⟨hs11, hf11, k11_0, k11_1⟩ := h11
        show P g X 3 39 [(0, .ref a0), (1, .int x1), (2, .int x2)] [.int x11_] _ _ (K, len, I11, J, R)
        have hF11 : Fr K [(1, 5), (1, 6), (9, 12), (41, 999), (50, 999), (51, 999), (52, 999), (53, 999), (54, 999)] I I11 := hF5.trans hf11 rfl rfl
        have hc11 := k5_0.mv ka hf11 rfl
        exact r_iret hC hQ hlk hr rfl (by decide) (by decide) dX8_helps_39 ⟨_, _, rfl, rfl, ⟨hs11, hF11, (by exact hc11), (by first | exact Or.inr ⟨by omega, by omega⟩ | exact Or.inl ⟨by omega, (congrArg Int32.toInt k11_0).trans (by first | (rw [if_pos (by omega)]; omega) | (rw [if_neg (by omega)]; omega))⟩), (by omega)⟩⟩
    · refine r_if_ne hC (tgt := 21) dX8_helps_12 (by decide) (fun c12 => ?_) (fun c12 => ?_)
      · exfalso; omega
      refine r_aload_n hC dX8_helps_15 0 rfl ?_
      refine r_iconst hC (v := (1)) dX8_helps_16 (by decide) (by decide) (fun x13_ e13 t13 => ?_)
      refine r_callV hC (As := [.int x13_]) (rest := []) (ci := 8) (c_X8_refuse g (xL X) K len I J R hs a0 ka0 x13_) mT_2_133 mT_1_1 mT_2_130 mT_2_132 mP_0 okX8_refuse ⟨by decide, by decide⟩ rfl (by show kO (K a0) = _; rw [ka0]; rfl) rfl rfl (Nat.le_of_ble_eq_true rfl) ⟨by decide, by decide⟩ dX8_helps_17 (aI1 (F := fun st M => P g X 3 20 [(0, .ref a0), (1, .int x1), (2, .int x2)] st _ _ M) (M := (K, len, I, J, R)) fun x14_ I14 h14 => ?_)
      obtain ⟨hs14, hf14, k14_0, k14_1⟩ := h14
      show P g X 3 20 [(0, .ref a0), (1, .int x1), (2, .int x2)] [.int x14_] _ _ (K, len, I14, J, R)
      have hF14 : Fr K [(1, 5), (1, 6), (9, 12), (41, 999), (50, 999), (51, 999), (52, 999), (53, 999), (54, 999)] I I14 := hF.trans hf14 rfl rfl
      have hc14 := hc.mv ka hf14 rfl
      exact r_iret hC hQ hlk hr rfl (by decide) (by decide) dX8_helps_20 ⟨_, _, rfl, rfl, ⟨hs14, hF14, (by exact hc14), (by first | exact Or.inr ⟨by omega, by omega⟩ | exact Or.inl ⟨by omega, (congrArg Int32.toInt k14_0).trans (by first | (rw [if_pos (by omega)]; omega) | (rw [if_neg (by omega)]; omega))⟩), (by omega)⟩⟩
  · refine r_if_eq hC (tgt := 15) dX8_helps_5 (by decide) (fun c15 => ?_) (fun c15 => ?_)
    rotate_left
    · exfalso; omega
    refine r_aload_n hC dX8_helps_15 0 rfl ?_
    refine r_iconst hC (v := (1)) dX8_helps_16 (by decide) (by decide) (fun x16_ e16 t16 => ?_)
    refine r_callV hC (As := [.int x16_]) (rest := []) (ci := 8) (c_X8_refuse g (xL X) K len I J R hs a0 ka0 x16_) mT_2_133 mT_1_1 mT_2_130 mT_2_132 mP_0 okX8_refuse ⟨by decide, by decide⟩ rfl (by show kO (K a0) = _; rw [ka0]; rfl) rfl rfl (Nat.le_of_ble_eq_true rfl) ⟨by decide, by decide⟩ dX8_helps_17 (aI1 (F := fun st M => P g X 3 20 [(0, .ref a0), (1, .int x1), (2, .int x2)] st _ _ M) (M := (K, len, I, J, R)) fun x17_ I17 h17 => ?_)
    obtain ⟨hs17, hf17, k17_0, k17_1⟩ := h17
    show P g X 3 20 [(0, .ref a0), (1, .int x1), (2, .int x2)] [.int x17_] _ _ (K, len, I17, J, R)
    have hF17 : Fr K [(1, 5), (1, 6), (9, 12), (41, 999), (50, 999), (51, 999), (52, 999), (53, 999), (54, 999)] I I17 := hF.trans hf17 rfl rfl
    have hc17 := hc.mv ka hf17 rfl
    exact r_iret hC hQ hlk hr rfl (by decide) (by decide) dX8_helps_20 ⟨_, _, rfl, rfl, ⟨hs17, hF17, (by exact hc17), (by first | exact Or.inr ⟨by omega, by omega⟩ | exact Or.inl ⟨by omega, (congrArg Int32.toInt k17_0).trans (by first | (rw [if_pos (by omega)]; omega) | (rw [if_neg (by omega)]; omega))⟩), (by omega)⟩⟩
