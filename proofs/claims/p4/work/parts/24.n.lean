abbrev rmX10_readStory : Room := { frames := 8, cells := 0, slots := 0, locals := 171 }
set_option maxHeartbeats 4000000 in
set_option maxRecDepth 100000 in
theorem c_X10_readStory (g : GG) (l : Launch) (K len : Nat → Nat) (I : Nat → Nat → Int32) (J : Nat → Nat → Int64) (R : Nat → Nat → Option Nat) (hs : Sf K len I R) (a0 : Nat) (ka0 : K a0 = 11) (rm : Nat) (hbr : R a0 4 = some rm) (krm : K rm = 10) (p0 : (I a0 9).toInt = 2) (p1 : (I rm 10).toInt ≤ (I rm 3).toInt + (I rm 7).toInt + (I rm 8).toInt + (I rm 9).toInt) (p2 : (I rm 4).toInt ≤ 8) : Ct g l yX10_readStory cX10_readStory 5 (Option.none : Option Jvm.ClassFile.FieldType) rmX10_readStory [.ref a0] (K, len, I, J, R) (pV2 (K, len, I, J, R) (fun I' J' => Sf K len I' R ∧ Fr K [(10, 7), (10, 10), (11, 8), (11, 9), (11, 10), (11, 11), (11, 12), (11, 13), (75, 999), (76, 999), (83, 999), (84, 999), (1000, 999)] I I' ∧ Fr K [(11, 14), (82, 999)] J J' ∧ ((I' a0 9).toInt = 5 ∨ (I' rm 10).toInt ≤ (I' rm 3).toInt + (I' rm 7).toInt + (I' rm 8).toInt + (I' rm 9).toInt) ∧ ((I' rm 4).toInt ≤ 8) ∧ ((I a0 8).toInt ≤ (I' a0 8).toInt) ∧ ((I' a0 9).toInt = 4 → (I a0 8).toInt < (I' a0 8).toInt))) := by
  refine Ct_intro (by decide +kernel) (Nat.le_of_ble_eq_true rfl) (fun X hC hL hKK hNm hr hlk hQ => ?_)
  subst hL
  have hC : Cx g X cX10_readStory "HillTapModel" 5 rmX10_readStory := hC
  show P g X 5 0 [(0, .ref a0)] [] 0 0 (K, len, I, J, R)
  have hF : Fr K [(10, 7), (10, 10), (11, 8), (11, 9), (11, 10), (11, 11), (11, 12), (11, 13), (75, 999), (76, 999), (83, 999), (84, 999), (1000, 999)] I I := Fr.refl
  have hFJ : Fr K [(11, 14), (82, 999)] J J := Fr.refl
  obtain ⟨G3, eG3⟩ : ∃ z : Int32, z = I rm 3 := ⟨_, rfl⟩
  have fG3 : G3.toInt = (I rm 3).toInt := by rw [eG3]
  have rG3 := hs.rng krm rfl eG3
  obtain ⟨G4, eG4⟩ : ∃ z : Int32, z = I rm 4 := ⟨_, rfl⟩
  have fG4 : G4.toInt = (I rm 4).toInt := by rw [eG4]
  have rG4 := hs.rng krm rfl eG4
  obtain ⟨G7, eG7⟩ : ∃ z : Int32, z = I rm 7 := ⟨_, rfl⟩
  have fG7 : G7.toInt = (I rm 7).toInt := by rw [eG7]
  have rG7 := hs.rng krm rfl eG7
  obtain ⟨G8, eG8⟩ : ∃ z : Int32, z = I rm 8 := ⟨_, rfl⟩
  have fG8 : G8.toInt = (I rm 8).toInt := by rw [eG8]
  have rG8 := hs.rng krm rfl eG8
  obtain ⟨G9, eG9⟩ : ∃ z : Int32, z = I rm 9 := ⟨_, rfl⟩
  have fG9 : G9.toInt = (I rm 9).toInt := by rw [eG9]
  have rG9 := hs.rng krm rfl eG9
  obtain ⟨GN, eGN⟩ : ∃ z : Int32, z = I rm 10 := ⟨_, rfl⟩
  have fGN : GN.toInt = (I rm 10).toInt := by rw [eGN]
  have rGN := hs.rng krm rfl eGN
  obtain ⟨A0, eA0⟩ : ∃ z : Int32, z = I a0 8 := ⟨_, rfl⟩
  have fA0 : A0.toInt = (I a0 8).toInt := by rw [eA0]
  have rA0 := hs.rng ka0 rfl eA0
  obtain ⟨T0, eT0⟩ : ∃ z : Int32, z = I a0 9 := ⟨_, rfl⟩
  have fT0 : T0.toInt = (I a0 9).toInt := by rw [eT0]
  refine r_aload_n hC dX10_readStory_0 0 rfl ?_
  refine r_aload_n hC dX10_readStory_1 0 rfl ?_
  refine r_getr hC 4 (ci := 10) rfl u10_in (by decide) mT_4_239 dX10_readStory_2 ka0 rfl rfl hbr ?_
  refine r_getiN hC 7 (ci := 9) rfl u9_in (by decide) nF_7 dX10_readStory_5 krm rfl rfl (fun x1_ e1 => ?_)
  have r1 := hs.rng krm rfl e1
  have f1 : x1_.toInt = (I rm 7).toInt := by rw [e1]
  have w1 : x1_ = G7 := by rw [e1]; exact eG7.symm
  have wt1 : x1_.toInt = G7.toInt := by rw [w1]
  refine r_bipush hC (v := (6)) dX10_readStory_8 (by decide) (by decide) (fun x2_ e2 t2 => ?_)
  have md3 : (I a0 9).toInt ≠ 5 := by omega
  refine r_callV hC (As := [.int x1_, .int x2_]) (rest := []) (ci := 10) (c_X10_begins g (xL X) K len I J R hs a0 ka0 x1_ x2_) mT_6_19 mT_1_10 mT_6_16 mT_6_18 mP_59 okX10_begins ⟨by decide, by decide⟩ rfl (by show kO (K a0) = _; rw [ka0]; rfl) rfl rfl (Nat.le_of_ble_eq_true rfl) ⟨by decide, by decide⟩ dX10_readStory_10 (aV2 (F := fun st M => P g X 5 13 [(0, .ref a0)] st _ _ M) (M := (K, len, I, J, R)) fun I4 J4 h4 => ?_)
  obtain ⟨hs4, hf4, hfj4, k4_0, k4_1, k4_2, k4_3⟩ := h4
  show P g X 5 13 [(0, .ref a0)] [] _ _ (K, len, I4, J4, R)
  have hF4 : Fr K [(10, 7), (10, 10), (11, 8), (11, 9), (11, 10), (11, 11), (11, 12), (11, 13), (75, 999), (76, 999), (83, 999), (84, 999), (1000, 999)] I I4 := hF.trans hf4 rfl rfl
  have hFJ4 : Fr K [(11, 14), (82, 999)] J J4 := hFJ.trans hfj4 rfl rfl
  by_cases sf4 : (I4 a0 9).toInt = 5
  · clear k4_0 k4_1 k4_3 md3
    refine r_aload_n hC dX10_readStory_13 0 rfl ?_
    refine r_iconst hC (v := (1)) dX10_readStory_14 (by decide) (by decide) (fun x5_ e5 t5 => ?_)
    refine r_aload_n hC dX10_readStory_15 0 rfl ?_
    refine r_getr hC 4 (ci := 10) rfl u10_in (by decide) mT_4_239 dX10_readStory_16 ka0 rfl rfl hbr ?_
    refine r_getiN hC 7 (ci := 9) rfl u9_in (by decide) nF_7 dX10_readStory_19 krm rfl rfl (fun x6_ e6 => ?_)
    have r6 := hs4.rng krm rfl e6
    have f6 : x6_.toInt = (I4 rm 7).toInt := by rw [e6]
    have w6 : x6_ = x1_ := by rw [e6]; exact (Eq.trans (hf4.get krm rfl) e1.symm)
    have wt6 : x6_.toInt = x1_.toInt := by rw [w6]
    have qG3 : I4 rm 3 = G3 := (Eq.trans (hf4.get krm rfl) eG3.symm)
    have qG3t : (I4 rm 3).toInt = G3.toInt := congrArg Int32.toInt qG3
    have qG4 : I4 rm 4 = G4 := (Eq.trans (hf4.get krm rfl) eG4.symm)
    have qG4t : (I4 rm 4).toInt = G4.toInt := congrArg Int32.toInt qG4
    have qG7 : I4 rm 7 = x6_ := e6.symm
    have qG7t : (I4 rm 7).toInt = x6_.toInt := congrArg Int32.toInt qG7
    have qG8 : I4 rm 8 = G8 := (Eq.trans (hf4.get krm rfl) eG8.symm)
    have qG8t : (I4 rm 8).toInt = G8.toInt := congrArg Int32.toInt qG8
    have qG9 : I4 rm 9 = G9 := (Eq.trans (hf4.get krm rfl) eG9.symm)
    have qG9t : (I4 rm 9).toInt = G9.toInt := congrArg Int32.toInt qG9
    have qGN : I4 rm 10 = GN := (Eq.trans (hf4.get krm rfl) eGN.symm)
    have qGNt : (I4 rm 10).toInt = GN.toInt := congrArg Int32.toInt qGN
    have md7 : (I4 a0 9).toInt = 5 := by omega
    refine r_callV hC (As := [.int x5_, .int x6_]) (rest := []) (ci := 10) (c_X10_readFresh g (xL X) K len I4 J4 R hs4 a0 ka0 x5_ x6_ rm hbr krm (by first | (left; omega) | (right; omega))) mT_6_23 mT_1_10 mT_6_20 mT_6_22 mP_60 okX10_readFresh ⟨by decide, by decide⟩ rfl (by show kO (K a0) = _; rw [ka0]; rfl) rfl rfl (Nat.le_of_ble_eq_true rfl) ⟨by decide, by decide⟩ dX10_readStory_22 (aV2 (F := fun st M => P g X 5 25 [(0, .ref a0)] st _ _ M) (M := (K, len, I4, J4, R)) fun I8 J8 h8 => ?_)
    obtain ⟨hs8, hf8, hfj8, k8_0, k8_1, k8_2, k8_3⟩ := h8
    show P g X 5 25 [(0, .ref a0)] [] _ _ (K, len, I8, J8, R)
    have hF8 : Fr K [(10, 7), (10, 10), (11, 8), (11, 9), (11, 10), (11, 11), (11, 12), (11, 13), (75, 999), (76, 999), (83, 999), (84, 999), (1000, 999)] I I8 := hF4.trans hf8 rfl rfl
    have hFJ8 : Fr K [(11, 14), (82, 999)] J J8 := hFJ4.trans hfj8 rfl rfl
    have sf8 := k8_0 md7
    clear k8_0 k8_2 md7 sf4
    obtain ⟨N1, eN1⟩ : ∃ z : Int32, z = I8 rm 10 := ⟨_, rfl⟩
    have fN1 : N1.toInt = (I8 rm 10).toInt := by rw [eN1]
    have rN1 := hs8.rng krm rfl eN1
    refine r_aload_n hC dX10_readStory_25 0 rfl ?_
    refine r_ldcS hC (i := 45) (by decide) rfl rfl dX10_readStory_26 ?_
    refine r_iconst hC (v := (1)) dX10_readStory_28 (by decide) (by decide) (fun x9_ e9 t9 => ?_)
    refine r_bipush hC (v := (99)) dX10_readStory_29 (by decide) (by decide) (fun x10_ e10 t10 => ?_)
    have md11 : (I8 a0 9).toInt = 5 := by omega
    refine r_callV hC (As := [.ref (g.2.2.1 45), .int x9_, .int x10_]) (rest := []) (ci := 10) (c_X10_readPart g (xL X) K len I8 J8 R hs8 a0 ka0 45 (by decide) x9_ x10_) mT_6_1 mT_1_10 mT_5_238 mT_6_0 mP_56 okX10_readPart ⟨by decide, by decide⟩ rfl (by show kO (K a0) = _; rw [ka0]; rfl) rfl rfl (Nat.le_of_ble_eq_true rfl) ⟨by decide, by decide⟩ dX10_readStory_31 (aI2 (F := fun st M => P g X 5 34 [(0, .ref a0)] st _ _ M) (M := (K, len, I8, J8, R)) fun x12_ I12 J12 h12 => ?_)
    obtain ⟨hs12, hf12, hfj12, k12_0, k12_1, k12_2, k12_3⟩ := h12
    show P g X 5 34 [(0, .ref a0)] [.int x12_] _ _ (K, len, I12, J12, R)
    have hF12 : Fr K [(10, 7), (10, 10), (11, 8), (11, 9), (11, 10), (11, 11), (11, 12), (11, 13), (75, 999), (76, 999), (83, 999), (84, 999), (1000, 999)] I I12 := hF8.trans hf12 rfl rfl
    have hFJ12 : Fr K [(11, 14), (82, 999)] J J12 := hFJ8.trans hfj12 rfl rfl
    have sf12 := k12_0 md11
    clear k12_0 k12_1 k12_3 md11 sf8
    refine r_istore_n hC (lv' := [(1, .int x12_), (0, .ref a0)]) dX10_readStory_34 (by decide) rfl ?_
    refine r_aload_n hC dX10_readStory_35 1 rfl ?_
    refine r_ldcS hC (i := 46) (by decide) rfl rfl dX10_readStory_36 ?_
    refine r_callV hC (As := [.ref (g.2.2.1 46)]) (rest := []) (ci := 10) (c_X10_isWord g (xL X) K len I12 J12 R hs12 a0 ka0 46 (by decide)) mT_5_223 mT_1_10 mT_5_220 mT_5_222 mP_53 okX10_isWord ⟨by decide, by decide⟩ rfl (by show kO (K a0) = _; rw [ka0]; rfl) rfl rfl (Nat.le_of_ble_eq_true rfl) ⟨by decide, by decide⟩ dX10_readStory_38 (aI0 (F := fun st M => P g X 5 41 [(1, .int x12_), (0, .ref a0)] st _ _ M) (M := (K, len, I12, J12, R)) fun x13_ h13 => ?_)
    obtain ⟨k13_0, k13_1, k13_2⟩ := h13
    show P g X 5 41 [(1, .int x12_), (0, .ref a0)] [.int x13_] _ _ (K, len, I12, J12, R)
    refine r_if_eq hC (tgt := 48) dX10_readStory_41 (by decide) (fun c14 => ?_) (fun c14 => ?_)
    rotate_left
    · exfalso; have h9 := k13_2 c14; omega
    clear k13_2
    refine r_aload_n hC dX10_readStory_48 1 rfl ?_
    refine r_ldcS hC (i := 47) (by decide) rfl rfl dX10_readStory_49 ?_
    refine r_callV hC (As := [.ref (g.2.2.1 47)]) (rest := []) (ci := 10) (c_X10_isWord g (xL X) K len I12 J12 R hs12 a0 ka0 47 (by decide)) mT_5_223 mT_1_10 mT_5_220 mT_5_222 mP_53 okX10_isWord ⟨by decide, by decide⟩ rfl (by show kO (K a0) = _; rw [ka0]; rfl) rfl rfl (Nat.le_of_ble_eq_true rfl) ⟨by decide, by decide⟩ dX10_readStory_51 (aI0 (F := fun st M => P g X 5 54 [(1, .int x12_), (0, .ref a0)] st _ _ M) (M := (K, len, I12, J12, R)) fun x15_ h15 => ?_)
    obtain ⟨k15_0, k15_1, k15_2⟩ := h15
    show P g X 5 54 [(1, .int x12_), (0, .ref a0)] [.int x15_] _ _ (K, len, I12, J12, R)
    refine r_if_eq hC (tgt := 61) dX10_readStory_54 (by decide) (fun c16 => ?_) (fun c16 => ?_)
    rotate_left
    · exfalso; have h9 := k15_2 c16; omega
    clear k15_2
    refine r_aload_n hC dX10_readStory_61 1 rfl ?_
    refine r_ldcS hC (i := 48) (by decide) rfl rfl dX10_readStory_62 ?_
    refine r_callV hC (As := [.ref (g.2.2.1 48)]) (rest := []) (ci := 10) (c_X10_isWord g (xL X) K len I12 J12 R hs12 a0 ka0 48 (by decide)) mT_5_223 mT_1_10 mT_5_220 mT_5_222 mP_53 okX10_isWord ⟨by decide, by decide⟩ rfl (by show kO (K a0) = _; rw [ka0]; rfl) rfl rfl (Nat.le_of_ble_eq_true rfl) ⟨by decide, by decide⟩ dX10_readStory_64 (aI0 (F := fun st M => P g X 5 67 [(1, .int x12_), (0, .ref a0)] st _ _ M) (M := (K, len, I12, J12, R)) fun x17_ h17 => ?_)
    obtain ⟨k17_0, k17_1, k17_2⟩ := h17
    show P g X 5 67 [(1, .int x12_), (0, .ref a0)] [.int x17_] _ _ (K, len, I12, J12, R)
    refine r_if_eq hC (tgt := 74) dX10_readStory_67 (by decide) (fun c18 => ?_) (fun c18 => ?_)
    rotate_left
    · exfalso; have h9 := k17_2 c18; omega
    clear k17_2
    refine r_aload_n hC dX10_readStory_74 1 rfl ?_
    refine r_ldcS hC (i := 49) (by decide) rfl rfl dX10_readStory_75 ?_
    refine r_callV hC (As := [.ref (g.2.2.1 49)]) (rest := []) (ci := 10) (c_X10_isWord g (xL X) K len I12 J12 R hs12 a0 ka0 49 (by decide)) mT_5_223 mT_1_10 mT_5_220 mT_5_222 mP_53 okX10_isWord ⟨by decide, by decide⟩ rfl (by show kO (K a0) = _; rw [ka0]; rfl) rfl rfl (Nat.le_of_ble_eq_true rfl) ⟨by decide, by decide⟩ dX10_readStory_77 (aI0 (F := fun st M => P g X 5 80 [(1, .int x12_), (0, .ref a0)] st _ _ M) (M := (K, len, I12, J12, R)) fun x19_ h19 => ?_)
    obtain ⟨k19_0, k19_1, k19_2⟩ := h19
    show P g X 5 80 [(1, .int x12_), (0, .ref a0)] [.int x19_] _ _ (K, len, I12, J12, R)
    refine r_if_eq hC (tgt := 87) dX10_readStory_80 (by decide) (fun c20 => ?_) (fun c20 => ?_)
    rotate_left
    · exfalso; have h9 := k19_2 c20; omega
    clear k19_2
    refine r_aload_n hC dX10_readStory_87 1 rfl ?_
    refine r_ldcS hC (i := 50) (by decide) rfl rfl dX10_readStory_88 ?_
    refine r_callV hC (As := [.ref (g.2.2.1 50)]) (rest := []) (ci := 10) (c_X10_isWord g (xL X) K len I12 J12 R hs12 a0 ka0 50 (by decide)) mT_5_223 mT_1_10 mT_5_220 mT_5_222 mP_53 okX10_isWord ⟨by decide, by decide⟩ rfl (by show kO (K a0) = _; rw [ka0]; rfl) rfl rfl (Nat.le_of_ble_eq_true rfl) ⟨by decide, by decide⟩ dX10_readStory_90 (aI0 (F := fun st M => P g X 5 93 [(1, .int x12_), (0, .ref a0)] st _ _ M) (M := (K, len, I12, J12, R)) fun x21_ h21 => ?_)
    obtain ⟨k21_0, k21_1, k21_2⟩ := h21
    show P g X 5 93 [(1, .int x12_), (0, .ref a0)] [.int x21_] _ _ (K, len, I12, J12, R)
    refine r_if_eq hC (tgt := 100) dX10_readStory_93 (by decide) (fun c22 => ?_) (fun c22 => ?_)
    rotate_left
    · exfalso; have h9 := k21_2 c22; omega
    clear k21_2
    refine r_aload_n hC dX10_readStory_100 1 rfl ?_
    refine r_ldcwS hC (i := 51) (by decide) rfl rfl dX10_readStory_101 ?_
    refine r_callV hC (As := [.ref (g.2.2.1 51)]) (rest := []) (ci := 10) (c_X10_isWord g (xL X) K len I12 J12 R hs12 a0 ka0 51 (by decide)) mT_5_223 mT_1_10 mT_5_220 mT_5_222 mP_53 okX10_isWord ⟨by decide, by decide⟩ rfl (by show kO (K a0) = _; rw [ka0]; rfl) rfl rfl (Nat.le_of_ble_eq_true rfl) ⟨by decide, by decide⟩ dX10_readStory_104 (aI0 (F := fun st M => P g X 5 107 [(1, .int x12_), (0, .ref a0)] st _ _ M) (M := (K, len, I12, J12, R)) fun x23_ h23 => ?_)
    obtain ⟨k23_0, k23_1, k23_2⟩ := h23
    show P g X 5 107 [(1, .int x12_), (0, .ref a0)] [.int x23_] _ _ (K, len, I12, J12, R)
    refine r_if_eq hC (tgt := 114) dX10_readStory_107 (by decide) (fun c24 => ?_) (fun c24 => ?_)
    rotate_left
    · exfalso; have h9 := k23_2 c24; omega
    clear k23_2
    refine r_iconst hC (v := (-1)) dX10_readStory_114 (by decide) (by decide) (fun x25_ e25 t25 => ?_)
    refine r_istore_n hC (lv' := [(2, .int x25_), (1, .int x12_), (0, .ref a0)]) dX10_readStory_115 (by decide) rfl ?_
    refine r_iload_n hC dX10_readStory_116 0 rfl ?_
    refine r_iconst hC (v := (-1)) dX10_readStory_117 (by decide) (by decide) (fun x26_ e26 t26 => ?_)
    refine r_icmp_ne hC (tgt := 126) dX10_readStory_118 (by decide) (fun c27 => ?_) (fun c27 => ?_)
    · exfalso; omega
    refine r_aload_n hC dX10_readStory_121 2 rfl ?_
    refine r_iconst hC (v := (1)) dX10_readStory_122 (by decide) (by decide) (fun x28_ e28 t28 => ?_)
    have md29 : (I12 a0 9).toInt = 5 := by omega
    refine r_callV hC (As := [.int x28_]) (rest := []) (ci := 10) (c_X10_wrong g (xL X) K len I12 J12 R hs12 a0 ka0 x28_) mT_5_236 mT_1_10 mT_5_233 mT_5_235 mP_55 okX10_wrong ⟨by decide, by decide⟩ rfl (by show kO (K a0) = _; rw [ka0]; rfl) rfl rfl (Nat.le_of_ble_eq_true rfl) ⟨by decide, by decide⟩ dX10_readStory_123 (aV1 (F := fun st M => P g X 5 126 [(2, .int x25_), (1, .int x12_), (0, .ref a0)] st _ _ M) (M := (K, len, I12, J12, R)) fun I30 h30 => ?_)
    obtain ⟨hs30, hf30, k30_0, k30_1⟩ := h30
    show P g X 5 126 [(2, .int x25_), (1, .int x12_), (0, .ref a0)] [] _ _ (K, len, I30, J12, R)
    have hF30 : Fr K [(10, 7), (10, 10), (11, 8), (11, 9), (11, 10), (11, 11), (11, 12), (11, 13), (75, 999), (76, 999), (83, 999), (84, 999), (1000, 999)] I I30 := hF12.trans hf30 rfl rfl
    clear md29 sf12
    refine r_aload_n hC dX10_readStory_126 2 rfl ?_
    have md31 : (I30 a0 9).toInt = 5 := by omega
    refine r_callV hC (As := []) (rest := []) (ci := 10) (c_X10_goesOn g (xL X) K len I30 J12 R hs30 a0 ka0) mT_5_199 mT_1_10 mT_5_196 mT_5_198 mP_49 okX10_goesOn ⟨by decide, by decide⟩ rfl (by show kO (K a0) = _; rw [ka0]; rfl) rfl rfl (Nat.le_of_ble_eq_true rfl) ⟨by decide, by decide⟩ dX10_readStory_127 (aV2 (F := fun st M => P g X 5 130 [(2, .int x25_), (1, .int x12_), (0, .ref a0)] st _ _ M) (M := (K, len, I30, J12, R)) fun I32 J32 h32 => ?_)
    obtain ⟨hs32, hf32, hfj32, k32_0, k32_1, k32_2, k32_3⟩ := h32
    show P g X 5 130 [(2, .int x25_), (1, .int x12_), (0, .ref a0)] [] _ _ (K, len, I32, J32, R)
    have hF32 : Fr K [(10, 7), (10, 10), (11, 8), (11, 9), (11, 10), (11, 11), (11, 12), (11, 13), (75, 999), (76, 999), (83, 999), (84, 999), (1000, 999)] I I32 := hF30.trans hf32 rfl rfl
    have hFJ32 : Fr K [(11, 14), (82, 999)] J J32 := hFJ12.trans hfj32 rfl rfl
    have sf32 := k32_0 md31
    clear k32_0 k32_1 k32_3 md31
    refine r_aload_n hC dX10_readStory_130 2 rfl ?_
    refine r_iconst hC (v := (0)) dX10_readStory_131 (by decide) (by decide) (fun x33_ e33 t33 => ?_)
    refine r_bipush hC (v := (99)) dX10_readStory_132 (by decide) (by decide) (fun x34_ e34 t34 => ?_)
    have md35 : (I32 a0 9).toInt = 5 := by omega
    refine r_callV hC (As := [.int x33_, .int x34_]) (rest := []) (ci := 10) (c_X10_readWhole g (xL X) K len I32 J32 R hs32 a0 ka0 x33_ x34_) mT_6_5 mT_1_10 mT_6_2 mT_6_4 mP_57 okX10_readWhole ⟨by decide, by decide⟩ rfl (by show kO (K a0) = _; rw [ka0]; rfl) rfl rfl (Nat.le_of_ble_eq_true rfl) ⟨by decide, by decide⟩ dX10_readStory_134 (aI2 (F := fun st M => P g X 5 137 [(2, .int x25_), (1, .int x12_), (0, .ref a0)] st _ _ M) (M := (K, len, I32, J32, R)) fun x36_ I36 J36 h36 => ?_)
    obtain ⟨hs36, hf36, hfj36, k36_0, k36_1, k36_2, k36_3⟩ := h36
    show P g X 5 137 [(2, .int x25_), (1, .int x12_), (0, .ref a0)] [.int x36_] _ _ (K, len, I36, J36, R)
    have hF36 : Fr K [(10, 7), (10, 10), (11, 8), (11, 9), (11, 10), (11, 11), (11, 12), (11, 13), (75, 999), (76, 999), (83, 999), (84, 999), (1000, 999)] I I36 := hF32.trans hf36 rfl rfl
    have hFJ36 : Fr K [(11, 14), (82, 999)] J J36 := hFJ32.trans hfj36 rfl rfl
    have sf36 := k36_0 md35
    clear k36_0 k36_1 k36_3 md35 sf32
    refine r_istore_n hC (lv' := [(3, .int x36_), (2, .int x25_), (1, .int x12_), (0, .ref a0)]) dX10_readStory_137 (by decide) rfl ?_
    refine r_iload_n hC dX10_readStory_138 1 rfl ?_
    refine r_iconst hC (v := (2)) dX10_readStory_139 (by decide) (by decide) (fun x37_ e37 t37 => ?_)
    refine r_icmp_ne hC (tgt := 156) dX10_readStory_140 (by decide) (fun c38 => ?_) (fun c38 => ?_)
    rotate_left
    · exfalso; omega
    refine r_iload_n hC dX10_readStory_156 1 rfl ?_
    refine r_iconst hC (v := (3)) dX10_readStory_157 (by decide) (by decide) (fun x39_ e39 t39 => ?_)
    refine r_icmp_ne hC (tgt := 175) dX10_readStory_158 (by decide) (fun c40 => ?_) (fun c40 => ?_)
    rotate_left
    · exfalso; omega
    refine r_iload_n hC dX10_readStory_175 1 rfl ?_
    refine r_iconst hC (v := (4)) dX10_readStory_176 (by decide) (by decide) (fun x41_ e41 t41 => ?_)
    refine r_icmp_ne hC (tgt := 193) dX10_readStory_177 (by decide) (fun c42 => ?_) (fun c42 => ?_)
    rotate_left
    · exfalso; omega
    refine r_iconst hC (v := (0)) dX10_readStory_193 (by decide) (by decide) (fun x43_ e43 t43 => ?_)
    refine r_istore hC (lv' := [(4, .int x43_), (3, .int x36_), (2, .int x25_), (1, .int x12_), (0, .ref a0)]) dX10_readStory_194 (by decide) rfl ?_
    refine r_aload_n hC dX10_readStory_196 4 rfl ?_
    obtain ⟨A9, eA9⟩ : ∃ z : Int32, z = I36 a0 8 := ⟨_, rfl⟩
    have fA9 : A9.toInt = (I36 a0 8).toInt := by rw [eA9]
    have rA9 := hs36.rng ka0 rfl eA9
    refine r_geti hC 9 (ci := 10) rfl u10_in (by decide) mT_5_4 dX10_readStory_197 ka0 rfl rfl (fun x44_ e44 => ?_)
    have f44 : x44_.toInt = (I36 a0 9).toInt := by rw [e44]
    refine r_iconst hC (v := (5)) dX10_readStory_200 (by decide) (by decide) (fun x45_ e45 t45 => ?_)
    refine r_icmp_ne hC (tgt := 205) dX10_readStory_201 (by decide) (fun c46 => ?_) (fun c46 => ?_)
    · refine r_aload_n hC dX10_readStory_205 4 rfl ?_
      refine r_getr hC 4 (ci := 10) rfl u10_in (by decide) mT_4_239 dX10_readStory_206 ka0 rfl rfl hbr ?_
      obtain ⟨a47_, hb47, hk47, hn47⟩ := hs36.row krm 16 75 6 (by decide) (by decide)
      refine r_getrN hC 16 (ci := 9) rfl u9_in (by decide) nF_16 dX10_readStory_209 krm rfl rfl hb47 ?_
      refine r_aload_n hC dX10_readStory_212 4 rfl ?_
      refine r_getr hC 4 (ci := 10) rfl u10_in (by decide) mT_4_239 dX10_readStory_213 ka0 rfl rfl hbr ?_
      refine r_getiN hC 7 (ci := 9) rfl u9_in (by decide) nF_7 dX10_readStory_216 krm rfl rfl (fun x48_ e48 => ?_)
      have r48 := hs36.rng krm rfl e48
      have f48 : x48_.toInt = (I36 rm 7).toInt := by rw [e48]
      have w48 : x48_ = x6_ := by rw [e48]; exact (Eq.trans (hf36.get krm rfl) (Eq.trans (hf32.get krm rfl) (Eq.trans (hf30.get krm rfl) (Eq.trans (hf12.get krm rfl) (Eq.trans (hf8.get krm rfl) e6.symm)))))
      have wt48 : x48_.toInt = x6_.toInt := by rw [w48]
      refine r_iload_n hC dX10_readStory_219 3 rfl ?_
      refine x_iastore hC hk47 hn47 (by decide) rfl rfl dX10_readStory_220 (by omega) (by omega) (fun I49 eI49 => ?_)
      have hs49 := hs36.put0 eI49 hk47 (rng_arr (by decide) _) rfl (xF_arr (by decide) _) (by decide)
      have hF49 := hF36.put eI49 hk47 (inS_arr rfl _)
      refine r_aload_n hC dX10_readStory_221 4 rfl ?_
      refine r_getr hC 4 (ci := 10) rfl u10_in (by decide) mT_4_239 dX10_readStory_222 ka0 rfl rfl hbr ?_
      obtain ⟨kd50, mo50, hb50, hk50, hn50, hB50, hK50, hN50⟩ := hs49.2.2.1 rm krm
      refine r_getrN hC 17 (ci := 9) rfl u9_in (by decide) nF_17 dX10_readStory_225 krm rfl rfl hb50 ?_
      refine r_aload_n hC dX10_readStory_228 4 rfl ?_
      refine r_getr hC 4 (ci := 10) rfl u10_in (by decide) mT_4_239 dX10_readStory_229 ka0 rfl rfl hbr ?_
      refine r_getiN hC 7 (ci := 9) rfl u9_in (by decide) nF_7 dX10_readStory_232 krm rfl rfl (fun x51_ e51 => ?_)
      have r51 := hs49.rng krm rfl e51
      have f51 : x51_.toInt = (I49 rm 7).toInt := by rw [e51]
      have w51 : x51_ = x48_ := by rw [e51]; exact (Eq.trans (up2_kk eI49 hk47 krm (by decide)) e48.symm)
      have wt51 : x51_.toInt = x48_.toInt := by rw [w51]
      refine r_iload_n hC dX10_readStory_235 2 rfl ?_
      refine x_iastore hC hk50 hn50 (by omega) (kOb (by omega)) (kAb (by omega)) dX10_readStory_236 (by omega) (by omega) (fun I52 eI52 => ?_)
      have hs52 : Sf K len I52 R := hs49.putK (rm := rm) eI52 (Or.inl hk50) (by have h9 := clampI (i := x51_) (by omega); omega)
      have hF52 := hF49.put eI52 hk50 (inS_big rfl (by omega) _)
      refine r_aload_n hC dX10_readStory_237 4 rfl ?_
      refine r_getr hC 4 (ci := 10) rfl u10_in (by decide) mT_4_239 dX10_readStory_238 ka0 rfl rfl hbr ?_
      obtain ⟨a53_, hb53, hk53, hn53⟩ := hs52.row krm 18 76 6 (by decide) (by decide)
      refine r_getrN hC 18 (ci := 9) rfl u9_in (by decide) nF_18 dX10_readStory_241 krm rfl rfl hb53 ?_
      refine r_aload_n hC dX10_readStory_244 4 rfl ?_
      refine r_getr hC 4 (ci := 10) rfl u10_in (by decide) mT_4_239 dX10_readStory_245 ka0 rfl rfl hbr ?_
      refine r_getiN hC 7 (ci := 9) rfl u9_in (by decide) nF_7 dX10_readStory_248 krm rfl rfl (fun x54_ e54 => ?_)
      have r54 := hs52.rng krm rfl e54
      have f54 : x54_.toInt = (I52 rm 7).toInt := by rw [e54]
      have w54 : x54_ = x51_ := by rw [e54]; exact (Eq.trans (up2_kk eI52 hk50 krm (by omega)) e51.symm)
      have wt54 : x54_.toInt = x51_.toInt := by rw [w54]
      refine r_iload_n hC dX10_readStory_251 1 rfl ?_
      refine x_iastore hC hk53 hn53 (by decide) rfl rfl dX10_readStory_252 (by omega) (by omega) (fun I55 eI55 => ?_)
      have hs55 := hs52.put0 eI55 hk53 (rng_arr (by decide) _) rfl (xF_arr (by decide) _) (by decide)
      have hF55 := hF52.put eI55 hk53 (inS_arr rfl _)
      refine r_aload_n hC dX10_readStory_253 4 rfl ?_
      refine r_getr hC 4 (ci := 10) rfl u10_in (by decide) mT_4_239 dX10_readStory_254 ka0 rfl rfl hbr ?_
      refine r_getrN hC 19 (ci := 9) rfl u9_in (by decide) nF_19 dX10_readStory_257 krm rfl rfl hB50 ?_
      refine r_aload_n hC dX10_readStory_260 4 rfl ?_
      refine r_getr hC 4 (ci := 10) rfl u10_in (by decide) mT_4_239 dX10_readStory_261 ka0 rfl rfl hbr ?_
      refine r_getiN hC 7 (ci := 9) rfl u9_in (by decide) nF_7 dX10_readStory_264 krm rfl rfl (fun x56_ e56 => ?_)
      have r56 := hs55.rng krm rfl e56
      have f56 : x56_.toInt = (I55 rm 7).toInt := by rw [e56]
      have w56 : x56_ = x54_ := by rw [e56]; exact (Eq.trans (up2_kk eI55 hk53 krm (by decide)) e54.symm)
      have wt56 : x56_.toInt = x54_.toInt := by rw [w56]
      refine r_iload hC dX10_readStory_267 0 rfl ?_
      refine x_iastore hC hK50 hN50 (by omega) (kOb (by omega)) (kAb (by omega)) dX10_readStory_269 (by omega) (by omega) (fun I57 eI57 => ?_)
      have hs57 : Sf K len I57 R := hs55.putK (rm := rm) eI57 (Or.inr hK50) (by have h9 := clampI (i := x56_) (by omega); omega)
      have hF57 := hF55.put eI57 hK50 (inS_big rfl (by omega) _)
      refine r_aload_n hC dX10_readStory_270 4 rfl ?_
      refine r_getr hC 4 (ci := 10) rfl u10_in (by decide) mT_4_239 dX10_readStory_271 ka0 rfl rfl hbr ?_
      refine r_dup hC dX10_readStory_274 rfl ?_
      refine r_getiN hC 7 (ci := 9) rfl u9_in (by decide) nF_7 dX10_readStory_275 krm rfl rfl (fun x58_ e58 => ?_)
      have r58 := hs57.rng krm rfl e58
      have f58 : x58_.toInt = (I57 rm 7).toInt := by rw [e58]
      have w58 : x58_ = x56_ := by rw [e58]; exact (Eq.trans (up2_kk eI57 hK50 krm (by omega)) e56.symm)
      have wt58 : x58_.toInt = x56_.toInt := by rw [w58]
      refine r_iconst hC (v := (1)) dX10_readStory_278 (by decide) (by decide) (fun x59_ e59 t59 => ?_)
      refine r_iadd hC dX10_readStory_279 (fun x60_ e60 => ?_)
      try have t60 : x60_.toInt = x58_.toInt + x59_.toInt := by rw [e60]; exact ti_add (by omega) (by omega)
      refine r_putiN hC 7 (ci := 9) rfl u9_in tyX9_ok nmX9 (by decide) nF_7 rfl rfl rfl dX10_readStory_280 krm rfl rfl (fun I61 eI61 => ?_)
      have hs61 : Sf K len I61 R := hs57.putA7 eI61 krm hb50 hB50 (by omega) (by omega) (j := x51_.toNatClampNeg) (by have h9 := clampI (i := x51_) (by omega); omega) (by omega) (by rw [(show I57 kd50 x51_.toNatClampNeg = x25_ from (Eq.trans (up2_kk eI57 hK50 hk50 (by omega)) (Eq.trans (up2_kk eI55 hk53 hk50 (by omega)) (by rw [eI52]; exact up2_self _ _ _ _)))), cl_eq (show x51_.toInt = x56_.toInt by omega), (show I57 mo50 x56_.toNatClampNeg = x43_ from (by rw [eI57]; exact up2_self _ _ _ _))]; omega)
      have hF61 := hF57.put eI61 krm rfl
      have hG3 : I61 rm 3 = G3 := (Eq.trans (up2_at (Or.inr (by decide)) eI61) (Eq.trans (up2_kk eI57 hK50 krm (by omega)) (Eq.trans (up2_kk eI55 hk53 krm (by decide)) (Eq.trans (up2_kk eI52 hk50 krm (by omega)) (Eq.trans (up2_kk eI49 hk47 krm (by decide)) (Eq.trans (hf36.get krm rfl) (Eq.trans (hf32.get krm rfl) (Eq.trans (hf30.get krm rfl) (Eq.trans (hf12.get krm rfl) (Eq.trans (hf8.get krm rfl) (Eq.trans (hf4.get krm rfl) eG3.symm)))))))))))
      have hG3t : (I61 rm 3).toInt = G3.toInt := congrArg Int32.toInt hG3
      have hG4 : I61 rm 4 = G4 := (Eq.trans (up2_at (Or.inr (by decide)) eI61) (Eq.trans (up2_kk eI57 hK50 krm (by omega)) (Eq.trans (up2_kk eI55 hk53 krm (by decide)) (Eq.trans (up2_kk eI52 hk50 krm (by omega)) (Eq.trans (up2_kk eI49 hk47 krm (by decide)) (Eq.trans (hf36.get krm rfl) (Eq.trans (hf32.get krm rfl) (Eq.trans (hf30.get krm rfl) (Eq.trans (hf12.get krm rfl) (Eq.trans (hf8.get krm rfl) (Eq.trans (hf4.get krm rfl) eG4.symm)))))))))))
      have hG4t : (I61 rm 4).toInt = G4.toInt := congrArg Int32.toInt hG4
      have hG7 : I61 rm 7 = x60_ := (by rw [eI61]; exact up2_self _ _ _ _)
      have hG7t : (I61 rm 7).toInt = x60_.toInt := congrArg Int32.toInt hG7
      have hG8 : I61 rm 8 = G8 := (Eq.trans (up2_at (Or.inr (by decide)) eI61) (Eq.trans (up2_kk eI57 hK50 krm (by omega)) (Eq.trans (up2_kk eI55 hk53 krm (by decide)) (Eq.trans (up2_kk eI52 hk50 krm (by omega)) (Eq.trans (up2_kk eI49 hk47 krm (by decide)) (Eq.trans (hf36.get krm rfl) (Eq.trans (hf32.get krm rfl) (Eq.trans (hf30.get krm rfl) (Eq.trans (hf12.get krm rfl) (Eq.trans (hf8.get krm rfl) (Eq.trans (hf4.get krm rfl) eG8.symm)))))))))))
      have hG8t : (I61 rm 8).toInt = G8.toInt := congrArg Int32.toInt hG8
      have hG9 : I61 rm 9 = G9 := (Eq.trans (up2_at (Or.inr (by decide)) eI61) (Eq.trans (up2_kk eI57 hK50 krm (by omega)) (Eq.trans (up2_kk eI55 hk53 krm (by decide)) (Eq.trans (up2_kk eI52 hk50 krm (by omega)) (Eq.trans (up2_kk eI49 hk47 krm (by decide)) (Eq.trans (hf36.get krm rfl) (Eq.trans (hf32.get krm rfl) (Eq.trans (hf30.get krm rfl) (Eq.trans (hf12.get krm rfl) (Eq.trans (hf8.get krm rfl) (Eq.trans (hf4.get krm rfl) eG9.symm)))))))))))
      have hG9t : (I61 rm 9).toInt = G9.toInt := congrArg Int32.toInt hG9
      have hGN : I61 rm 10 = N1 := (Eq.trans (up2_at (Or.inr (by decide)) eI61) (Eq.trans (up2_kk eI57 hK50 krm (by omega)) (Eq.trans (up2_kk eI55 hk53 krm (by decide)) (Eq.trans (up2_kk eI52 hk50 krm (by omega)) (Eq.trans (up2_kk eI49 hk47 krm (by decide)) (Eq.trans (hf36.get krm rfl) (Eq.trans (hf32.get krm rfl) (Eq.trans (hf30.get krm rfl) (Eq.trans (hf12.get krm rfl) eN1.symm)))))))))
      have hGNt : (I61 rm 10).toInt = N1.toInt := congrArg Int32.toInt hGN
      have hv8 : I61 a0 8 = A9 := (Eq.trans (up2_kk eI61 krm ka0 (by decide)) (Eq.trans (up2_kk eI57 hK50 ka0 (by omega)) (Eq.trans (up2_kk eI55 hk53 ka0 (by decide)) (Eq.trans (up2_kk eI52 hk50 ka0 (by omega)) (Eq.trans (up2_kk eI49 hk47 ka0 (by decide)) eA9.symm)))))
      have hv8t : (I61 a0 8).toInt = A9.toInt := congrArg Int32.toInt hv8
      have hv9 : I61 a0 9 = x44_ := (Eq.trans (up2_kk eI61 krm ka0 (by decide)) (Eq.trans (up2_kk eI57 hK50 ka0 (by omega)) (Eq.trans (up2_kk eI55 hk53 ka0 (by decide)) (Eq.trans (up2_kk eI52 hk50 ka0 (by omega)) (Eq.trans (up2_kk eI49 hk47 ka0 (by decide)) e44.symm)))))
      have hv9t : (I61 a0 9).toInt = x44_.toInt := congrArg Int32.toInt hv9
      exact r_vret hC hQ hlk hr (by decide) (by decide) dX10_readStory_283 ⟨_, _, rfl, rfl, ⟨hs61, hF61, hFJ36, (by first | (left; omega) | (right; omega)), (by omega), (by omega), (by omega)⟩⟩
    · have hG3 : I36 rm 3 = G3 := (Eq.trans (hf36.get krm rfl) (Eq.trans (hf32.get krm rfl) (Eq.trans (hf30.get krm rfl) (Eq.trans (hf12.get krm rfl) (Eq.trans (hf8.get krm rfl) (Eq.trans (hf4.get krm rfl) eG3.symm))))))
      have hG3t : (I36 rm 3).toInt = G3.toInt := congrArg Int32.toInt hG3
      have hG4 : I36 rm 4 = G4 := (Eq.trans (hf36.get krm rfl) (Eq.trans (hf32.get krm rfl) (Eq.trans (hf30.get krm rfl) (Eq.trans (hf12.get krm rfl) (Eq.trans (hf8.get krm rfl) (Eq.trans (hf4.get krm rfl) eG4.symm))))))
      have hG4t : (I36 rm 4).toInt = G4.toInt := congrArg Int32.toInt hG4
      have hG7 : I36 rm 7 = x6_ := (Eq.trans (hf36.get krm rfl) (Eq.trans (hf32.get krm rfl) (Eq.trans (hf30.get krm rfl) (Eq.trans (hf12.get krm rfl) (Eq.trans (hf8.get krm rfl) e6.symm)))))
      have hG7t : (I36 rm 7).toInt = x6_.toInt := congrArg Int32.toInt hG7
      have hG8 : I36 rm 8 = G8 := (Eq.trans (hf36.get krm rfl) (Eq.trans (hf32.get krm rfl) (Eq.trans (hf30.get krm rfl) (Eq.trans (hf12.get krm rfl) (Eq.trans (hf8.get krm rfl) (Eq.trans (hf4.get krm rfl) eG8.symm))))))
      have hG8t : (I36 rm 8).toInt = G8.toInt := congrArg Int32.toInt hG8
      have hG9 : I36 rm 9 = G9 := (Eq.trans (hf36.get krm rfl) (Eq.trans (hf32.get krm rfl) (Eq.trans (hf30.get krm rfl) (Eq.trans (hf12.get krm rfl) (Eq.trans (hf8.get krm rfl) (Eq.trans (hf4.get krm rfl) eG9.symm))))))
      have hG9t : (I36 rm 9).toInt = G9.toInt := congrArg Int32.toInt hG9
      have hGN : I36 rm 10 = N1 := (Eq.trans (hf36.get krm rfl) (Eq.trans (hf32.get krm rfl) (Eq.trans (hf30.get krm rfl) (Eq.trans (hf12.get krm rfl) eN1.symm))))
      have hGNt : (I36 rm 10).toInt = N1.toInt := congrArg Int32.toInt hGN
      have hv8 : I36 a0 8 = A9 := eA9.symm
      have hv8t : (I36 a0 8).toInt = A9.toInt := congrArg Int32.toInt hv8
      have hv9 : I36 a0 9 = x44_ := e44.symm
      have hv9t : (I36 a0 9).toInt = x44_.toInt := congrArg Int32.toInt hv9
      exact r_vret hC hQ hlk hr (by decide) (by decide) dX10_readStory_204 ⟨_, _, rfl, rfl, ⟨hs36, hF36, hFJ36, (by first | (left; omega) | (right; omega)), (by omega), (by omega), (by omega)⟩⟩
  · replace k4_1 := mt k4_1 sf4
    clear k4_0 md3
    refine r_aload_n hC dX10_readStory_13 0 rfl ?_
    refine r_iconst hC (v := (1)) dX10_readStory_14 (by decide) (by decide) (fun x62_ e62 t62 => ?_)
    refine r_aload_n hC dX10_readStory_15 0 rfl ?_
    refine r_getr hC 4 (ci := 10) rfl u10_in (by decide) mT_4_239 dX10_readStory_16 ka0 rfl rfl hbr ?_
    refine r_getiN hC 7 (ci := 9) rfl u9_in (by decide) nF_7 dX10_readStory_19 krm rfl rfl (fun x63_ e63 => ?_)
    have r63 := hs4.rng krm rfl e63
    have f63 : x63_.toInt = (I4 rm 7).toInt := by rw [e63]
    have w63 : x63_ = x1_ := by rw [e63]; exact (Eq.trans (hf4.get krm rfl) e1.symm)
    have wt63 : x63_.toInt = x1_.toInt := by rw [w63]
    have qG3 : I4 rm 3 = G3 := (Eq.trans (hf4.get krm rfl) eG3.symm)
    have qG3t : (I4 rm 3).toInt = G3.toInt := congrArg Int32.toInt qG3
    have qG4 : I4 rm 4 = G4 := (Eq.trans (hf4.get krm rfl) eG4.symm)
    have qG4t : (I4 rm 4).toInt = G4.toInt := congrArg Int32.toInt qG4
    have qG7 : I4 rm 7 = x63_ := e63.symm
    have qG7t : (I4 rm 7).toInt = x63_.toInt := congrArg Int32.toInt qG7
    have qG8 : I4 rm 8 = G8 := (Eq.trans (hf4.get krm rfl) eG8.symm)
    have qG8t : (I4 rm 8).toInt = G8.toInt := congrArg Int32.toInt qG8
    have qG9 : I4 rm 9 = G9 := (Eq.trans (hf4.get krm rfl) eG9.symm)
    have qG9t : (I4 rm 9).toInt = G9.toInt := congrArg Int32.toInt qG9
    have qGN : I4 rm 10 = GN := (Eq.trans (hf4.get krm rfl) eGN.symm)
    have qGNt : (I4 rm 10).toInt = GN.toInt := congrArg Int32.toInt qGN
    have md64 : (I4 a0 9).toInt ≠ 5 := by omega
    refine r_callV hC (As := [.int x62_, .int x63_]) (rest := []) (ci := 10) (c_X10_readFresh g (xL X) K len I4 J4 R hs4 a0 ka0 x62_ x63_ rm hbr krm (by first | (left; omega) | (right; omega))) mT_6_23 mT_1_10 mT_6_20 mT_6_22 mP_60 okX10_readFresh ⟨by decide, by decide⟩ rfl (by show kO (K a0) = _; rw [ka0]; rfl) rfl rfl (Nat.le_of_ble_eq_true rfl) ⟨by decide, by decide⟩ dX10_readStory_22 (aV2 (F := fun st M => P g X 5 25 [(0, .ref a0)] st _ _ M) (M := (K, len, I4, J4, R)) fun I65 J65 h65 => ?_)
    obtain ⟨hs65, hf65, hfj65, k65_0, k65_1, k65_2, k65_3⟩ := h65
    show P g X 5 25 [(0, .ref a0)] [] _ _ (K, len, I65, J65, R)
    have hF65 : Fr K [(10, 7), (10, 10), (11, 8), (11, 9), (11, 10), (11, 11), (11, 12), (11, 13), (75, 999), (76, 999), (83, 999), (84, 999), (1000, 999)] I I65 := hF4.trans hf65 rfl rfl
    have hFJ65 : Fr K [(11, 14), (82, 999)] J J65 := hFJ4.trans hfj65 rfl rfl
    clear k4_3
    by_cases sf65 : (I65 a0 9).toInt = 5
    · clear k65_0 k65_2 md64 sf4
      obtain ⟨N1, eN1⟩ : ∃ z : Int32, z = I65 rm 10 := ⟨_, rfl⟩
      have fN1 : N1.toInt = (I65 rm 10).toInt := by rw [eN1]
      have rN1 := hs65.rng krm rfl eN1
      refine r_aload_n hC dX10_readStory_25 0 rfl ?_
      refine r_ldcS hC (i := 45) (by decide) rfl rfl dX10_readStory_26 ?_
      refine r_iconst hC (v := (1)) dX10_readStory_28 (by decide) (by decide) (fun x66_ e66 t66 => ?_)
      refine r_bipush hC (v := (99)) dX10_readStory_29 (by decide) (by decide) (fun x67_ e67 t67 => ?_)
      have md68 : (I65 a0 9).toInt = 5 := by omega
      refine r_callV hC (As := [.ref (g.2.2.1 45), .int x66_, .int x67_]) (rest := []) (ci := 10) (c_X10_readPart g (xL X) K len I65 J65 R hs65 a0 ka0 45 (by decide) x66_ x67_) mT_6_1 mT_1_10 mT_5_238 mT_6_0 mP_56 okX10_readPart ⟨by decide, by decide⟩ rfl (by show kO (K a0) = _; rw [ka0]; rfl) rfl rfl (Nat.le_of_ble_eq_true rfl) ⟨by decide, by decide⟩ dX10_readStory_31 (aI2 (F := fun st M => P g X 5 34 [(0, .ref a0)] st _ _ M) (M := (K, len, I65, J65, R)) fun x69_ I69 J69 h69 => ?_)
      obtain ⟨hs69, hf69, hfj69, k69_0, k69_1, k69_2, k69_3⟩ := h69
      show P g X 5 34 [(0, .ref a0)] [.int x69_] _ _ (K, len, I69, J69, R)
      have hF69 : Fr K [(10, 7), (10, 10), (11, 8), (11, 9), (11, 10), (11, 11), (11, 12), (11, 13), (75, 999), (76, 999), (83, 999), (84, 999), (1000, 999)] I I69 := hF65.trans hf69 rfl rfl
      have hFJ69 : Fr K [(11, 14), (82, 999)] J J69 := hFJ65.trans hfj69 rfl rfl
      have sf69 := k69_0 md68
      clear k69_0 k69_1 k69_3 md68 sf65
      refine r_istore_n hC (lv' := [(1, .int x69_), (0, .ref a0)]) dX10_readStory_34 (by decide) rfl ?_
      refine r_aload_n hC dX10_readStory_35 1 rfl ?_
      refine r_ldcS hC (i := 46) (by decide) rfl rfl dX10_readStory_36 ?_
      refine r_callV hC (As := [.ref (g.2.2.1 46)]) (rest := []) (ci := 10) (c_X10_isWord g (xL X) K len I69 J69 R hs69 a0 ka0 46 (by decide)) mT_5_223 mT_1_10 mT_5_220 mT_5_222 mP_53 okX10_isWord ⟨by decide, by decide⟩ rfl (by show kO (K a0) = _; rw [ka0]; rfl) rfl rfl (Nat.le_of_ble_eq_true rfl) ⟨by decide, by decide⟩ dX10_readStory_38 (aI0 (F := fun st M => P g X 5 41 [(1, .int x69_), (0, .ref a0)] st _ _ M) (M := (K, len, I69, J69, R)) fun x70_ h70 => ?_)
      obtain ⟨k70_0, k70_1, k70_2⟩ := h70
      show P g X 5 41 [(1, .int x69_), (0, .ref a0)] [.int x70_] _ _ (K, len, I69, J69, R)
      refine r_if_eq hC (tgt := 48) dX10_readStory_41 (by decide) (fun c71 => ?_) (fun c71 => ?_)
      rotate_left
      · exfalso; have h9 := k70_2 c71; omega
      clear k70_2
      refine r_aload_n hC dX10_readStory_48 1 rfl ?_
      refine r_ldcS hC (i := 47) (by decide) rfl rfl dX10_readStory_49 ?_
      refine r_callV hC (As := [.ref (g.2.2.1 47)]) (rest := []) (ci := 10) (c_X10_isWord g (xL X) K len I69 J69 R hs69 a0 ka0 47 (by decide)) mT_5_223 mT_1_10 mT_5_220 mT_5_222 mP_53 okX10_isWord ⟨by decide, by decide⟩ rfl (by show kO (K a0) = _; rw [ka0]; rfl) rfl rfl (Nat.le_of_ble_eq_true rfl) ⟨by decide, by decide⟩ dX10_readStory_51 (aI0 (F := fun st M => P g X 5 54 [(1, .int x69_), (0, .ref a0)] st _ _ M) (M := (K, len, I69, J69, R)) fun x72_ h72 => ?_)
      obtain ⟨k72_0, k72_1, k72_2⟩ := h72
      show P g X 5 54 [(1, .int x69_), (0, .ref a0)] [.int x72_] _ _ (K, len, I69, J69, R)
      refine r_if_eq hC (tgt := 61) dX10_readStory_54 (by decide) (fun c73 => ?_) (fun c73 => ?_)
      rotate_left
      · exfalso; have h9 := k72_2 c73; omega
      clear k72_2
      refine r_aload_n hC dX10_readStory_61 1 rfl ?_
      refine r_ldcS hC (i := 48) (by decide) rfl rfl dX10_readStory_62 ?_
      refine r_callV hC (As := [.ref (g.2.2.1 48)]) (rest := []) (ci := 10) (c_X10_isWord g (xL X) K len I69 J69 R hs69 a0 ka0 48 (by decide)) mT_5_223 mT_1_10 mT_5_220 mT_5_222 mP_53 okX10_isWord ⟨by decide, by decide⟩ rfl (by show kO (K a0) = _; rw [ka0]; rfl) rfl rfl (Nat.le_of_ble_eq_true rfl) ⟨by decide, by decide⟩ dX10_readStory_64 (aI0 (F := fun st M => P g X 5 67 [(1, .int x69_), (0, .ref a0)] st _ _ M) (M := (K, len, I69, J69, R)) fun x74_ h74 => ?_)
      obtain ⟨k74_0, k74_1, k74_2⟩ := h74
      show P g X 5 67 [(1, .int x69_), (0, .ref a0)] [.int x74_] _ _ (K, len, I69, J69, R)
      refine r_if_eq hC (tgt := 74) dX10_readStory_67 (by decide) (fun c75 => ?_) (fun c75 => ?_)
      rotate_left
      · exfalso; have h9 := k74_2 c75; omega
      clear k74_2
      refine r_aload_n hC dX10_readStory_74 1 rfl ?_
      refine r_ldcS hC (i := 49) (by decide) rfl rfl dX10_readStory_75 ?_
      refine r_callV hC (As := [.ref (g.2.2.1 49)]) (rest := []) (ci := 10) (c_X10_isWord g (xL X) K len I69 J69 R hs69 a0 ka0 49 (by decide)) mT_5_223 mT_1_10 mT_5_220 mT_5_222 mP_53 okX10_isWord ⟨by decide, by decide⟩ rfl (by show kO (K a0) = _; rw [ka0]; rfl) rfl rfl (Nat.le_of_ble_eq_true rfl) ⟨by decide, by decide⟩ dX10_readStory_77 (aI0 (F := fun st M => P g X 5 80 [(1, .int x69_), (0, .ref a0)] st _ _ M) (M := (K, len, I69, J69, R)) fun x76_ h76 => ?_)
      obtain ⟨k76_0, k76_1, k76_2⟩ := h76
      show P g X 5 80 [(1, .int x69_), (0, .ref a0)] [.int x76_] _ _ (K, len, I69, J69, R)
      refine r_if_eq hC (tgt := 87) dX10_readStory_80 (by decide) (fun c77 => ?_) (fun c77 => ?_)
      rotate_left
      · exfalso; have h9 := k76_2 c77; omega
      clear k76_2
      refine r_aload_n hC dX10_readStory_87 1 rfl ?_
      refine r_ldcS hC (i := 50) (by decide) rfl rfl dX10_readStory_88 ?_
      refine r_callV hC (As := [.ref (g.2.2.1 50)]) (rest := []) (ci := 10) (c_X10_isWord g (xL X) K len I69 J69 R hs69 a0 ka0 50 (by decide)) mT_5_223 mT_1_10 mT_5_220 mT_5_222 mP_53 okX10_isWord ⟨by decide, by decide⟩ rfl (by show kO (K a0) = _; rw [ka0]; rfl) rfl rfl (Nat.le_of_ble_eq_true rfl) ⟨by decide, by decide⟩ dX10_readStory_90 (aI0 (F := fun st M => P g X 5 93 [(1, .int x69_), (0, .ref a0)] st _ _ M) (M := (K, len, I69, J69, R)) fun x78_ h78 => ?_)
      obtain ⟨k78_0, k78_1, k78_2⟩ := h78
      show P g X 5 93 [(1, .int x69_), (0, .ref a0)] [.int x78_] _ _ (K, len, I69, J69, R)
      refine r_if_eq hC (tgt := 100) dX10_readStory_93 (by decide) (fun c79 => ?_) (fun c79 => ?_)
      rotate_left
      · exfalso; have h9 := k78_2 c79; omega
      clear k78_2
      refine r_aload_n hC dX10_readStory_100 1 rfl ?_
      refine r_ldcwS hC (i := 51) (by decide) rfl rfl dX10_readStory_101 ?_
      refine r_callV hC (As := [.ref (g.2.2.1 51)]) (rest := []) (ci := 10) (c_X10_isWord g (xL X) K len I69 J69 R hs69 a0 ka0 51 (by decide)) mT_5_223 mT_1_10 mT_5_220 mT_5_222 mP_53 okX10_isWord ⟨by decide, by decide⟩ rfl (by show kO (K a0) = _; rw [ka0]; rfl) rfl rfl (Nat.le_of_ble_eq_true rfl) ⟨by decide, by decide⟩ dX10_readStory_104 (aI0 (F := fun st M => P g X 5 107 [(1, .int x69_), (0, .ref a0)] st _ _ M) (M := (K, len, I69, J69, R)) fun x80_ h80 => ?_)
      obtain ⟨k80_0, k80_1, k80_2⟩ := h80
      show P g X 5 107 [(1, .int x69_), (0, .ref a0)] [.int x80_] _ _ (K, len, I69, J69, R)
      refine r_if_eq hC (tgt := 114) dX10_readStory_107 (by decide) (fun c81 => ?_) (fun c81 => ?_)
      rotate_left
      · exfalso; have h9 := k80_2 c81; omega
      clear k80_2
      refine r_iconst hC (v := (-1)) dX10_readStory_114 (by decide) (by decide) (fun x82_ e82 t82 => ?_)
      refine r_istore_n hC (lv' := [(2, .int x82_), (1, .int x69_), (0, .ref a0)]) dX10_readStory_115 (by decide) rfl ?_
      refine r_iload_n hC dX10_readStory_116 0 rfl ?_
      refine r_iconst hC (v := (-1)) dX10_readStory_117 (by decide) (by decide) (fun x83_ e83 t83 => ?_)
      refine r_icmp_ne hC (tgt := 126) dX10_readStory_118 (by decide) (fun c84 => ?_) (fun c84 => ?_)
      · exfalso; omega
      refine r_aload_n hC dX10_readStory_121 2 rfl ?_
      refine r_iconst hC (v := (1)) dX10_readStory_122 (by decide) (by decide) (fun x85_ e85 t85 => ?_)
      have md86 : (I69 a0 9).toInt = 5 := by omega
      refine r_callV hC (As := [.int x85_]) (rest := []) (ci := 10) (c_X10_wrong g (xL X) K len I69 J69 R hs69 a0 ka0 x85_) mT_5_236 mT_1_10 mT_5_233 mT_5_235 mP_55 okX10_wrong ⟨by decide, by decide⟩ rfl (by show kO (K a0) = _; rw [ka0]; rfl) rfl rfl (Nat.le_of_ble_eq_true rfl) ⟨by decide, by decide⟩ dX10_readStory_123 (aV1 (F := fun st M => P g X 5 126 [(2, .int x82_), (1, .int x69_), (0, .ref a0)] st _ _ M) (M := (K, len, I69, J69, R)) fun I87 h87 => ?_)
      obtain ⟨hs87, hf87, k87_0, k87_1⟩ := h87
      show P g X 5 126 [(2, .int x82_), (1, .int x69_), (0, .ref a0)] [] _ _ (K, len, I87, J69, R)
      have hF87 : Fr K [(10, 7), (10, 10), (11, 8), (11, 9), (11, 10), (11, 11), (11, 12), (11, 13), (75, 999), (76, 999), (83, 999), (84, 999), (1000, 999)] I I87 := hF69.trans hf87 rfl rfl
      clear md86 sf69
      refine r_aload_n hC dX10_readStory_126 2 rfl ?_
      have md88 : (I87 a0 9).toInt = 5 := by omega
      refine r_callV hC (As := []) (rest := []) (ci := 10) (c_X10_goesOn g (xL X) K len I87 J69 R hs87 a0 ka0) mT_5_199 mT_1_10 mT_5_196 mT_5_198 mP_49 okX10_goesOn ⟨by decide, by decide⟩ rfl (by show kO (K a0) = _; rw [ka0]; rfl) rfl rfl (Nat.le_of_ble_eq_true rfl) ⟨by decide, by decide⟩ dX10_readStory_127 (aV2 (F := fun st M => P g X 5 130 [(2, .int x82_), (1, .int x69_), (0, .ref a0)] st _ _ M) (M := (K, len, I87, J69, R)) fun I89 J89 h89 => ?_)
      obtain ⟨hs89, hf89, hfj89, k89_0, k89_1, k89_2, k89_3⟩ := h89
      show P g X 5 130 [(2, .int x82_), (1, .int x69_), (0, .ref a0)] [] _ _ (K, len, I89, J89, R)
      have hF89 : Fr K [(10, 7), (10, 10), (11, 8), (11, 9), (11, 10), (11, 11), (11, 12), (11, 13), (75, 999), (76, 999), (83, 999), (84, 999), (1000, 999)] I I89 := hF87.trans hf89 rfl rfl
      have hFJ89 : Fr K [(11, 14), (82, 999)] J J89 := hFJ69.trans hfj89 rfl rfl
      have sf89 := k89_0 md88
      clear k89_0 k89_1 k89_3 md88
      refine r_aload_n hC dX10_readStory_130 2 rfl ?_
      refine r_iconst hC (v := (0)) dX10_readStory_131 (by decide) (by decide) (fun x90_ e90 t90 => ?_)
      refine r_bipush hC (v := (99)) dX10_readStory_132 (by decide) (by decide) (fun x91_ e91 t91 => ?_)
      have md92 : (I89 a0 9).toInt = 5 := by omega
      refine r_callV hC (As := [.int x90_, .int x91_]) (rest := []) (ci := 10) (c_X10_readWhole g (xL X) K len I89 J89 R hs89 a0 ka0 x90_ x91_) mT_6_5 mT_1_10 mT_6_2 mT_6_4 mP_57 okX10_readWhole ⟨by decide, by decide⟩ rfl (by show kO (K a0) = _; rw [ka0]; rfl) rfl rfl (Nat.le_of_ble_eq_true rfl) ⟨by decide, by decide⟩ dX10_readStory_134 (aI2 (F := fun st M => P g X 5 137 [(2, .int x82_), (1, .int x69_), (0, .ref a0)] st _ _ M) (M := (K, len, I89, J89, R)) fun x93_ I93 J93 h93 => ?_)
      obtain ⟨hs93, hf93, hfj93, k93_0, k93_1, k93_2, k93_3⟩ := h93
      show P g X 5 137 [(2, .int x82_), (1, .int x69_), (0, .ref a0)] [.int x93_] _ _ (K, len, I93, J93, R)
      have hF93 : Fr K [(10, 7), (10, 10), (11, 8), (11, 9), (11, 10), (11, 11), (11, 12), (11, 13), (75, 999), (76, 999), (83, 999), (84, 999), (1000, 999)] I I93 := hF89.trans hf93 rfl rfl
      have hFJ93 : Fr K [(11, 14), (82, 999)] J J93 := hFJ89.trans hfj93 rfl rfl
      have sf93 := k93_0 md92
      clear k93_0 k93_1 k93_3 md92 sf89
      refine r_istore_n hC (lv' := [(3, .int x93_), (2, .int x82_), (1, .int x69_), (0, .ref a0)]) dX10_readStory_137 (by decide) rfl ?_
      refine r_iload_n hC dX10_readStory_138 1 rfl ?_
      refine r_iconst hC (v := (2)) dX10_readStory_139 (by decide) (by decide) (fun x94_ e94 t94 => ?_)
      refine r_icmp_ne hC (tgt := 156) dX10_readStory_140 (by decide) (fun c95 => ?_) (fun c95 => ?_)
      rotate_left
      · exfalso; omega
      refine r_iload_n hC dX10_readStory_156 1 rfl ?_
      refine r_iconst hC (v := (3)) dX10_readStory_157 (by decide) (by decide) (fun x96_ e96 t96 => ?_)
      refine r_icmp_ne hC (tgt := 175) dX10_readStory_158 (by decide) (fun c97 => ?_) (fun c97 => ?_)
      rotate_left
      · exfalso; omega
      refine r_iload_n hC dX10_readStory_175 1 rfl ?_
      refine r_iconst hC (v := (4)) dX10_readStory_176 (by decide) (by decide) (fun x98_ e98 t98 => ?_)
      refine r_icmp_ne hC (tgt := 193) dX10_readStory_177 (by decide) (fun c99 => ?_) (fun c99 => ?_)
      rotate_left
      · exfalso; omega
      refine r_iconst hC (v := (0)) dX10_readStory_193 (by decide) (by decide) (fun x100_ e100 t100 => ?_)
      refine r_istore hC (lv' := [(4, .int x100_), (3, .int x93_), (2, .int x82_), (1, .int x69_), (0, .ref a0)]) dX10_readStory_194 (by decide) rfl ?_
      refine r_aload_n hC dX10_readStory_196 4 rfl ?_
      obtain ⟨A9, eA9⟩ : ∃ z : Int32, z = I93 a0 8 := ⟨_, rfl⟩
      have fA9 : A9.toInt = (I93 a0 8).toInt := by rw [eA9]
      have rA9 := hs93.rng ka0 rfl eA9
      refine r_geti hC 9 (ci := 10) rfl u10_in (by decide) mT_5_4 dX10_readStory_197 ka0 rfl rfl (fun x101_ e101 => ?_)
      have f101 : x101_.toInt = (I93 a0 9).toInt := by rw [e101]
      refine r_iconst hC (v := (5)) dX10_readStory_200 (by decide) (by decide) (fun x102_ e102 t102 => ?_)
      refine r_icmp_ne hC (tgt := 205) dX10_readStory_201 (by decide) (fun c103 => ?_) (fun c103 => ?_)
      · refine r_aload_n hC dX10_readStory_205 4 rfl ?_
        refine r_getr hC 4 (ci := 10) rfl u10_in (by decide) mT_4_239 dX10_readStory_206 ka0 rfl rfl hbr ?_
        obtain ⟨a104_, hb104, hk104, hn104⟩ := hs93.row krm 16 75 6 (by decide) (by decide)
        refine r_getrN hC 16 (ci := 9) rfl u9_in (by decide) nF_16 dX10_readStory_209 krm rfl rfl hb104 ?_
        refine r_aload_n hC dX10_readStory_212 4 rfl ?_
        refine r_getr hC 4 (ci := 10) rfl u10_in (by decide) mT_4_239 dX10_readStory_213 ka0 rfl rfl hbr ?_
        refine r_getiN hC 7 (ci := 9) rfl u9_in (by decide) nF_7 dX10_readStory_216 krm rfl rfl (fun x105_ e105 => ?_)
        have r105 := hs93.rng krm rfl e105
        have f105 : x105_.toInt = (I93 rm 7).toInt := by rw [e105]
        have w105 : x105_ = x63_ := by rw [e105]; exact (Eq.trans (hf93.get krm rfl) (Eq.trans (hf89.get krm rfl) (Eq.trans (hf87.get krm rfl) (Eq.trans (hf69.get krm rfl) (Eq.trans (hf65.get krm rfl) e63.symm)))))
        have wt105 : x105_.toInt = x63_.toInt := by rw [w105]
        refine r_iload_n hC dX10_readStory_219 3 rfl ?_
        refine x_iastore hC hk104 hn104 (by decide) rfl rfl dX10_readStory_220 (by omega) (by omega) (fun I106 eI106 => ?_)
        have hs106 := hs93.put0 eI106 hk104 (rng_arr (by decide) _) rfl (xF_arr (by decide) _) (by decide)
        have hF106 := hF93.put eI106 hk104 (inS_arr rfl _)
        refine r_aload_n hC dX10_readStory_221 4 rfl ?_
        refine r_getr hC 4 (ci := 10) rfl u10_in (by decide) mT_4_239 dX10_readStory_222 ka0 rfl rfl hbr ?_
        obtain ⟨kd107, mo107, hb107, hk107, hn107, hB107, hK107, hN107⟩ := hs106.2.2.1 rm krm
        refine r_getrN hC 17 (ci := 9) rfl u9_in (by decide) nF_17 dX10_readStory_225 krm rfl rfl hb107 ?_
        refine r_aload_n hC dX10_readStory_228 4 rfl ?_
        refine r_getr hC 4 (ci := 10) rfl u10_in (by decide) mT_4_239 dX10_readStory_229 ka0 rfl rfl hbr ?_
        refine r_getiN hC 7 (ci := 9) rfl u9_in (by decide) nF_7 dX10_readStory_232 krm rfl rfl (fun x108_ e108 => ?_)
        have r108 := hs106.rng krm rfl e108
        have f108 : x108_.toInt = (I106 rm 7).toInt := by rw [e108]
        have w108 : x108_ = x105_ := by rw [e108]; exact (Eq.trans (up2_kk eI106 hk104 krm (by decide)) e105.symm)
        have wt108 : x108_.toInt = x105_.toInt := by rw [w108]
        refine r_iload_n hC dX10_readStory_235 2 rfl ?_
        refine x_iastore hC hk107 hn107 (by omega) (kOb (by omega)) (kAb (by omega)) dX10_readStory_236 (by omega) (by omega) (fun I109 eI109 => ?_)
        have hs109 : Sf K len I109 R := hs106.putK (rm := rm) eI109 (Or.inl hk107) (by have h9 := clampI (i := x108_) (by omega); omega)
        have hF109 := hF106.put eI109 hk107 (inS_big rfl (by omega) _)
        refine r_aload_n hC dX10_readStory_237 4 rfl ?_
        refine r_getr hC 4 (ci := 10) rfl u10_in (by decide) mT_4_239 dX10_readStory_238 ka0 rfl rfl hbr ?_
        obtain ⟨a110_, hb110, hk110, hn110⟩ := hs109.row krm 18 76 6 (by decide) (by decide)
        refine r_getrN hC 18 (ci := 9) rfl u9_in (by decide) nF_18 dX10_readStory_241 krm rfl rfl hb110 ?_
        refine r_aload_n hC dX10_readStory_244 4 rfl ?_
        refine r_getr hC 4 (ci := 10) rfl u10_in (by decide) mT_4_239 dX10_readStory_245 ka0 rfl rfl hbr ?_
        refine r_getiN hC 7 (ci := 9) rfl u9_in (by decide) nF_7 dX10_readStory_248 krm rfl rfl (fun x111_ e111 => ?_)
        have r111 := hs109.rng krm rfl e111
        have f111 : x111_.toInt = (I109 rm 7).toInt := by rw [e111]
        have w111 : x111_ = x108_ := by rw [e111]; exact (Eq.trans (up2_kk eI109 hk107 krm (by omega)) e108.symm)
        have wt111 : x111_.toInt = x108_.toInt := by rw [w111]
        refine r_iload_n hC dX10_readStory_251 1 rfl ?_
        refine x_iastore hC hk110 hn110 (by decide) rfl rfl dX10_readStory_252 (by omega) (by omega) (fun I112 eI112 => ?_)
        have hs112 := hs109.put0 eI112 hk110 (rng_arr (by decide) _) rfl (xF_arr (by decide) _) (by decide)
        have hF112 := hF109.put eI112 hk110 (inS_arr rfl _)
        refine r_aload_n hC dX10_readStory_253 4 rfl ?_
        refine r_getr hC 4 (ci := 10) rfl u10_in (by decide) mT_4_239 dX10_readStory_254 ka0 rfl rfl hbr ?_
        refine r_getrN hC 19 (ci := 9) rfl u9_in (by decide) nF_19 dX10_readStory_257 krm rfl rfl hB107 ?_
        refine r_aload_n hC dX10_readStory_260 4 rfl ?_
        refine r_getr hC 4 (ci := 10) rfl u10_in (by decide) mT_4_239 dX10_readStory_261 ka0 rfl rfl hbr ?_
        refine r_getiN hC 7 (ci := 9) rfl u9_in (by decide) nF_7 dX10_readStory_264 krm rfl rfl (fun x113_ e113 => ?_)
        have r113 := hs112.rng krm rfl e113
        have f113 : x113_.toInt = (I112 rm 7).toInt := by rw [e113]
        have w113 : x113_ = x111_ := by rw [e113]; exact (Eq.trans (up2_kk eI112 hk110 krm (by decide)) e111.symm)
        have wt113 : x113_.toInt = x111_.toInt := by rw [w113]
        refine r_iload hC dX10_readStory_267 0 rfl ?_
        refine x_iastore hC hK107 hN107 (by omega) (kOb (by omega)) (kAb (by omega)) dX10_readStory_269 (by omega) (by omega) (fun I114 eI114 => ?_)
        have hs114 : Sf K len I114 R := hs112.putK (rm := rm) eI114 (Or.inr hK107) (by have h9 := clampI (i := x113_) (by omega); omega)
        have hF114 := hF112.put eI114 hK107 (inS_big rfl (by omega) _)
        refine r_aload_n hC dX10_readStory_270 4 rfl ?_
        refine r_getr hC 4 (ci := 10) rfl u10_in (by decide) mT_4_239 dX10_readStory_271 ka0 rfl rfl hbr ?_
        refine r_dup hC dX10_readStory_274 rfl ?_
        refine r_getiN hC 7 (ci := 9) rfl u9_in (by decide) nF_7 dX10_readStory_275 krm rfl rfl (fun x115_ e115 => ?_)
        have r115 := hs114.rng krm rfl e115
        have f115 : x115_.toInt = (I114 rm 7).toInt := by rw [e115]
        have w115 : x115_ = x113_ := by rw [e115]; exact (Eq.trans (up2_kk eI114 hK107 krm (by omega)) e113.symm)
        have wt115 : x115_.toInt = x113_.toInt := by rw [w115]
        refine r_iconst hC (v := (1)) dX10_readStory_278 (by decide) (by decide) (fun x116_ e116 t116 => ?_)
        refine r_iadd hC dX10_readStory_279 (fun x117_ e117 => ?_)
        try have t117 : x117_.toInt = x115_.toInt + x116_.toInt := by rw [e117]; exact ti_add (by omega) (by omega)
        refine r_putiN hC 7 (ci := 9) rfl u9_in tyX9_ok nmX9 (by decide) nF_7 rfl rfl rfl dX10_readStory_280 krm rfl rfl (fun I118 eI118 => ?_)
        have hs118 : Sf K len I118 R := hs114.putA7 eI118 krm hb107 hB107 (by omega) (by omega) (j := x108_.toNatClampNeg) (by have h9 := clampI (i := x108_) (by omega); omega) (by omega) (by rw [(show I114 kd107 x108_.toNatClampNeg = x82_ from (Eq.trans (up2_kk eI114 hK107 hk107 (by omega)) (Eq.trans (up2_kk eI112 hk110 hk107 (by omega)) (by rw [eI109]; exact up2_self _ _ _ _)))), cl_eq (show x108_.toInt = x113_.toInt by omega), (show I114 mo107 x113_.toNatClampNeg = x100_ from (by rw [eI114]; exact up2_self _ _ _ _))]; omega)
        have hF118 := hF114.put eI118 krm rfl
        have hG3 : I118 rm 3 = G3 := (Eq.trans (up2_at (Or.inr (by decide)) eI118) (Eq.trans (up2_kk eI114 hK107 krm (by omega)) (Eq.trans (up2_kk eI112 hk110 krm (by decide)) (Eq.trans (up2_kk eI109 hk107 krm (by omega)) (Eq.trans (up2_kk eI106 hk104 krm (by decide)) (Eq.trans (hf93.get krm rfl) (Eq.trans (hf89.get krm rfl) (Eq.trans (hf87.get krm rfl) (Eq.trans (hf69.get krm rfl) (Eq.trans (hf65.get krm rfl) (Eq.trans (hf4.get krm rfl) eG3.symm)))))))))))
        have hG3t : (I118 rm 3).toInt = G3.toInt := congrArg Int32.toInt hG3
        have hG4 : I118 rm 4 = G4 := (Eq.trans (up2_at (Or.inr (by decide)) eI118) (Eq.trans (up2_kk eI114 hK107 krm (by omega)) (Eq.trans (up2_kk eI112 hk110 krm (by decide)) (Eq.trans (up2_kk eI109 hk107 krm (by omega)) (Eq.trans (up2_kk eI106 hk104 krm (by decide)) (Eq.trans (hf93.get krm rfl) (Eq.trans (hf89.get krm rfl) (Eq.trans (hf87.get krm rfl) (Eq.trans (hf69.get krm rfl) (Eq.trans (hf65.get krm rfl) (Eq.trans (hf4.get krm rfl) eG4.symm)))))))))))
        have hG4t : (I118 rm 4).toInt = G4.toInt := congrArg Int32.toInt hG4
        have hG7 : I118 rm 7 = x117_ := (by rw [eI118]; exact up2_self _ _ _ _)
        have hG7t : (I118 rm 7).toInt = x117_.toInt := congrArg Int32.toInt hG7
        have hG8 : I118 rm 8 = G8 := (Eq.trans (up2_at (Or.inr (by decide)) eI118) (Eq.trans (up2_kk eI114 hK107 krm (by omega)) (Eq.trans (up2_kk eI112 hk110 krm (by decide)) (Eq.trans (up2_kk eI109 hk107 krm (by omega)) (Eq.trans (up2_kk eI106 hk104 krm (by decide)) (Eq.trans (hf93.get krm rfl) (Eq.trans (hf89.get krm rfl) (Eq.trans (hf87.get krm rfl) (Eq.trans (hf69.get krm rfl) (Eq.trans (hf65.get krm rfl) (Eq.trans (hf4.get krm rfl) eG8.symm)))))))))))
        have hG8t : (I118 rm 8).toInt = G8.toInt := congrArg Int32.toInt hG8
        have hG9 : I118 rm 9 = G9 := (Eq.trans (up2_at (Or.inr (by decide)) eI118) (Eq.trans (up2_kk eI114 hK107 krm (by omega)) (Eq.trans (up2_kk eI112 hk110 krm (by decide)) (Eq.trans (up2_kk eI109 hk107 krm (by omega)) (Eq.trans (up2_kk eI106 hk104 krm (by decide)) (Eq.trans (hf93.get krm rfl) (Eq.trans (hf89.get krm rfl) (Eq.trans (hf87.get krm rfl) (Eq.trans (hf69.get krm rfl) (Eq.trans (hf65.get krm rfl) (Eq.trans (hf4.get krm rfl) eG9.symm)))))))))))
        have hG9t : (I118 rm 9).toInt = G9.toInt := congrArg Int32.toInt hG9
        have hGN : I118 rm 10 = N1 := (Eq.trans (up2_at (Or.inr (by decide)) eI118) (Eq.trans (up2_kk eI114 hK107 krm (by omega)) (Eq.trans (up2_kk eI112 hk110 krm (by decide)) (Eq.trans (up2_kk eI109 hk107 krm (by omega)) (Eq.trans (up2_kk eI106 hk104 krm (by decide)) (Eq.trans (hf93.get krm rfl) (Eq.trans (hf89.get krm rfl) (Eq.trans (hf87.get krm rfl) (Eq.trans (hf69.get krm rfl) eN1.symm)))))))))
        have hGNt : (I118 rm 10).toInt = N1.toInt := congrArg Int32.toInt hGN
        have hv8 : I118 a0 8 = A9 := (Eq.trans (up2_kk eI118 krm ka0 (by decide)) (Eq.trans (up2_kk eI114 hK107 ka0 (by omega)) (Eq.trans (up2_kk eI112 hk110 ka0 (by decide)) (Eq.trans (up2_kk eI109 hk107 ka0 (by omega)) (Eq.trans (up2_kk eI106 hk104 ka0 (by decide)) eA9.symm)))))
        have hv8t : (I118 a0 8).toInt = A9.toInt := congrArg Int32.toInt hv8
        have hv9 : I118 a0 9 = x101_ := (Eq.trans (up2_kk eI118 krm ka0 (by decide)) (Eq.trans (up2_kk eI114 hK107 ka0 (by omega)) (Eq.trans (up2_kk eI112 hk110 ka0 (by decide)) (Eq.trans (up2_kk eI109 hk107 ka0 (by omega)) (Eq.trans (up2_kk eI106 hk104 ka0 (by decide)) e101.symm)))))
        have hv9t : (I118 a0 9).toInt = x101_.toInt := congrArg Int32.toInt hv9
        exact r_vret hC hQ hlk hr (by decide) (by decide) dX10_readStory_283 ⟨_, _, rfl, rfl, ⟨hs118, hF118, hFJ93, (by first | (left; omega) | (right; omega)), (by omega), (by omega), (by omega)⟩⟩
      · have hG3 : I93 rm 3 = G3 := (Eq.trans (hf93.get krm rfl) (Eq.trans (hf89.get krm rfl) (Eq.trans (hf87.get krm rfl) (Eq.trans (hf69.get krm rfl) (Eq.trans (hf65.get krm rfl) (Eq.trans (hf4.get krm rfl) eG3.symm))))))
        have hG3t : (I93 rm 3).toInt = G3.toInt := congrArg Int32.toInt hG3
        have hG4 : I93 rm 4 = G4 := (Eq.trans (hf93.get krm rfl) (Eq.trans (hf89.get krm rfl) (Eq.trans (hf87.get krm rfl) (Eq.trans (hf69.get krm rfl) (Eq.trans (hf65.get krm rfl) (Eq.trans (hf4.get krm rfl) eG4.symm))))))
        have hG4t : (I93 rm 4).toInt = G4.toInt := congrArg Int32.toInt hG4
        have hG7 : I93 rm 7 = x63_ := (Eq.trans (hf93.get krm rfl) (Eq.trans (hf89.get krm rfl) (Eq.trans (hf87.get krm rfl) (Eq.trans (hf69.get krm rfl) (Eq.trans (hf65.get krm rfl) e63.symm)))))
        have hG7t : (I93 rm 7).toInt = x63_.toInt := congrArg Int32.toInt hG7
        have hG8 : I93 rm 8 = G8 := (Eq.trans (hf93.get krm rfl) (Eq.trans (hf89.get krm rfl) (Eq.trans (hf87.get krm rfl) (Eq.trans (hf69.get krm rfl) (Eq.trans (hf65.get krm rfl) (Eq.trans (hf4.get krm rfl) eG8.symm))))))
        have hG8t : (I93 rm 8).toInt = G8.toInt := congrArg Int32.toInt hG8
        have hG9 : I93 rm 9 = G9 := (Eq.trans (hf93.get krm rfl) (Eq.trans (hf89.get krm rfl) (Eq.trans (hf87.get krm rfl) (Eq.trans (hf69.get krm rfl) (Eq.trans (hf65.get krm rfl) (Eq.trans (hf4.get krm rfl) eG9.symm))))))
        have hG9t : (I93 rm 9).toInt = G9.toInt := congrArg Int32.toInt hG9
        have hGN : I93 rm 10 = N1 := (Eq.trans (hf93.get krm rfl) (Eq.trans (hf89.get krm rfl) (Eq.trans (hf87.get krm rfl) (Eq.trans (hf69.get krm rfl) eN1.symm))))
        have hGNt : (I93 rm 10).toInt = N1.toInt := congrArg Int32.toInt hGN
        have hv8 : I93 a0 8 = A9 := eA9.symm
        have hv8t : (I93 a0 8).toInt = A9.toInt := congrArg Int32.toInt hv8
        have hv9 : I93 a0 9 = x101_ := e101.symm
        have hv9t : (I93 a0 9).toInt = x101_.toInt := congrArg Int32.toInt hv9
        exact r_vret hC hQ hlk hr (by decide) (by decide) dX10_readStory_204 ⟨_, _, rfl, rfl, ⟨hs93, hF93, hFJ93, (by first | (left; omega) | (right; omega)), (by omega), (by omega), (by omega)⟩⟩
    · clear k65_0 md64 sf4
      obtain ⟨N1, eN1⟩ : ∃ z : Int32, z = I65 rm 10 := ⟨_, rfl⟩
      have fN1 : N1.toInt = (I65 rm 10).toInt := by rw [eN1]
      have rN1 := hs65.rng krm rfl eN1
      refine r_aload_n hC dX10_readStory_25 0 rfl ?_
      refine r_ldcS hC (i := 45) (by decide) rfl rfl dX10_readStory_26 ?_
      refine r_iconst hC (v := (1)) dX10_readStory_28 (by decide) (by decide) (fun x119_ e119 t119 => ?_)
      refine r_bipush hC (v := (99)) dX10_readStory_29 (by decide) (by decide) (fun x120_ e120 t120 => ?_)
      have md121 : (I65 a0 9).toInt ≠ 5 := by omega
      refine r_callV hC (As := [.ref (g.2.2.1 45), .int x119_, .int x120_]) (rest := []) (ci := 10) (c_X10_readPart g (xL X) K len I65 J65 R hs65 a0 ka0 45 (by decide) x119_ x120_) mT_6_1 mT_1_10 mT_5_238 mT_6_0 mP_56 okX10_readPart ⟨by decide, by decide⟩ rfl (by show kO (K a0) = _; rw [ka0]; rfl) rfl rfl (Nat.le_of_ble_eq_true rfl) ⟨by decide, by decide⟩ dX10_readStory_31 (aI2 (F := fun st M => P g X 5 34 [(0, .ref a0)] st _ _ M) (M := (K, len, I65, J65, R)) fun x122_ I122 J122 h122 => ?_)
      obtain ⟨hs122, hf122, hfj122, k122_0, k122_1, k122_2, k122_3⟩ := h122
      show P g X 5 34 [(0, .ref a0)] [.int x122_] _ _ (K, len, I122, J122, R)
      have hF122 : Fr K [(10, 7), (10, 10), (11, 8), (11, 9), (11, 10), (11, 11), (11, 12), (11, 13), (75, 999), (76, 999), (83, 999), (84, 999), (1000, 999)] I I122 := hF65.trans hf122 rfl rfl
      have hFJ122 : Fr K [(11, 14), (82, 999)] J J122 := hFJ65.trans hfj122 rfl rfl
      clear k65_2
      by_cases sf122 : (I122 a0 9).toInt = 5
      · clear k122_0 k122_1 k122_3 md121 sf65
        refine r_istore_n hC (lv' := [(1, .int x122_), (0, .ref a0)]) dX10_readStory_34 (by decide) rfl ?_
        refine r_aload_n hC dX10_readStory_35 1 rfl ?_
        refine r_ldcS hC (i := 46) (by decide) rfl rfl dX10_readStory_36 ?_
        refine r_callV hC (As := [.ref (g.2.2.1 46)]) (rest := []) (ci := 10) (c_X10_isWord g (xL X) K len I122 J122 R hs122 a0 ka0 46 (by decide)) mT_5_223 mT_1_10 mT_5_220 mT_5_222 mP_53 okX10_isWord ⟨by decide, by decide⟩ rfl (by show kO (K a0) = _; rw [ka0]; rfl) rfl rfl (Nat.le_of_ble_eq_true rfl) ⟨by decide, by decide⟩ dX10_readStory_38 (aI0 (F := fun st M => P g X 5 41 [(1, .int x122_), (0, .ref a0)] st _ _ M) (M := (K, len, I122, J122, R)) fun x123_ h123 => ?_)
        obtain ⟨k123_0, k123_1, k123_2⟩ := h123
        show P g X 5 41 [(1, .int x122_), (0, .ref a0)] [.int x123_] _ _ (K, len, I122, J122, R)
        refine r_if_eq hC (tgt := 48) dX10_readStory_41 (by decide) (fun c124 => ?_) (fun c124 => ?_)
        rotate_left
        · exfalso; have h9 := k123_2 c124; omega
        clear k123_2
        refine r_aload_n hC dX10_readStory_48 1 rfl ?_
        refine r_ldcS hC (i := 47) (by decide) rfl rfl dX10_readStory_49 ?_
        refine r_callV hC (As := [.ref (g.2.2.1 47)]) (rest := []) (ci := 10) (c_X10_isWord g (xL X) K len I122 J122 R hs122 a0 ka0 47 (by decide)) mT_5_223 mT_1_10 mT_5_220 mT_5_222 mP_53 okX10_isWord ⟨by decide, by decide⟩ rfl (by show kO (K a0) = _; rw [ka0]; rfl) rfl rfl (Nat.le_of_ble_eq_true rfl) ⟨by decide, by decide⟩ dX10_readStory_51 (aI0 (F := fun st M => P g X 5 54 [(1, .int x122_), (0, .ref a0)] st _ _ M) (M := (K, len, I122, J122, R)) fun x125_ h125 => ?_)
        obtain ⟨k125_0, k125_1, k125_2⟩ := h125
        show P g X 5 54 [(1, .int x122_), (0, .ref a0)] [.int x125_] _ _ (K, len, I122, J122, R)
        refine r_if_eq hC (tgt := 61) dX10_readStory_54 (by decide) (fun c126 => ?_) (fun c126 => ?_)
        rotate_left
        · exfalso; have h9 := k125_2 c126; omega
        clear k125_2
        refine r_aload_n hC dX10_readStory_61 1 rfl ?_
        refine r_ldcS hC (i := 48) (by decide) rfl rfl dX10_readStory_62 ?_
        refine r_callV hC (As := [.ref (g.2.2.1 48)]) (rest := []) (ci := 10) (c_X10_isWord g (xL X) K len I122 J122 R hs122 a0 ka0 48 (by decide)) mT_5_223 mT_1_10 mT_5_220 mT_5_222 mP_53 okX10_isWord ⟨by decide, by decide⟩ rfl (by show kO (K a0) = _; rw [ka0]; rfl) rfl rfl (Nat.le_of_ble_eq_true rfl) ⟨by decide, by decide⟩ dX10_readStory_64 (aI0 (F := fun st M => P g X 5 67 [(1, .int x122_), (0, .ref a0)] st _ _ M) (M := (K, len, I122, J122, R)) fun x127_ h127 => ?_)
        obtain ⟨k127_0, k127_1, k127_2⟩ := h127
        show P g X 5 67 [(1, .int x122_), (0, .ref a0)] [.int x127_] _ _ (K, len, I122, J122, R)
        refine r_if_eq hC (tgt := 74) dX10_readStory_67 (by decide) (fun c128 => ?_) (fun c128 => ?_)
        rotate_left
        · exfalso; have h9 := k127_2 c128; omega
        clear k127_2
        refine r_aload_n hC dX10_readStory_74 1 rfl ?_
        refine r_ldcS hC (i := 49) (by decide) rfl rfl dX10_readStory_75 ?_
        refine r_callV hC (As := [.ref (g.2.2.1 49)]) (rest := []) (ci := 10) (c_X10_isWord g (xL X) K len I122 J122 R hs122 a0 ka0 49 (by decide)) mT_5_223 mT_1_10 mT_5_220 mT_5_222 mP_53 okX10_isWord ⟨by decide, by decide⟩ rfl (by show kO (K a0) = _; rw [ka0]; rfl) rfl rfl (Nat.le_of_ble_eq_true rfl) ⟨by decide, by decide⟩ dX10_readStory_77 (aI0 (F := fun st M => P g X 5 80 [(1, .int x122_), (0, .ref a0)] st _ _ M) (M := (K, len, I122, J122, R)) fun x129_ h129 => ?_)
        obtain ⟨k129_0, k129_1, k129_2⟩ := h129
        show P g X 5 80 [(1, .int x122_), (0, .ref a0)] [.int x129_] _ _ (K, len, I122, J122, R)
        refine r_if_eq hC (tgt := 87) dX10_readStory_80 (by decide) (fun c130 => ?_) (fun c130 => ?_)
        rotate_left
        · exfalso; have h9 := k129_2 c130; omega
        clear k129_2
        refine r_aload_n hC dX10_readStory_87 1 rfl ?_
        refine r_ldcS hC (i := 50) (by decide) rfl rfl dX10_readStory_88 ?_
        refine r_callV hC (As := [.ref (g.2.2.1 50)]) (rest := []) (ci := 10) (c_X10_isWord g (xL X) K len I122 J122 R hs122 a0 ka0 50 (by decide)) mT_5_223 mT_1_10 mT_5_220 mT_5_222 mP_53 okX10_isWord ⟨by decide, by decide⟩ rfl (by show kO (K a0) = _; rw [ka0]; rfl) rfl rfl (Nat.le_of_ble_eq_true rfl) ⟨by decide, by decide⟩ dX10_readStory_90 (aI0 (F := fun st M => P g X 5 93 [(1, .int x122_), (0, .ref a0)] st _ _ M) (M := (K, len, I122, J122, R)) fun x131_ h131 => ?_)
        obtain ⟨k131_0, k131_1, k131_2⟩ := h131
        show P g X 5 93 [(1, .int x122_), (0, .ref a0)] [.int x131_] _ _ (K, len, I122, J122, R)
        refine r_if_eq hC (tgt := 100) dX10_readStory_93 (by decide) (fun c132 => ?_) (fun c132 => ?_)
        rotate_left
        · exfalso; have h9 := k131_2 c132; omega
        clear k131_2
        refine r_aload_n hC dX10_readStory_100 1 rfl ?_
        refine r_ldcwS hC (i := 51) (by decide) rfl rfl dX10_readStory_101 ?_
        refine r_callV hC (As := [.ref (g.2.2.1 51)]) (rest := []) (ci := 10) (c_X10_isWord g (xL X) K len I122 J122 R hs122 a0 ka0 51 (by decide)) mT_5_223 mT_1_10 mT_5_220 mT_5_222 mP_53 okX10_isWord ⟨by decide, by decide⟩ rfl (by show kO (K a0) = _; rw [ka0]; rfl) rfl rfl (Nat.le_of_ble_eq_true rfl) ⟨by decide, by decide⟩ dX10_readStory_104 (aI0 (F := fun st M => P g X 5 107 [(1, .int x122_), (0, .ref a0)] st _ _ M) (M := (K, len, I122, J122, R)) fun x133_ h133 => ?_)
        obtain ⟨k133_0, k133_1, k133_2⟩ := h133
        show P g X 5 107 [(1, .int x122_), (0, .ref a0)] [.int x133_] _ _ (K, len, I122, J122, R)
        refine r_if_eq hC (tgt := 114) dX10_readStory_107 (by decide) (fun c134 => ?_) (fun c134 => ?_)
        rotate_left
        · exfalso; have h9 := k133_2 c134; omega
        clear k133_2
        refine r_iconst hC (v := (-1)) dX10_readStory_114 (by decide) (by decide) (fun x135_ e135 t135 => ?_)
        refine r_istore_n hC (lv' := [(2, .int x135_), (1, .int x122_), (0, .ref a0)]) dX10_readStory_115 (by decide) rfl ?_
        refine r_iload_n hC dX10_readStory_116 0 rfl ?_
        refine r_iconst hC (v := (-1)) dX10_readStory_117 (by decide) (by decide) (fun x136_ e136 t136 => ?_)
        refine r_icmp_ne hC (tgt := 126) dX10_readStory_118 (by decide) (fun c137 => ?_) (fun c137 => ?_)
        · exfalso; omega
        refine r_aload_n hC dX10_readStory_121 2 rfl ?_
        refine r_iconst hC (v := (1)) dX10_readStory_122 (by decide) (by decide) (fun x138_ e138 t138 => ?_)
        have md139 : (I122 a0 9).toInt = 5 := by omega
        refine r_callV hC (As := [.int x138_]) (rest := []) (ci := 10) (c_X10_wrong g (xL X) K len I122 J122 R hs122 a0 ka0 x138_) mT_5_236 mT_1_10 mT_5_233 mT_5_235 mP_55 okX10_wrong ⟨by decide, by decide⟩ rfl (by show kO (K a0) = _; rw [ka0]; rfl) rfl rfl (Nat.le_of_ble_eq_true rfl) ⟨by decide, by decide⟩ dX10_readStory_123 (aV1 (F := fun st M => P g X 5 126 [(2, .int x135_), (1, .int x122_), (0, .ref a0)] st _ _ M) (M := (K, len, I122, J122, R)) fun I140 h140 => ?_)
        obtain ⟨hs140, hf140, k140_0, k140_1⟩ := h140
        show P g X 5 126 [(2, .int x135_), (1, .int x122_), (0, .ref a0)] [] _ _ (K, len, I140, J122, R)
        have hF140 : Fr K [(10, 7), (10, 10), (11, 8), (11, 9), (11, 10), (11, 11), (11, 12), (11, 13), (75, 999), (76, 999), (83, 999), (84, 999), (1000, 999)] I I140 := hF122.trans hf140 rfl rfl
        clear md139 sf122
        refine r_aload_n hC dX10_readStory_126 2 rfl ?_
        have md141 : (I140 a0 9).toInt = 5 := by omega
        refine r_callV hC (As := []) (rest := []) (ci := 10) (c_X10_goesOn g (xL X) K len I140 J122 R hs140 a0 ka0) mT_5_199 mT_1_10 mT_5_196 mT_5_198 mP_49 okX10_goesOn ⟨by decide, by decide⟩ rfl (by show kO (K a0) = _; rw [ka0]; rfl) rfl rfl (Nat.le_of_ble_eq_true rfl) ⟨by decide, by decide⟩ dX10_readStory_127 (aV2 (F := fun st M => P g X 5 130 [(2, .int x135_), (1, .int x122_), (0, .ref a0)] st _ _ M) (M := (K, len, I140, J122, R)) fun I142 J142 h142 => ?_)
        obtain ⟨hs142, hf142, hfj142, k142_0, k142_1, k142_2, k142_3⟩ := h142
        show P g X 5 130 [(2, .int x135_), (1, .int x122_), (0, .ref a0)] [] _ _ (K, len, I142, J142, R)
        have hF142 : Fr K [(10, 7), (10, 10), (11, 8), (11, 9), (11, 10), (11, 11), (11, 12), (11, 13), (75, 999), (76, 999), (83, 999), (84, 999), (1000, 999)] I I142 := hF140.trans hf142 rfl rfl
        have hFJ142 : Fr K [(11, 14), (82, 999)] J J142 := hFJ122.trans hfj142 rfl rfl
        have sf142 := k142_0 md141
        clear k142_0 k142_1 k142_3 md141
        refine r_aload_n hC dX10_readStory_130 2 rfl ?_
        refine r_iconst hC (v := (0)) dX10_readStory_131 (by decide) (by decide) (fun x143_ e143 t143 => ?_)
        refine r_bipush hC (v := (99)) dX10_readStory_132 (by decide) (by decide) (fun x144_ e144 t144 => ?_)
        have md145 : (I142 a0 9).toInt = 5 := by omega
        refine r_callV hC (As := [.int x143_, .int x144_]) (rest := []) (ci := 10) (c_X10_readWhole g (xL X) K len I142 J142 R hs142 a0 ka0 x143_ x144_) mT_6_5 mT_1_10 mT_6_2 mT_6_4 mP_57 okX10_readWhole ⟨by decide, by decide⟩ rfl (by show kO (K a0) = _; rw [ka0]; rfl) rfl rfl (Nat.le_of_ble_eq_true rfl) ⟨by decide, by decide⟩ dX10_readStory_134 (aI2 (F := fun st M => P g X 5 137 [(2, .int x135_), (1, .int x122_), (0, .ref a0)] st _ _ M) (M := (K, len, I142, J142, R)) fun x146_ I146 J146 h146 => ?_)
        obtain ⟨hs146, hf146, hfj146, k146_0, k146_1, k146_2, k146_3⟩ := h146
        show P g X 5 137 [(2, .int x135_), (1, .int x122_), (0, .ref a0)] [.int x146_] _ _ (K, len, I146, J146, R)
        have hF146 : Fr K [(10, 7), (10, 10), (11, 8), (11, 9), (11, 10), (11, 11), (11, 12), (11, 13), (75, 999), (76, 999), (83, 999), (84, 999), (1000, 999)] I I146 := hF142.trans hf146 rfl rfl
        have hFJ146 : Fr K [(11, 14), (82, 999)] J J146 := hFJ142.trans hfj146 rfl rfl
        have sf146 := k146_0 md145
        clear k146_0 k146_1 k146_3 md145 sf142
        refine r_istore_n hC (lv' := [(3, .int x146_), (2, .int x135_), (1, .int x122_), (0, .ref a0)]) dX10_readStory_137 (by decide) rfl ?_
        refine r_iload_n hC dX10_readStory_138 1 rfl ?_
        refine r_iconst hC (v := (2)) dX10_readStory_139 (by decide) (by decide) (fun x147_ e147 t147 => ?_)
        refine r_icmp_ne hC (tgt := 156) dX10_readStory_140 (by decide) (fun c148 => ?_) (fun c148 => ?_)
        rotate_left
        · exfalso; omega
        refine r_iload_n hC dX10_readStory_156 1 rfl ?_
        refine r_iconst hC (v := (3)) dX10_readStory_157 (by decide) (by decide) (fun x149_ e149 t149 => ?_)
        refine r_icmp_ne hC (tgt := 175) dX10_readStory_158 (by decide) (fun c150 => ?_) (fun c150 => ?_)
        rotate_left
        · exfalso; omega
        refine r_iload_n hC dX10_readStory_175 1 rfl ?_
        refine r_iconst hC (v := (4)) dX10_readStory_176 (by decide) (by decide) (fun x151_ e151 t151 => ?_)
        refine r_icmp_ne hC (tgt := 193) dX10_readStory_177 (by decide) (fun c152 => ?_) (fun c152 => ?_)
        rotate_left
        · exfalso; omega
        refine r_iconst hC (v := (0)) dX10_readStory_193 (by decide) (by decide) (fun x153_ e153 t153 => ?_)
        refine r_istore hC (lv' := [(4, .int x153_), (3, .int x146_), (2, .int x135_), (1, .int x122_), (0, .ref a0)]) dX10_readStory_194 (by decide) rfl ?_
        refine r_aload_n hC dX10_readStory_196 4 rfl ?_
        obtain ⟨A9, eA9⟩ : ∃ z : Int32, z = I146 a0 8 := ⟨_, rfl⟩
        have fA9 : A9.toInt = (I146 a0 8).toInt := by rw [eA9]
        have rA9 := hs146.rng ka0 rfl eA9
        refine r_geti hC 9 (ci := 10) rfl u10_in (by decide) mT_5_4 dX10_readStory_197 ka0 rfl rfl (fun x154_ e154 => ?_)
        have f154 : x154_.toInt = (I146 a0 9).toInt := by rw [e154]
        refine r_iconst hC (v := (5)) dX10_readStory_200 (by decide) (by decide) (fun x155_ e155 t155 => ?_)
        refine r_icmp_ne hC (tgt := 205) dX10_readStory_201 (by decide) (fun c156 => ?_) (fun c156 => ?_)
        · refine r_aload_n hC dX10_readStory_205 4 rfl ?_
          refine r_getr hC 4 (ci := 10) rfl u10_in (by decide) mT_4_239 dX10_readStory_206 ka0 rfl rfl hbr ?_
          obtain ⟨a157_, hb157, hk157, hn157⟩ := hs146.row krm 16 75 6 (by decide) (by decide)
          refine r_getrN hC 16 (ci := 9) rfl u9_in (by decide) nF_16 dX10_readStory_209 krm rfl rfl hb157 ?_
          refine r_aload_n hC dX10_readStory_212 4 rfl ?_
          refine r_getr hC 4 (ci := 10) rfl u10_in (by decide) mT_4_239 dX10_readStory_213 ka0 rfl rfl hbr ?_
          refine r_getiN hC 7 (ci := 9) rfl u9_in (by decide) nF_7 dX10_readStory_216 krm rfl rfl (fun x158_ e158 => ?_)
          have r158 := hs146.rng krm rfl e158
          have f158 : x158_.toInt = (I146 rm 7).toInt := by rw [e158]
          have w158 : x158_ = x63_ := by rw [e158]; exact (Eq.trans (hf146.get krm rfl) (Eq.trans (hf142.get krm rfl) (Eq.trans (hf140.get krm rfl) (Eq.trans (hf122.get krm rfl) (Eq.trans (hf65.get krm rfl) e63.symm)))))
          have wt158 : x158_.toInt = x63_.toInt := by rw [w158]
          refine r_iload_n hC dX10_readStory_219 3 rfl ?_
          refine x_iastore hC hk157 hn157 (by decide) rfl rfl dX10_readStory_220 (by omega) (by omega) (fun I159 eI159 => ?_)
          have hs159 := hs146.put0 eI159 hk157 (rng_arr (by decide) _) rfl (xF_arr (by decide) _) (by decide)
          have hF159 := hF146.put eI159 hk157 (inS_arr rfl _)
          refine r_aload_n hC dX10_readStory_221 4 rfl ?_
          refine r_getr hC 4 (ci := 10) rfl u10_in (by decide) mT_4_239 dX10_readStory_222 ka0 rfl rfl hbr ?_
          obtain ⟨kd160, mo160, hb160, hk160, hn160, hB160, hK160, hN160⟩ := hs159.2.2.1 rm krm
          refine r_getrN hC 17 (ci := 9) rfl u9_in (by decide) nF_17 dX10_readStory_225 krm rfl rfl hb160 ?_
          refine r_aload_n hC dX10_readStory_228 4 rfl ?_
          refine r_getr hC 4 (ci := 10) rfl u10_in (by decide) mT_4_239 dX10_readStory_229 ka0 rfl rfl hbr ?_
          refine r_getiN hC 7 (ci := 9) rfl u9_in (by decide) nF_7 dX10_readStory_232 krm rfl rfl (fun x161_ e161 => ?_)
          have r161 := hs159.rng krm rfl e161
          have f161 : x161_.toInt = (I159 rm 7).toInt := by rw [e161]
          have w161 : x161_ = x158_ := by rw [e161]; exact (Eq.trans (up2_kk eI159 hk157 krm (by decide)) e158.symm)
          have wt161 : x161_.toInt = x158_.toInt := by rw [w161]
          refine r_iload_n hC dX10_readStory_235 2 rfl ?_
          refine x_iastore hC hk160 hn160 (by omega) (kOb (by omega)) (kAb (by omega)) dX10_readStory_236 (by omega) (by omega) (fun I162 eI162 => ?_)
          have hs162 : Sf K len I162 R := hs159.putK (rm := rm) eI162 (Or.inl hk160) (by have h9 := clampI (i := x161_) (by omega); omega)
          have hF162 := hF159.put eI162 hk160 (inS_big rfl (by omega) _)
          refine r_aload_n hC dX10_readStory_237 4 rfl ?_
          refine r_getr hC 4 (ci := 10) rfl u10_in (by decide) mT_4_239 dX10_readStory_238 ka0 rfl rfl hbr ?_
          obtain ⟨a163_, hb163, hk163, hn163⟩ := hs162.row krm 18 76 6 (by decide) (by decide)
          refine r_getrN hC 18 (ci := 9) rfl u9_in (by decide) nF_18 dX10_readStory_241 krm rfl rfl hb163 ?_
          refine r_aload_n hC dX10_readStory_244 4 rfl ?_
          refine r_getr hC 4 (ci := 10) rfl u10_in (by decide) mT_4_239 dX10_readStory_245 ka0 rfl rfl hbr ?_
          refine r_getiN hC 7 (ci := 9) rfl u9_in (by decide) nF_7 dX10_readStory_248 krm rfl rfl (fun x164_ e164 => ?_)
          have r164 := hs162.rng krm rfl e164
          have f164 : x164_.toInt = (I162 rm 7).toInt := by rw [e164]
          have w164 : x164_ = x161_ := by rw [e164]; exact (Eq.trans (up2_kk eI162 hk160 krm (by omega)) e161.symm)
          have wt164 : x164_.toInt = x161_.toInt := by rw [w164]
          refine r_iload_n hC dX10_readStory_251 1 rfl ?_
          refine x_iastore hC hk163 hn163 (by decide) rfl rfl dX10_readStory_252 (by omega) (by omega) (fun I165 eI165 => ?_)
          have hs165 := hs162.put0 eI165 hk163 (rng_arr (by decide) _) rfl (xF_arr (by decide) _) (by decide)
          have hF165 := hF162.put eI165 hk163 (inS_arr rfl _)
          refine r_aload_n hC dX10_readStory_253 4 rfl ?_
          refine r_getr hC 4 (ci := 10) rfl u10_in (by decide) mT_4_239 dX10_readStory_254 ka0 rfl rfl hbr ?_
          refine r_getrN hC 19 (ci := 9) rfl u9_in (by decide) nF_19 dX10_readStory_257 krm rfl rfl hB160 ?_
          refine r_aload_n hC dX10_readStory_260 4 rfl ?_
          refine r_getr hC 4 (ci := 10) rfl u10_in (by decide) mT_4_239 dX10_readStory_261 ka0 rfl rfl hbr ?_
          refine r_getiN hC 7 (ci := 9) rfl u9_in (by decide) nF_7 dX10_readStory_264 krm rfl rfl (fun x166_ e166 => ?_)
          have r166 := hs165.rng krm rfl e166
          have f166 : x166_.toInt = (I165 rm 7).toInt := by rw [e166]
          have w166 : x166_ = x164_ := by rw [e166]; exact (Eq.trans (up2_kk eI165 hk163 krm (by decide)) e164.symm)
          have wt166 : x166_.toInt = x164_.toInt := by rw [w166]
          refine r_iload hC dX10_readStory_267 0 rfl ?_
          refine x_iastore hC hK160 hN160 (by omega) (kOb (by omega)) (kAb (by omega)) dX10_readStory_269 (by omega) (by omega) (fun I167 eI167 => ?_)
          have hs167 : Sf K len I167 R := hs165.putK (rm := rm) eI167 (Or.inr hK160) (by have h9 := clampI (i := x166_) (by omega); omega)
          have hF167 := hF165.put eI167 hK160 (inS_big rfl (by omega) _)
          refine r_aload_n hC dX10_readStory_270 4 rfl ?_
          refine r_getr hC 4 (ci := 10) rfl u10_in (by decide) mT_4_239 dX10_readStory_271 ka0 rfl rfl hbr ?_
          refine r_dup hC dX10_readStory_274 rfl ?_
          refine r_getiN hC 7 (ci := 9) rfl u9_in (by decide) nF_7 dX10_readStory_275 krm rfl rfl (fun x168_ e168 => ?_)
          have r168 := hs167.rng krm rfl e168
          have f168 : x168_.toInt = (I167 rm 7).toInt := by rw [e168]
          have w168 : x168_ = x166_ := by rw [e168]; exact (Eq.trans (up2_kk eI167 hK160 krm (by omega)) e166.symm)
          have wt168 : x168_.toInt = x166_.toInt := by rw [w168]
          refine r_iconst hC (v := (1)) dX10_readStory_278 (by decide) (by decide) (fun x169_ e169 t169 => ?_)
          refine r_iadd hC dX10_readStory_279 (fun x170_ e170 => ?_)
          try have t170 : x170_.toInt = x168_.toInt + x169_.toInt := by rw [e170]; exact ti_add (by omega) (by omega)
          refine r_putiN hC 7 (ci := 9) rfl u9_in tyX9_ok nmX9 (by decide) nF_7 rfl rfl rfl dX10_readStory_280 krm rfl rfl (fun I171 eI171 => ?_)
          have hs171 : Sf K len I171 R := hs167.putA7 eI171 krm hb160 hB160 (by omega) (by omega) (j := x161_.toNatClampNeg) (by have h9 := clampI (i := x161_) (by omega); omega) (by omega) (by rw [(show I167 kd160 x161_.toNatClampNeg = x135_ from (Eq.trans (up2_kk eI167 hK160 hk160 (by omega)) (Eq.trans (up2_kk eI165 hk163 hk160 (by omega)) (by rw [eI162]; exact up2_self _ _ _ _)))), cl_eq (show x161_.toInt = x166_.toInt by omega), (show I167 mo160 x166_.toNatClampNeg = x153_ from (by rw [eI167]; exact up2_self _ _ _ _))]; omega)
          have hF171 := hF167.put eI171 krm rfl
          have hG3 : I171 rm 3 = G3 := (Eq.trans (up2_at (Or.inr (by decide)) eI171) (Eq.trans (up2_kk eI167 hK160 krm (by omega)) (Eq.trans (up2_kk eI165 hk163 krm (by decide)) (Eq.trans (up2_kk eI162 hk160 krm (by omega)) (Eq.trans (up2_kk eI159 hk157 krm (by decide)) (Eq.trans (hf146.get krm rfl) (Eq.trans (hf142.get krm rfl) (Eq.trans (hf140.get krm rfl) (Eq.trans (hf122.get krm rfl) (Eq.trans (hf65.get krm rfl) (Eq.trans (hf4.get krm rfl) eG3.symm)))))))))))
          have hG3t : (I171 rm 3).toInt = G3.toInt := congrArg Int32.toInt hG3
          have hG4 : I171 rm 4 = G4 := (Eq.trans (up2_at (Or.inr (by decide)) eI171) (Eq.trans (up2_kk eI167 hK160 krm (by omega)) (Eq.trans (up2_kk eI165 hk163 krm (by decide)) (Eq.trans (up2_kk eI162 hk160 krm (by omega)) (Eq.trans (up2_kk eI159 hk157 krm (by decide)) (Eq.trans (hf146.get krm rfl) (Eq.trans (hf142.get krm rfl) (Eq.trans (hf140.get krm rfl) (Eq.trans (hf122.get krm rfl) (Eq.trans (hf65.get krm rfl) (Eq.trans (hf4.get krm rfl) eG4.symm)))))))))))
          have hG4t : (I171 rm 4).toInt = G4.toInt := congrArg Int32.toInt hG4
          have hG7 : I171 rm 7 = x170_ := (by rw [eI171]; exact up2_self _ _ _ _)
          have hG7t : (I171 rm 7).toInt = x170_.toInt := congrArg Int32.toInt hG7
          have hG8 : I171 rm 8 = G8 := (Eq.trans (up2_at (Or.inr (by decide)) eI171) (Eq.trans (up2_kk eI167 hK160 krm (by omega)) (Eq.trans (up2_kk eI165 hk163 krm (by decide)) (Eq.trans (up2_kk eI162 hk160 krm (by omega)) (Eq.trans (up2_kk eI159 hk157 krm (by decide)) (Eq.trans (hf146.get krm rfl) (Eq.trans (hf142.get krm rfl) (Eq.trans (hf140.get krm rfl) (Eq.trans (hf122.get krm rfl) (Eq.trans (hf65.get krm rfl) (Eq.trans (hf4.get krm rfl) eG8.symm)))))))))))
          have hG8t : (I171 rm 8).toInt = G8.toInt := congrArg Int32.toInt hG8
          have hG9 : I171 rm 9 = G9 := (Eq.trans (up2_at (Or.inr (by decide)) eI171) (Eq.trans (up2_kk eI167 hK160 krm (by omega)) (Eq.trans (up2_kk eI165 hk163 krm (by decide)) (Eq.trans (up2_kk eI162 hk160 krm (by omega)) (Eq.trans (up2_kk eI159 hk157 krm (by decide)) (Eq.trans (hf146.get krm rfl) (Eq.trans (hf142.get krm rfl) (Eq.trans (hf140.get krm rfl) (Eq.trans (hf122.get krm rfl) (Eq.trans (hf65.get krm rfl) (Eq.trans (hf4.get krm rfl) eG9.symm)))))))))))
          have hG9t : (I171 rm 9).toInt = G9.toInt := congrArg Int32.toInt hG9
          have hGN : I171 rm 10 = N1 := (Eq.trans (up2_at (Or.inr (by decide)) eI171) (Eq.trans (up2_kk eI167 hK160 krm (by omega)) (Eq.trans (up2_kk eI165 hk163 krm (by decide)) (Eq.trans (up2_kk eI162 hk160 krm (by omega)) (Eq.trans (up2_kk eI159 hk157 krm (by decide)) (Eq.trans (hf146.get krm rfl) (Eq.trans (hf142.get krm rfl) (Eq.trans (hf140.get krm rfl) (Eq.trans (hf122.get krm rfl) eN1.symm)))))))))
          have hGNt : (I171 rm 10).toInt = N1.toInt := congrArg Int32.toInt hGN
          have hv8 : I171 a0 8 = A9 := (Eq.trans (up2_kk eI171 krm ka0 (by decide)) (Eq.trans (up2_kk eI167 hK160 ka0 (by omega)) (Eq.trans (up2_kk eI165 hk163 ka0 (by decide)) (Eq.trans (up2_kk eI162 hk160 ka0 (by omega)) (Eq.trans (up2_kk eI159 hk157 ka0 (by decide)) eA9.symm)))))
          have hv8t : (I171 a0 8).toInt = A9.toInt := congrArg Int32.toInt hv8
          have hv9 : I171 a0 9 = x154_ := (Eq.trans (up2_kk eI171 krm ka0 (by decide)) (Eq.trans (up2_kk eI167 hK160 ka0 (by omega)) (Eq.trans (up2_kk eI165 hk163 ka0 (by decide)) (Eq.trans (up2_kk eI162 hk160 ka0 (by omega)) (Eq.trans (up2_kk eI159 hk157 ka0 (by decide)) e154.symm)))))
          have hv9t : (I171 a0 9).toInt = x154_.toInt := congrArg Int32.toInt hv9
          exact r_vret hC hQ hlk hr (by decide) (by decide) dX10_readStory_283 ⟨_, _, rfl, rfl, ⟨hs171, hF171, hFJ146, (by first | (left; omega) | (right; omega)), (by omega), (by omega), (by omega)⟩⟩
        · have hG3 : I146 rm 3 = G3 := (Eq.trans (hf146.get krm rfl) (Eq.trans (hf142.get krm rfl) (Eq.trans (hf140.get krm rfl) (Eq.trans (hf122.get krm rfl) (Eq.trans (hf65.get krm rfl) (Eq.trans (hf4.get krm rfl) eG3.symm))))))
          have hG3t : (I146 rm 3).toInt = G3.toInt := congrArg Int32.toInt hG3
          have hG4 : I146 rm 4 = G4 := (Eq.trans (hf146.get krm rfl) (Eq.trans (hf142.get krm rfl) (Eq.trans (hf140.get krm rfl) (Eq.trans (hf122.get krm rfl) (Eq.trans (hf65.get krm rfl) (Eq.trans (hf4.get krm rfl) eG4.symm))))))
          have hG4t : (I146 rm 4).toInt = G4.toInt := congrArg Int32.toInt hG4
          have hG7 : I146 rm 7 = x63_ := (Eq.trans (hf146.get krm rfl) (Eq.trans (hf142.get krm rfl) (Eq.trans (hf140.get krm rfl) (Eq.trans (hf122.get krm rfl) (Eq.trans (hf65.get krm rfl) e63.symm)))))
          have hG7t : (I146 rm 7).toInt = x63_.toInt := congrArg Int32.toInt hG7
          have hG8 : I146 rm 8 = G8 := (Eq.trans (hf146.get krm rfl) (Eq.trans (hf142.get krm rfl) (Eq.trans (hf140.get krm rfl) (Eq.trans (hf122.get krm rfl) (Eq.trans (hf65.get krm rfl) (Eq.trans (hf4.get krm rfl) eG8.symm))))))
          have hG8t : (I146 rm 8).toInt = G8.toInt := congrArg Int32.toInt hG8
          have hG9 : I146 rm 9 = G9 := (Eq.trans (hf146.get krm rfl) (Eq.trans (hf142.get krm rfl) (Eq.trans (hf140.get krm rfl) (Eq.trans (hf122.get krm rfl) (Eq.trans (hf65.get krm rfl) (Eq.trans (hf4.get krm rfl) eG9.symm))))))
          have hG9t : (I146 rm 9).toInt = G9.toInt := congrArg Int32.toInt hG9
          have hGN : I146 rm 10 = N1 := (Eq.trans (hf146.get krm rfl) (Eq.trans (hf142.get krm rfl) (Eq.trans (hf140.get krm rfl) (Eq.trans (hf122.get krm rfl) eN1.symm))))
          have hGNt : (I146 rm 10).toInt = N1.toInt := congrArg Int32.toInt hGN
          have hv8 : I146 a0 8 = A9 := eA9.symm
          have hv8t : (I146 a0 8).toInt = A9.toInt := congrArg Int32.toInt hv8
          have hv9 : I146 a0 9 = x154_ := e154.symm
          have hv9t : (I146 a0 9).toInt = x154_.toInt := congrArg Int32.toInt hv9
          exact r_vret hC hQ hlk hr (by decide) (by decide) dX10_readStory_204 ⟨_, _, rfl, rfl, ⟨hs146, hF146, hFJ146, (by first | (left; omega) | (right; omega)), (by omega), (by omega), (by omega)⟩⟩
      · replace k122_1 := k122_1 sf122
        clear k122_0 md121 sf65
        refine r_istore_n hC (lv' := [(1, .int x122_), (0, .ref a0)]) dX10_readStory_34 (by decide) rfl ?_
        refine r_aload_n hC dX10_readStory_35 1 rfl ?_
        refine r_ldcS hC (i := 46) (by decide) rfl rfl dX10_readStory_36 ?_
        refine r_callV hC (As := [.ref (g.2.2.1 46)]) (rest := []) (ci := 10) (c_X10_isWord g (xL X) K len I122 J122 R hs122 a0 ka0 46 (by decide)) mT_5_223 mT_1_10 mT_5_220 mT_5_222 mP_53 okX10_isWord ⟨by decide, by decide⟩ rfl (by show kO (K a0) = _; rw [ka0]; rfl) rfl rfl (Nat.le_of_ble_eq_true rfl) ⟨by decide, by decide⟩ dX10_readStory_38 (aI0 (F := fun st M => P g X 5 41 [(1, .int x122_), (0, .ref a0)] st _ _ M) (M := (K, len, I122, J122, R)) fun x172_ h172 => ?_)
        obtain ⟨k172_0, k172_1, k172_2⟩ := h172
        show P g X 5 41 [(1, .int x122_), (0, .ref a0)] [.int x172_] _ _ (K, len, I122, J122, R)
        refine r_if_eq hC (tgt := 48) dX10_readStory_41 (by decide) (fun c173 => ?_) (fun c173 => ?_)
        · clear k172_2
          refine r_aload_n hC dX10_readStory_48 1 rfl ?_
          refine r_ldcS hC (i := 47) (by decide) rfl rfl dX10_readStory_49 ?_
          refine r_callV hC (As := [.ref (g.2.2.1 47)]) (rest := []) (ci := 10) (c_X10_isWord g (xL X) K len I122 J122 R hs122 a0 ka0 47 (by decide)) mT_5_223 mT_1_10 mT_5_220 mT_5_222 mP_53 okX10_isWord ⟨by decide, by decide⟩ rfl (by show kO (K a0) = _; rw [ka0]; rfl) rfl rfl (Nat.le_of_ble_eq_true rfl) ⟨by decide, by decide⟩ dX10_readStory_51 (aI0 (F := fun st M => P g X 5 54 [(1, .int x122_), (0, .ref a0)] st _ _ M) (M := (K, len, I122, J122, R)) fun x174_ h174 => ?_)
          obtain ⟨k174_0, k174_1, k174_2⟩ := h174
          show P g X 5 54 [(1, .int x122_), (0, .ref a0)] [.int x174_] _ _ (K, len, I122, J122, R)
          refine r_if_eq hC (tgt := 61) dX10_readStory_54 (by decide) (fun c175 => ?_) (fun c175 => ?_)
          · clear k174_2
            refine r_aload_n hC dX10_readStory_61 1 rfl ?_
            refine r_ldcS hC (i := 48) (by decide) rfl rfl dX10_readStory_62 ?_
            refine r_callV hC (As := [.ref (g.2.2.1 48)]) (rest := []) (ci := 10) (c_X10_isWord g (xL X) K len I122 J122 R hs122 a0 ka0 48 (by decide)) mT_5_223 mT_1_10 mT_5_220 mT_5_222 mP_53 okX10_isWord ⟨by decide, by decide⟩ rfl (by show kO (K a0) = _; rw [ka0]; rfl) rfl rfl (Nat.le_of_ble_eq_true rfl) ⟨by decide, by decide⟩ dX10_readStory_64 (aI0 (F := fun st M => P g X 5 67 [(1, .int x122_), (0, .ref a0)] st _ _ M) (M := (K, len, I122, J122, R)) fun x176_ h176 => ?_)
            obtain ⟨k176_0, k176_1, k176_2⟩ := h176
            show P g X 5 67 [(1, .int x122_), (0, .ref a0)] [.int x176_] _ _ (K, len, I122, J122, R)
            refine r_if_eq hC (tgt := 74) dX10_readStory_67 (by decide) (fun c177 => ?_) (fun c177 => ?_)
            · clear k176_2
              refine r_aload_n hC dX10_readStory_74 1 rfl ?_
              refine r_ldcS hC (i := 49) (by decide) rfl rfl dX10_readStory_75 ?_
              refine r_callV hC (As := [.ref (g.2.2.1 49)]) (rest := []) (ci := 10) (c_X10_isWord g (xL X) K len I122 J122 R hs122 a0 ka0 49 (by decide)) mT_5_223 mT_1_10 mT_5_220 mT_5_222 mP_53 okX10_isWord ⟨by decide, by decide⟩ rfl (by show kO (K a0) = _; rw [ka0]; rfl) rfl rfl (Nat.le_of_ble_eq_true rfl) ⟨by decide, by decide⟩ dX10_readStory_77 (aI0 (F := fun st M => P g X 5 80 [(1, .int x122_), (0, .ref a0)] st _ _ M) (M := (K, len, I122, J122, R)) fun x178_ h178 => ?_)
              obtain ⟨k178_0, k178_1, k178_2⟩ := h178
              show P g X 5 80 [(1, .int x122_), (0, .ref a0)] [.int x178_] _ _ (K, len, I122, J122, R)
              refine r_if_eq hC (tgt := 87) dX10_readStory_80 (by decide) (fun c179 => ?_) (fun c179 => ?_)
              · clear k178_2
                refine r_aload_n hC dX10_readStory_87 1 rfl ?_
                refine r_ldcS hC (i := 50) (by decide) rfl rfl dX10_readStory_88 ?_
                refine r_callV hC (As := [.ref (g.2.2.1 50)]) (rest := []) (ci := 10) (c_X10_isWord g (xL X) K len I122 J122 R hs122 a0 ka0 50 (by decide)) mT_5_223 mT_1_10 mT_5_220 mT_5_222 mP_53 okX10_isWord ⟨by decide, by decide⟩ rfl (by show kO (K a0) = _; rw [ka0]; rfl) rfl rfl (Nat.le_of_ble_eq_true rfl) ⟨by decide, by decide⟩ dX10_readStory_90 (aI0 (F := fun st M => P g X 5 93 [(1, .int x122_), (0, .ref a0)] st _ _ M) (M := (K, len, I122, J122, R)) fun x180_ h180 => ?_)
                obtain ⟨k180_0, k180_1, k180_2⟩ := h180
                show P g X 5 93 [(1, .int x122_), (0, .ref a0)] [.int x180_] _ _ (K, len, I122, J122, R)
                refine r_if_eq hC (tgt := 100) dX10_readStory_93 (by decide) (fun c181 => ?_) (fun c181 => ?_)
                · clear k180_2
                  refine r_aload_n hC dX10_readStory_100 1 rfl ?_
                  refine r_ldcwS hC (i := 51) (by decide) rfl rfl dX10_readStory_101 ?_
                  refine r_callV hC (As := [.ref (g.2.2.1 51)]) (rest := []) (ci := 10) (c_X10_isWord g (xL X) K len I122 J122 R hs122 a0 ka0 51 (by decide)) mT_5_223 mT_1_10 mT_5_220 mT_5_222 mP_53 okX10_isWord ⟨by decide, by decide⟩ rfl (by show kO (K a0) = _; rw [ka0]; rfl) rfl rfl (Nat.le_of_ble_eq_true rfl) ⟨by decide, by decide⟩ dX10_readStory_104 (aI0 (F := fun st M => P g X 5 107 [(1, .int x122_), (0, .ref a0)] st _ _ M) (M := (K, len, I122, J122, R)) fun x182_ h182 => ?_)
                  obtain ⟨k182_0, k182_1, k182_2⟩ := h182
                  show P g X 5 107 [(1, .int x122_), (0, .ref a0)] [.int x182_] _ _ (K, len, I122, J122, R)
                  refine r_if_eq hC (tgt := 114) dX10_readStory_107 (by decide) (fun c183 => ?_) (fun c183 => ?_)
                  · clear k182_2
                    refine r_iconst hC (v := (-1)) dX10_readStory_114 (by decide) (by decide) (fun x184_ e184 t184 => ?_)
                    refine r_istore_n hC (lv' := [(2, .int x184_), (1, .int x122_), (0, .ref a0)]) dX10_readStory_115 (by decide) rfl ?_
                    refine r_iload_n hC dX10_readStory_116 0 rfl ?_
                    refine r_iconst hC (v := (-1)) dX10_readStory_117 (by decide) (by decide) (fun x185_ e185 t185 => ?_)
                    refine r_icmp_ne hC (tgt := 126) dX10_readStory_118 (by decide) (fun c186 => ?_) (fun c186 => ?_)
                    · exfalso; omega
                    refine r_aload_n hC dX10_readStory_121 2 rfl ?_
                    refine r_iconst hC (v := (1)) dX10_readStory_122 (by decide) (by decide) (fun x187_ e187 t187 => ?_)
                    have md188 : (I122 a0 9).toInt ≠ 5 := by omega
                    refine r_callV hC (As := [.int x187_]) (rest := []) (ci := 10) (c_X10_wrong g (xL X) K len I122 J122 R hs122 a0 ka0 x187_) mT_5_236 mT_1_10 mT_5_233 mT_5_235 mP_55 okX10_wrong ⟨by decide, by decide⟩ rfl (by show kO (K a0) = _; rw [ka0]; rfl) rfl rfl (Nat.le_of_ble_eq_true rfl) ⟨by decide, by decide⟩ dX10_readStory_123 (aV1 (F := fun st M => P g X 5 126 [(2, .int x184_), (1, .int x122_), (0, .ref a0)] st _ _ M) (M := (K, len, I122, J122, R)) fun I189 h189 => ?_)
                    obtain ⟨hs189, hf189, k189_0, k189_1⟩ := h189
                    show P g X 5 126 [(2, .int x184_), (1, .int x122_), (0, .ref a0)] [] _ _ (K, len, I189, J122, R)
                    have hF189 : Fr K [(10, 7), (10, 10), (11, 8), (11, 9), (11, 10), (11, 11), (11, 12), (11, 13), (75, 999), (76, 999), (83, 999), (84, 999), (1000, 999)] I I189 := hF122.trans hf189 rfl rfl
                    clear k122_3
                    clear md188 sf122
                    refine r_aload_n hC dX10_readStory_126 2 rfl ?_
                    have md190 : (I189 a0 9).toInt = 5 := by omega
                    refine r_callV hC (As := []) (rest := []) (ci := 10) (c_X10_goesOn g (xL X) K len I189 J122 R hs189 a0 ka0) mT_5_199 mT_1_10 mT_5_196 mT_5_198 mP_49 okX10_goesOn ⟨by decide, by decide⟩ rfl (by show kO (K a0) = _; rw [ka0]; rfl) rfl rfl (Nat.le_of_ble_eq_true rfl) ⟨by decide, by decide⟩ dX10_readStory_127 (aV2 (F := fun st M => P g X 5 130 [(2, .int x184_), (1, .int x122_), (0, .ref a0)] st _ _ M) (M := (K, len, I189, J122, R)) fun I191 J191 h191 => ?_)
                    obtain ⟨hs191, hf191, hfj191, k191_0, k191_1, k191_2, k191_3⟩ := h191
                    show P g X 5 130 [(2, .int x184_), (1, .int x122_), (0, .ref a0)] [] _ _ (K, len, I191, J191, R)
                    have hF191 : Fr K [(10, 7), (10, 10), (11, 8), (11, 9), (11, 10), (11, 11), (11, 12), (11, 13), (75, 999), (76, 999), (83, 999), (84, 999), (1000, 999)] I I191 := hF189.trans hf191 rfl rfl
                    have hFJ191 : Fr K [(11, 14), (82, 999)] J J191 := hFJ122.trans hfj191 rfl rfl
                    have sf191 := k191_0 md190
                    clear k191_0 k191_1 k191_3 md190
                    refine r_aload_n hC dX10_readStory_130 2 rfl ?_
                    refine r_iconst hC (v := (0)) dX10_readStory_131 (by decide) (by decide) (fun x192_ e192 t192 => ?_)
                    refine r_bipush hC (v := (99)) dX10_readStory_132 (by decide) (by decide) (fun x193_ e193 t193 => ?_)
                    have md194 : (I191 a0 9).toInt = 5 := by omega
                    refine r_callV hC (As := [.int x192_, .int x193_]) (rest := []) (ci := 10) (c_X10_readWhole g (xL X) K len I191 J191 R hs191 a0 ka0 x192_ x193_) mT_6_5 mT_1_10 mT_6_2 mT_6_4 mP_57 okX10_readWhole ⟨by decide, by decide⟩ rfl (by show kO (K a0) = _; rw [ka0]; rfl) rfl rfl (Nat.le_of_ble_eq_true rfl) ⟨by decide, by decide⟩ dX10_readStory_134 (aI2 (F := fun st M => P g X 5 137 [(2, .int x184_), (1, .int x122_), (0, .ref a0)] st _ _ M) (M := (K, len, I191, J191, R)) fun x195_ I195 J195 h195 => ?_)
                    obtain ⟨hs195, hf195, hfj195, k195_0, k195_1, k195_2, k195_3⟩ := h195
                    show P g X 5 137 [(2, .int x184_), (1, .int x122_), (0, .ref a0)] [.int x195_] _ _ (K, len, I195, J195, R)
                    have hF195 : Fr K [(10, 7), (10, 10), (11, 8), (11, 9), (11, 10), (11, 11), (11, 12), (11, 13), (75, 999), (76, 999), (83, 999), (84, 999), (1000, 999)] I I195 := hF191.trans hf195 rfl rfl
                    have hFJ195 : Fr K [(11, 14), (82, 999)] J J195 := hFJ191.trans hfj195 rfl rfl
                    have sf195 := k195_0 md194
                    clear k195_0 k195_1 k195_3 md194 sf191
                    refine r_istore_n hC (lv' := [(3, .int x195_), (2, .int x184_), (1, .int x122_), (0, .ref a0)]) dX10_readStory_137 (by decide) rfl ?_
                    refine r_iload_n hC dX10_readStory_138 1 rfl ?_
                    refine r_iconst hC (v := (2)) dX10_readStory_139 (by decide) (by decide) (fun x196_ e196 t196 => ?_)
                    refine r_icmp_ne hC (tgt := 156) dX10_readStory_140 (by decide) (fun c197 => ?_) (fun c197 => ?_)
                    rotate_left
                    · exfalso; omega
                    refine r_iload_n hC dX10_readStory_156 1 rfl ?_
                    refine r_iconst hC (v := (3)) dX10_readStory_157 (by decide) (by decide) (fun x198_ e198 t198 => ?_)
                    refine r_icmp_ne hC (tgt := 175) dX10_readStory_158 (by decide) (fun c199 => ?_) (fun c199 => ?_)
                    rotate_left
                    · exfalso; omega
                    refine r_iload_n hC dX10_readStory_175 1 rfl ?_
                    refine r_iconst hC (v := (4)) dX10_readStory_176 (by decide) (by decide) (fun x200_ e200 t200 => ?_)
                    refine r_icmp_ne hC (tgt := 193) dX10_readStory_177 (by decide) (fun c201 => ?_) (fun c201 => ?_)
                    rotate_left
                    · exfalso; omega
                    refine r_iconst hC (v := (0)) dX10_readStory_193 (by decide) (by decide) (fun x202_ e202 t202 => ?_)
                    refine r_istore hC (lv' := [(4, .int x202_), (3, .int x195_), (2, .int x184_), (1, .int x122_), (0, .ref a0)]) dX10_readStory_194 (by decide) rfl ?_
                    refine r_aload_n hC dX10_readStory_196 4 rfl ?_
                    obtain ⟨A9, eA9⟩ : ∃ z : Int32, z = I195 a0 8 := ⟨_, rfl⟩
                    have fA9 : A9.toInt = (I195 a0 8).toInt := by rw [eA9]
                    have rA9 := hs195.rng ka0 rfl eA9
                    refine r_geti hC 9 (ci := 10) rfl u10_in (by decide) mT_5_4 dX10_readStory_197 ka0 rfl rfl (fun x203_ e203 => ?_)
                    have f203 : x203_.toInt = (I195 a0 9).toInt := by rw [e203]
                    refine r_iconst hC (v := (5)) dX10_readStory_200 (by decide) (by decide) (fun x204_ e204 t204 => ?_)
                    refine r_icmp_ne hC (tgt := 205) dX10_readStory_201 (by decide) (fun c205 => ?_) (fun c205 => ?_)
                    · refine r_aload_n hC dX10_readStory_205 4 rfl ?_
                      refine r_getr hC 4 (ci := 10) rfl u10_in (by decide) mT_4_239 dX10_readStory_206 ka0 rfl rfl hbr ?_
                      obtain ⟨a206_, hb206, hk206, hn206⟩ := hs195.row krm 16 75 6 (by decide) (by decide)
                      refine r_getrN hC 16 (ci := 9) rfl u9_in (by decide) nF_16 dX10_readStory_209 krm rfl rfl hb206 ?_
                      refine r_aload_n hC dX10_readStory_212 4 rfl ?_
                      refine r_getr hC 4 (ci := 10) rfl u10_in (by decide) mT_4_239 dX10_readStory_213 ka0 rfl rfl hbr ?_
                      refine r_getiN hC 7 (ci := 9) rfl u9_in (by decide) nF_7 dX10_readStory_216 krm rfl rfl (fun x207_ e207 => ?_)
                      have r207 := hs195.rng krm rfl e207
                      have f207 : x207_.toInt = (I195 rm 7).toInt := by rw [e207]
                      have w207 : x207_ = x63_ := by rw [e207]; exact (Eq.trans (hf195.get krm rfl) (Eq.trans (hf191.get krm rfl) (Eq.trans (hf189.get krm rfl) (Eq.trans (hf122.get krm rfl) (Eq.trans (hf65.get krm rfl) e63.symm)))))
                      have wt207 : x207_.toInt = x63_.toInt := by rw [w207]
                      refine r_iload_n hC dX10_readStory_219 3 rfl ?_
                      refine x_iastore hC hk206 hn206 (by decide) rfl rfl dX10_readStory_220 (by omega) (by omega) (fun I208 eI208 => ?_)
                      have hs208 := hs195.put0 eI208 hk206 (rng_arr (by decide) _) rfl (xF_arr (by decide) _) (by decide)
                      have hF208 := hF195.put eI208 hk206 (inS_arr rfl _)
                      refine r_aload_n hC dX10_readStory_221 4 rfl ?_
                      refine r_getr hC 4 (ci := 10) rfl u10_in (by decide) mT_4_239 dX10_readStory_222 ka0 rfl rfl hbr ?_
                      obtain ⟨kd209, mo209, hb209, hk209, hn209, hB209, hK209, hN209⟩ := hs208.2.2.1 rm krm
                      refine r_getrN hC 17 (ci := 9) rfl u9_in (by decide) nF_17 dX10_readStory_225 krm rfl rfl hb209 ?_
                      refine r_aload_n hC dX10_readStory_228 4 rfl ?_
                      refine r_getr hC 4 (ci := 10) rfl u10_in (by decide) mT_4_239 dX10_readStory_229 ka0 rfl rfl hbr ?_
                      refine r_getiN hC 7 (ci := 9) rfl u9_in (by decide) nF_7 dX10_readStory_232 krm rfl rfl (fun x210_ e210 => ?_)
                      have r210 := hs208.rng krm rfl e210
                      have f210 : x210_.toInt = (I208 rm 7).toInt := by rw [e210]
                      have w210 : x210_ = x207_ := by rw [e210]; exact (Eq.trans (up2_kk eI208 hk206 krm (by decide)) e207.symm)
                      have wt210 : x210_.toInt = x207_.toInt := by rw [w210]
                      refine r_iload_n hC dX10_readStory_235 2 rfl ?_
                      refine x_iastore hC hk209 hn209 (by omega) (kOb (by omega)) (kAb (by omega)) dX10_readStory_236 (by omega) (by omega) (fun I211 eI211 => ?_)
                      have hs211 : Sf K len I211 R := hs208.putK (rm := rm) eI211 (Or.inl hk209) (by have h9 := clampI (i := x210_) (by omega); omega)
                      have hF211 := hF208.put eI211 hk209 (inS_big rfl (by omega) _)
                      refine r_aload_n hC dX10_readStory_237 4 rfl ?_
                      refine r_getr hC 4 (ci := 10) rfl u10_in (by decide) mT_4_239 dX10_readStory_238 ka0 rfl rfl hbr ?_
                      obtain ⟨a212_, hb212, hk212, hn212⟩ := hs211.row krm 18 76 6 (by decide) (by decide)
                      refine r_getrN hC 18 (ci := 9) rfl u9_in (by decide) nF_18 dX10_readStory_241 krm rfl rfl hb212 ?_
                      refine r_aload_n hC dX10_readStory_244 4 rfl ?_
                      refine r_getr hC 4 (ci := 10) rfl u10_in (by decide) mT_4_239 dX10_readStory_245 ka0 rfl rfl hbr ?_
                      refine r_getiN hC 7 (ci := 9) rfl u9_in (by decide) nF_7 dX10_readStory_248 krm rfl rfl (fun x213_ e213 => ?_)
                      have r213 := hs211.rng krm rfl e213
                      have f213 : x213_.toInt = (I211 rm 7).toInt := by rw [e213]
                      have w213 : x213_ = x210_ := by rw [e213]; exact (Eq.trans (up2_kk eI211 hk209 krm (by omega)) e210.symm)
                      have wt213 : x213_.toInt = x210_.toInt := by rw [w213]
                      refine r_iload_n hC dX10_readStory_251 1 rfl ?_
                      refine x_iastore hC hk212 hn212 (by decide) rfl rfl dX10_readStory_252 (by omega) (by omega) (fun I214 eI214 => ?_)
                      have hs214 := hs211.put0 eI214 hk212 (rng_arr (by decide) _) rfl (xF_arr (by decide) _) (by decide)
                      have hF214 := hF211.put eI214 hk212 (inS_arr rfl _)
                      refine r_aload_n hC dX10_readStory_253 4 rfl ?_
                      refine r_getr hC 4 (ci := 10) rfl u10_in (by decide) mT_4_239 dX10_readStory_254 ka0 rfl rfl hbr ?_
                      refine r_getrN hC 19 (ci := 9) rfl u9_in (by decide) nF_19 dX10_readStory_257 krm rfl rfl hB209 ?_
                      refine r_aload_n hC dX10_readStory_260 4 rfl ?_
                      refine r_getr hC 4 (ci := 10) rfl u10_in (by decide) mT_4_239 dX10_readStory_261 ka0 rfl rfl hbr ?_
                      refine r_getiN hC 7 (ci := 9) rfl u9_in (by decide) nF_7 dX10_readStory_264 krm rfl rfl (fun x215_ e215 => ?_)
                      have r215 := hs214.rng krm rfl e215
                      have f215 : x215_.toInt = (I214 rm 7).toInt := by rw [e215]
                      have w215 : x215_ = x213_ := by rw [e215]; exact (Eq.trans (up2_kk eI214 hk212 krm (by decide)) e213.symm)
                      have wt215 : x215_.toInt = x213_.toInt := by rw [w215]
                      refine r_iload hC dX10_readStory_267 0 rfl ?_
                      refine x_iastore hC hK209 hN209 (by omega) (kOb (by omega)) (kAb (by omega)) dX10_readStory_269 (by omega) (by omega) (fun I216 eI216 => ?_)
                      have hs216 : Sf K len I216 R := hs214.putK (rm := rm) eI216 (Or.inr hK209) (by have h9 := clampI (i := x215_) (by omega); omega)
                      have hF216 := hF214.put eI216 hK209 (inS_big rfl (by omega) _)
                      refine r_aload_n hC dX10_readStory_270 4 rfl ?_
                      refine r_getr hC 4 (ci := 10) rfl u10_in (by decide) mT_4_239 dX10_readStory_271 ka0 rfl rfl hbr ?_
                      refine r_dup hC dX10_readStory_274 rfl ?_
                      refine r_getiN hC 7 (ci := 9) rfl u9_in (by decide) nF_7 dX10_readStory_275 krm rfl rfl (fun x217_ e217 => ?_)
                      have r217 := hs216.rng krm rfl e217
                      have f217 : x217_.toInt = (I216 rm 7).toInt := by rw [e217]
                      have w217 : x217_ = x215_ := by rw [e217]; exact (Eq.trans (up2_kk eI216 hK209 krm (by omega)) e215.symm)
                      have wt217 : x217_.toInt = x215_.toInt := by rw [w217]
                      refine r_iconst hC (v := (1)) dX10_readStory_278 (by decide) (by decide) (fun x218_ e218 t218 => ?_)
                      refine r_iadd hC dX10_readStory_279 (fun x219_ e219 => ?_)
                      try have t219 : x219_.toInt = x217_.toInt + x218_.toInt := by rw [e219]; exact ti_add (by omega) (by omega)
                      refine r_putiN hC 7 (ci := 9) rfl u9_in tyX9_ok nmX9 (by decide) nF_7 rfl rfl rfl dX10_readStory_280 krm rfl rfl (fun I220 eI220 => ?_)
                      have hs220 : Sf K len I220 R := hs216.putA7 eI220 krm hb209 hB209 (by omega) (by omega) (j := x210_.toNatClampNeg) (by have h9 := clampI (i := x210_) (by omega); omega) (by omega) (by rw [(show I216 kd209 x210_.toNatClampNeg = x184_ from (Eq.trans (up2_kk eI216 hK209 hk209 (by omega)) (Eq.trans (up2_kk eI214 hk212 hk209 (by omega)) (by rw [eI211]; exact up2_self _ _ _ _)))), cl_eq (show x210_.toInt = x215_.toInt by omega), (show I216 mo209 x215_.toNatClampNeg = x202_ from (by rw [eI216]; exact up2_self _ _ _ _))]; omega)
                      have hF220 := hF216.put eI220 krm rfl
                      have hG3 : I220 rm 3 = G3 := (Eq.trans (up2_at (Or.inr (by decide)) eI220) (Eq.trans (up2_kk eI216 hK209 krm (by omega)) (Eq.trans (up2_kk eI214 hk212 krm (by decide)) (Eq.trans (up2_kk eI211 hk209 krm (by omega)) (Eq.trans (up2_kk eI208 hk206 krm (by decide)) (Eq.trans (hf195.get krm rfl) (Eq.trans (hf191.get krm rfl) (Eq.trans (hf189.get krm rfl) (Eq.trans (hf122.get krm rfl) (Eq.trans (hf65.get krm rfl) (Eq.trans (hf4.get krm rfl) eG3.symm)))))))))))
                      have hG3t : (I220 rm 3).toInt = G3.toInt := congrArg Int32.toInt hG3
                      have hG4 : I220 rm 4 = G4 := (Eq.trans (up2_at (Or.inr (by decide)) eI220) (Eq.trans (up2_kk eI216 hK209 krm (by omega)) (Eq.trans (up2_kk eI214 hk212 krm (by decide)) (Eq.trans (up2_kk eI211 hk209 krm (by omega)) (Eq.trans (up2_kk eI208 hk206 krm (by decide)) (Eq.trans (hf195.get krm rfl) (Eq.trans (hf191.get krm rfl) (Eq.trans (hf189.get krm rfl) (Eq.trans (hf122.get krm rfl) (Eq.trans (hf65.get krm rfl) (Eq.trans (hf4.get krm rfl) eG4.symm)))))))))))
                      have hG4t : (I220 rm 4).toInt = G4.toInt := congrArg Int32.toInt hG4
                      have hG7 : I220 rm 7 = x219_ := (by rw [eI220]; exact up2_self _ _ _ _)
                      have hG7t : (I220 rm 7).toInt = x219_.toInt := congrArg Int32.toInt hG7
                      have hG8 : I220 rm 8 = G8 := (Eq.trans (up2_at (Or.inr (by decide)) eI220) (Eq.trans (up2_kk eI216 hK209 krm (by omega)) (Eq.trans (up2_kk eI214 hk212 krm (by decide)) (Eq.trans (up2_kk eI211 hk209 krm (by omega)) (Eq.trans (up2_kk eI208 hk206 krm (by decide)) (Eq.trans (hf195.get krm rfl) (Eq.trans (hf191.get krm rfl) (Eq.trans (hf189.get krm rfl) (Eq.trans (hf122.get krm rfl) (Eq.trans (hf65.get krm rfl) (Eq.trans (hf4.get krm rfl) eG8.symm)))))))))))
                      have hG8t : (I220 rm 8).toInt = G8.toInt := congrArg Int32.toInt hG8
                      have hG9 : I220 rm 9 = G9 := (Eq.trans (up2_at (Or.inr (by decide)) eI220) (Eq.trans (up2_kk eI216 hK209 krm (by omega)) (Eq.trans (up2_kk eI214 hk212 krm (by decide)) (Eq.trans (up2_kk eI211 hk209 krm (by omega)) (Eq.trans (up2_kk eI208 hk206 krm (by decide)) (Eq.trans (hf195.get krm rfl) (Eq.trans (hf191.get krm rfl) (Eq.trans (hf189.get krm rfl) (Eq.trans (hf122.get krm rfl) (Eq.trans (hf65.get krm rfl) (Eq.trans (hf4.get krm rfl) eG9.symm)))))))))))
                      have hG9t : (I220 rm 9).toInt = G9.toInt := congrArg Int32.toInt hG9
                      have hGN : I220 rm 10 = N1 := (Eq.trans (up2_at (Or.inr (by decide)) eI220) (Eq.trans (up2_kk eI216 hK209 krm (by omega)) (Eq.trans (up2_kk eI214 hk212 krm (by decide)) (Eq.trans (up2_kk eI211 hk209 krm (by omega)) (Eq.trans (up2_kk eI208 hk206 krm (by decide)) (Eq.trans (hf195.get krm rfl) (Eq.trans (hf191.get krm rfl) (Eq.trans (hf189.get krm rfl) (Eq.trans (hf122.get krm rfl) eN1.symm)))))))))
                      have hGNt : (I220 rm 10).toInt = N1.toInt := congrArg Int32.toInt hGN
                      have hv8 : I220 a0 8 = A9 := (Eq.trans (up2_kk eI220 krm ka0 (by decide)) (Eq.trans (up2_kk eI216 hK209 ka0 (by omega)) (Eq.trans (up2_kk eI214 hk212 ka0 (by decide)) (Eq.trans (up2_kk eI211 hk209 ka0 (by omega)) (Eq.trans (up2_kk eI208 hk206 ka0 (by decide)) eA9.symm)))))
                      have hv8t : (I220 a0 8).toInt = A9.toInt := congrArg Int32.toInt hv8
                      have hv9 : I220 a0 9 = x203_ := (Eq.trans (up2_kk eI220 krm ka0 (by decide)) (Eq.trans (up2_kk eI216 hK209 ka0 (by omega)) (Eq.trans (up2_kk eI214 hk212 ka0 (by decide)) (Eq.trans (up2_kk eI211 hk209 ka0 (by omega)) (Eq.trans (up2_kk eI208 hk206 ka0 (by decide)) e203.symm)))))
                      have hv9t : (I220 a0 9).toInt = x203_.toInt := congrArg Int32.toInt hv9
                      exact r_vret hC hQ hlk hr (by decide) (by decide) dX10_readStory_283 ⟨_, _, rfl, rfl, ⟨hs220, hF220, hFJ195, (by first | (left; omega) | (right; omega)), (by omega), (by omega), (by omega)⟩⟩
                    · have hG3 : I195 rm 3 = G3 := (Eq.trans (hf195.get krm rfl) (Eq.trans (hf191.get krm rfl) (Eq.trans (hf189.get krm rfl) (Eq.trans (hf122.get krm rfl) (Eq.trans (hf65.get krm rfl) (Eq.trans (hf4.get krm rfl) eG3.symm))))))
                      have hG3t : (I195 rm 3).toInt = G3.toInt := congrArg Int32.toInt hG3
                      have hG4 : I195 rm 4 = G4 := (Eq.trans (hf195.get krm rfl) (Eq.trans (hf191.get krm rfl) (Eq.trans (hf189.get krm rfl) (Eq.trans (hf122.get krm rfl) (Eq.trans (hf65.get krm rfl) (Eq.trans (hf4.get krm rfl) eG4.symm))))))
                      have hG4t : (I195 rm 4).toInt = G4.toInt := congrArg Int32.toInt hG4
                      have hG7 : I195 rm 7 = x63_ := (Eq.trans (hf195.get krm rfl) (Eq.trans (hf191.get krm rfl) (Eq.trans (hf189.get krm rfl) (Eq.trans (hf122.get krm rfl) (Eq.trans (hf65.get krm rfl) e63.symm)))))
                      have hG7t : (I195 rm 7).toInt = x63_.toInt := congrArg Int32.toInt hG7
                      have hG8 : I195 rm 8 = G8 := (Eq.trans (hf195.get krm rfl) (Eq.trans (hf191.get krm rfl) (Eq.trans (hf189.get krm rfl) (Eq.trans (hf122.get krm rfl) (Eq.trans (hf65.get krm rfl) (Eq.trans (hf4.get krm rfl) eG8.symm))))))
                      have hG8t : (I195 rm 8).toInt = G8.toInt := congrArg Int32.toInt hG8
                      have hG9 : I195 rm 9 = G9 := (Eq.trans (hf195.get krm rfl) (Eq.trans (hf191.get krm rfl) (Eq.trans (hf189.get krm rfl) (Eq.trans (hf122.get krm rfl) (Eq.trans (hf65.get krm rfl) (Eq.trans (hf4.get krm rfl) eG9.symm))))))
                      have hG9t : (I195 rm 9).toInt = G9.toInt := congrArg Int32.toInt hG9
                      have hGN : I195 rm 10 = N1 := (Eq.trans (hf195.get krm rfl) (Eq.trans (hf191.get krm rfl) (Eq.trans (hf189.get krm rfl) (Eq.trans (hf122.get krm rfl) eN1.symm))))
                      have hGNt : (I195 rm 10).toInt = N1.toInt := congrArg Int32.toInt hGN
                      have hv8 : I195 a0 8 = A9 := eA9.symm
                      have hv8t : (I195 a0 8).toInt = A9.toInt := congrArg Int32.toInt hv8
                      have hv9 : I195 a0 9 = x203_ := e203.symm
                      have hv9t : (I195 a0 9).toInt = x203_.toInt := congrArg Int32.toInt hv9
                      exact r_vret hC hQ hlk hr (by decide) (by decide) dX10_readStory_204 ⟨_, _, rfl, rfl, ⟨hs195, hF195, hFJ195, (by first | (left; omega) | (right; omega)), (by omega), (by omega), (by omega)⟩⟩
                  · replace k182_2 := k182_2 c183
                    refine r_iconst hC (v := (5)) dX10_readStory_110 (by decide) (by decide) (fun x221_ e221 t221 => ?_)
                    refine r_goto hC (tgt := 115) dX10_readStory_111 (by decide) ?_
                    refine r_istore_n hC (lv' := [(2, .int x221_), (1, .int x122_), (0, .ref a0)]) dX10_readStory_115 (by decide) rfl ?_
                    refine r_iload_n hC dX10_readStory_116 0 rfl ?_
                    refine r_iconst hC (v := (-1)) dX10_readStory_117 (by decide) (by decide) (fun x222_ e222 t222 => ?_)
                    refine r_icmp_ne hC (tgt := 126) dX10_readStory_118 (by decide) (fun c223 => ?_) (fun c223 => ?_)
                    rotate_left
                    · exfalso; omega
                    refine r_aload_n hC dX10_readStory_126 2 rfl ?_
                    have md224 : (I122 a0 9).toInt ≠ 5 := by omega
                    refine r_callV hC (As := []) (rest := []) (ci := 10) (c_X10_goesOn g (xL X) K len I122 J122 R hs122 a0 ka0) mT_5_199 mT_1_10 mT_5_196 mT_5_198 mP_49 okX10_goesOn ⟨by decide, by decide⟩ rfl (by show kO (K a0) = _; rw [ka0]; rfl) rfl rfl (Nat.le_of_ble_eq_true rfl) ⟨by decide, by decide⟩ dX10_readStory_127 (aV2 (F := fun st M => P g X 5 130 [(2, .int x221_), (1, .int x122_), (0, .ref a0)] st _ _ M) (M := (K, len, I122, J122, R)) fun I225 J225 h225 => ?_)
                    obtain ⟨hs225, hf225, hfj225, k225_0, k225_1, k225_2, k225_3⟩ := h225
                    show P g X 5 130 [(2, .int x221_), (1, .int x122_), (0, .ref a0)] [] _ _ (K, len, I225, J225, R)
                    have hF225 : Fr K [(10, 7), (10, 10), (11, 8), (11, 9), (11, 10), (11, 11), (11, 12), (11, 13), (75, 999), (76, 999), (83, 999), (84, 999), (1000, 999)] I I225 := hF122.trans hf225 rfl rfl
                    have hFJ225 : Fr K [(11, 14), (82, 999)] J J225 := hFJ122.trans hfj225 rfl rfl
                    clear k122_3
                    have sf225 := k225_1 md224
                    replace k225_3 := k225_3 md224
                    clear k225_0 k225_1 md224 sf122
                    refine r_aload_n hC dX10_readStory_130 2 rfl ?_
                    refine r_iconst hC (v := (0)) dX10_readStory_131 (by decide) (by decide) (fun x226_ e226 t226 => ?_)
                    refine r_bipush hC (v := (99)) dX10_readStory_132 (by decide) (by decide) (fun x227_ e227 t227 => ?_)
                    have md228 : (I225 a0 9).toInt ≠ 5 := by omega
                    refine r_callV hC (As := [.int x226_, .int x227_]) (rest := []) (ci := 10) (c_X10_readWhole g (xL X) K len I225 J225 R hs225 a0 ka0 x226_ x227_) mT_6_5 mT_1_10 mT_6_2 mT_6_4 mP_57 okX10_readWhole ⟨by decide, by decide⟩ rfl (by show kO (K a0) = _; rw [ka0]; rfl) rfl rfl (Nat.le_of_ble_eq_true rfl) ⟨by decide, by decide⟩ dX10_readStory_134 (aI2 (F := fun st M => P g X 5 137 [(2, .int x221_), (1, .int x122_), (0, .ref a0)] st _ _ M) (M := (K, len, I225, J225, R)) fun x229_ I229 J229 h229 => ?_)
                    obtain ⟨hs229, hf229, hfj229, k229_0, k229_1, k229_2, k229_3⟩ := h229
                    show P g X 5 137 [(2, .int x221_), (1, .int x122_), (0, .ref a0)] [.int x229_] _ _ (K, len, I229, J229, R)
                    have hF229 : Fr K [(10, 7), (10, 10), (11, 8), (11, 9), (11, 10), (11, 11), (11, 12), (11, 13), (75, 999), (76, 999), (83, 999), (84, 999), (1000, 999)] I I229 := hF225.trans hf229 rfl rfl
                    have hFJ229 : Fr K [(11, 14), (82, 999)] J J229 := hFJ225.trans hfj229 rfl rfl
                    clear k225_3
                    by_cases sf229 : (I229 a0 9).toInt = 5
                    · clear k229_0 k229_1 k229_3 md228 sf225
                      refine r_istore_n hC (lv' := [(3, .int x229_), (2, .int x221_), (1, .int x122_), (0, .ref a0)]) dX10_readStory_137 (by decide) rfl ?_
                      refine r_iload_n hC dX10_readStory_138 1 rfl ?_
                      refine r_iconst hC (v := (2)) dX10_readStory_139 (by decide) (by decide) (fun x230_ e230 t230 => ?_)
                      refine r_icmp_ne hC (tgt := 156) dX10_readStory_140 (by decide) (fun c231 => ?_) (fun c231 => ?_)
                      rotate_left
                      · exfalso; omega
                      refine r_iload_n hC dX10_readStory_156 1 rfl ?_
                      refine r_iconst hC (v := (3)) dX10_readStory_157 (by decide) (by decide) (fun x232_ e232 t232 => ?_)
                      refine r_icmp_ne hC (tgt := 175) dX10_readStory_158 (by decide) (fun c233 => ?_) (fun c233 => ?_)
                      rotate_left
                      · exfalso; omega
                      refine r_iload_n hC dX10_readStory_175 1 rfl ?_
                      refine r_iconst hC (v := (4)) dX10_readStory_176 (by decide) (by decide) (fun x234_ e234 t234 => ?_)
                      refine r_icmp_ne hC (tgt := 193) dX10_readStory_177 (by decide) (fun c235 => ?_) (fun c235 => ?_)
                      rotate_left
                      · exfalso; omega
                      refine r_iconst hC (v := (0)) dX10_readStory_193 (by decide) (by decide) (fun x236_ e236 t236 => ?_)
                      refine r_istore hC (lv' := [(4, .int x236_), (3, .int x229_), (2, .int x221_), (1, .int x122_), (0, .ref a0)]) dX10_readStory_194 (by decide) rfl ?_
                      refine r_aload_n hC dX10_readStory_196 4 rfl ?_
                      obtain ⟨A9, eA9⟩ : ∃ z : Int32, z = I229 a0 8 := ⟨_, rfl⟩
                      have fA9 : A9.toInt = (I229 a0 8).toInt := by rw [eA9]
                      have rA9 := hs229.rng ka0 rfl eA9
                      refine r_geti hC 9 (ci := 10) rfl u10_in (by decide) mT_5_4 dX10_readStory_197 ka0 rfl rfl (fun x237_ e237 => ?_)
                      have f237 : x237_.toInt = (I229 a0 9).toInt := by rw [e237]
                      refine r_iconst hC (v := (5)) dX10_readStory_200 (by decide) (by decide) (fun x238_ e238 t238 => ?_)
                      refine r_icmp_ne hC (tgt := 205) dX10_readStory_201 (by decide) (fun c239 => ?_) (fun c239 => ?_)
                      · refine r_aload_n hC dX10_readStory_205 4 rfl ?_
                        refine r_getr hC 4 (ci := 10) rfl u10_in (by decide) mT_4_239 dX10_readStory_206 ka0 rfl rfl hbr ?_
                        obtain ⟨a240_, hb240, hk240, hn240⟩ := hs229.row krm 16 75 6 (by decide) (by decide)
                        refine r_getrN hC 16 (ci := 9) rfl u9_in (by decide) nF_16 dX10_readStory_209 krm rfl rfl hb240 ?_
                        refine r_aload_n hC dX10_readStory_212 4 rfl ?_
                        refine r_getr hC 4 (ci := 10) rfl u10_in (by decide) mT_4_239 dX10_readStory_213 ka0 rfl rfl hbr ?_
                        refine r_getiN hC 7 (ci := 9) rfl u9_in (by decide) nF_7 dX10_readStory_216 krm rfl rfl (fun x241_ e241 => ?_)
                        have r241 := hs229.rng krm rfl e241
                        have f241 : x241_.toInt = (I229 rm 7).toInt := by rw [e241]
                        have w241 : x241_ = x63_ := by rw [e241]; exact (Eq.trans (hf229.get krm rfl) (Eq.trans (hf225.get krm rfl) (Eq.trans (hf122.get krm rfl) (Eq.trans (hf65.get krm rfl) e63.symm))))
                        have wt241 : x241_.toInt = x63_.toInt := by rw [w241]
                        refine r_iload_n hC dX10_readStory_219 3 rfl ?_
                        refine x_iastore hC hk240 hn240 (by decide) rfl rfl dX10_readStory_220 (by omega) (by omega) (fun I242 eI242 => ?_)
                        have hs242 := hs229.put0 eI242 hk240 (rng_arr (by decide) _) rfl (xF_arr (by decide) _) (by decide)
                        have hF242 := hF229.put eI242 hk240 (inS_arr rfl _)
                        refine r_aload_n hC dX10_readStory_221 4 rfl ?_
                        refine r_getr hC 4 (ci := 10) rfl u10_in (by decide) mT_4_239 dX10_readStory_222 ka0 rfl rfl hbr ?_
                        obtain ⟨kd243, mo243, hb243, hk243, hn243, hB243, hK243, hN243⟩ := hs242.2.2.1 rm krm
                        refine r_getrN hC 17 (ci := 9) rfl u9_in (by decide) nF_17 dX10_readStory_225 krm rfl rfl hb243 ?_
                        refine r_aload_n hC dX10_readStory_228 4 rfl ?_
                        refine r_getr hC 4 (ci := 10) rfl u10_in (by decide) mT_4_239 dX10_readStory_229 ka0 rfl rfl hbr ?_
                        refine r_getiN hC 7 (ci := 9) rfl u9_in (by decide) nF_7 dX10_readStory_232 krm rfl rfl (fun x244_ e244 => ?_)
                        have r244 := hs242.rng krm rfl e244
                        have f244 : x244_.toInt = (I242 rm 7).toInt := by rw [e244]
                        have w244 : x244_ = x241_ := by rw [e244]; exact (Eq.trans (up2_kk eI242 hk240 krm (by decide)) e241.symm)
                        have wt244 : x244_.toInt = x241_.toInt := by rw [w244]
                        refine r_iload_n hC dX10_readStory_235 2 rfl ?_
                        refine x_iastore hC hk243 hn243 (by omega) (kOb (by omega)) (kAb (by omega)) dX10_readStory_236 (by omega) (by omega) (fun I245 eI245 => ?_)
                        have hs245 : Sf K len I245 R := hs242.putK (rm := rm) eI245 (Or.inl hk243) (by have h9 := clampI (i := x244_) (by omega); omega)
                        have hF245 := hF242.put eI245 hk243 (inS_big rfl (by omega) _)
                        refine r_aload_n hC dX10_readStory_237 4 rfl ?_
                        refine r_getr hC 4 (ci := 10) rfl u10_in (by decide) mT_4_239 dX10_readStory_238 ka0 rfl rfl hbr ?_
                        obtain ⟨a246_, hb246, hk246, hn246⟩ := hs245.row krm 18 76 6 (by decide) (by decide)
                        refine r_getrN hC 18 (ci := 9) rfl u9_in (by decide) nF_18 dX10_readStory_241 krm rfl rfl hb246 ?_
                        refine r_aload_n hC dX10_readStory_244 4 rfl ?_
                        refine r_getr hC 4 (ci := 10) rfl u10_in (by decide) mT_4_239 dX10_readStory_245 ka0 rfl rfl hbr ?_
                        refine r_getiN hC 7 (ci := 9) rfl u9_in (by decide) nF_7 dX10_readStory_248 krm rfl rfl (fun x247_ e247 => ?_)
                        have r247 := hs245.rng krm rfl e247
                        have f247 : x247_.toInt = (I245 rm 7).toInt := by rw [e247]
                        have w247 : x247_ = x244_ := by rw [e247]; exact (Eq.trans (up2_kk eI245 hk243 krm (by omega)) e244.symm)
                        have wt247 : x247_.toInt = x244_.toInt := by rw [w247]
                        refine r_iload_n hC dX10_readStory_251 1 rfl ?_
                        refine x_iastore hC hk246 hn246 (by decide) rfl rfl dX10_readStory_252 (by omega) (by omega) (fun I248 eI248 => ?_)
                        have hs248 := hs245.put0 eI248 hk246 (rng_arr (by decide) _) rfl (xF_arr (by decide) _) (by decide)
                        have hF248 := hF245.put eI248 hk246 (inS_arr rfl _)
                        refine r_aload_n hC dX10_readStory_253 4 rfl ?_
                        refine r_getr hC 4 (ci := 10) rfl u10_in (by decide) mT_4_239 dX10_readStory_254 ka0 rfl rfl hbr ?_
                        refine r_getrN hC 19 (ci := 9) rfl u9_in (by decide) nF_19 dX10_readStory_257 krm rfl rfl hB243 ?_
                        refine r_aload_n hC dX10_readStory_260 4 rfl ?_
                        refine r_getr hC 4 (ci := 10) rfl u10_in (by decide) mT_4_239 dX10_readStory_261 ka0 rfl rfl hbr ?_
                        refine r_getiN hC 7 (ci := 9) rfl u9_in (by decide) nF_7 dX10_readStory_264 krm rfl rfl (fun x249_ e249 => ?_)
                        have r249 := hs248.rng krm rfl e249
                        have f249 : x249_.toInt = (I248 rm 7).toInt := by rw [e249]
                        have w249 : x249_ = x247_ := by rw [e249]; exact (Eq.trans (up2_kk eI248 hk246 krm (by decide)) e247.symm)
                        have wt249 : x249_.toInt = x247_.toInt := by rw [w249]
                        refine r_iload hC dX10_readStory_267 0 rfl ?_
                        refine x_iastore hC hK243 hN243 (by omega) (kOb (by omega)) (kAb (by omega)) dX10_readStory_269 (by omega) (by omega) (fun I250 eI250 => ?_)
                        have hs250 : Sf K len I250 R := hs248.putK (rm := rm) eI250 (Or.inr hK243) (by have h9 := clampI (i := x249_) (by omega); omega)
                        have hF250 := hF248.put eI250 hK243 (inS_big rfl (by omega) _)
                        refine r_aload_n hC dX10_readStory_270 4 rfl ?_
                        refine r_getr hC 4 (ci := 10) rfl u10_in (by decide) mT_4_239 dX10_readStory_271 ka0 rfl rfl hbr ?_
                        refine r_dup hC dX10_readStory_274 rfl ?_
                        refine r_getiN hC 7 (ci := 9) rfl u9_in (by decide) nF_7 dX10_readStory_275 krm rfl rfl (fun x251_ e251 => ?_)
                        have r251 := hs250.rng krm rfl e251
                        have f251 : x251_.toInt = (I250 rm 7).toInt := by rw [e251]
                        have w251 : x251_ = x249_ := by rw [e251]; exact (Eq.trans (up2_kk eI250 hK243 krm (by omega)) e249.symm)
                        have wt251 : x251_.toInt = x249_.toInt := by rw [w251]
                        refine r_iconst hC (v := (1)) dX10_readStory_278 (by decide) (by decide) (fun x252_ e252 t252 => ?_)
                        refine r_iadd hC dX10_readStory_279 (fun x253_ e253 => ?_)
                        try have t253 : x253_.toInt = x251_.toInt + x252_.toInt := by rw [e253]; exact ti_add (by omega) (by omega)
                        refine r_putiN hC 7 (ci := 9) rfl u9_in tyX9_ok nmX9 (by decide) nF_7 rfl rfl rfl dX10_readStory_280 krm rfl rfl (fun I254 eI254 => ?_)
                        have hs254 : Sf K len I254 R := hs250.putA7 eI254 krm hb243 hB243 (by omega) (by omega) (j := x244_.toNatClampNeg) (by have h9 := clampI (i := x244_) (by omega); omega) (by omega) (by rw [(show I250 kd243 x244_.toNatClampNeg = x221_ from (Eq.trans (up2_kk eI250 hK243 hk243 (by omega)) (Eq.trans (up2_kk eI248 hk246 hk243 (by omega)) (by rw [eI245]; exact up2_self _ _ _ _)))), cl_eq (show x244_.toInt = x249_.toInt by omega), (show I250 mo243 x249_.toNatClampNeg = x236_ from (by rw [eI250]; exact up2_self _ _ _ _))]; omega)
                        have hF254 := hF250.put eI254 krm rfl
                        have hG3 : I254 rm 3 = G3 := (Eq.trans (up2_at (Or.inr (by decide)) eI254) (Eq.trans (up2_kk eI250 hK243 krm (by omega)) (Eq.trans (up2_kk eI248 hk246 krm (by decide)) (Eq.trans (up2_kk eI245 hk243 krm (by omega)) (Eq.trans (up2_kk eI242 hk240 krm (by decide)) (Eq.trans (hf229.get krm rfl) (Eq.trans (hf225.get krm rfl) (Eq.trans (hf122.get krm rfl) (Eq.trans (hf65.get krm rfl) (Eq.trans (hf4.get krm rfl) eG3.symm))))))))))
                        have hG3t : (I254 rm 3).toInt = G3.toInt := congrArg Int32.toInt hG3
                        have hG4 : I254 rm 4 = G4 := (Eq.trans (up2_at (Or.inr (by decide)) eI254) (Eq.trans (up2_kk eI250 hK243 krm (by omega)) (Eq.trans (up2_kk eI248 hk246 krm (by decide)) (Eq.trans (up2_kk eI245 hk243 krm (by omega)) (Eq.trans (up2_kk eI242 hk240 krm (by decide)) (Eq.trans (hf229.get krm rfl) (Eq.trans (hf225.get krm rfl) (Eq.trans (hf122.get krm rfl) (Eq.trans (hf65.get krm rfl) (Eq.trans (hf4.get krm rfl) eG4.symm))))))))))
                        have hG4t : (I254 rm 4).toInt = G4.toInt := congrArg Int32.toInt hG4
                        have hG7 : I254 rm 7 = x253_ := (by rw [eI254]; exact up2_self _ _ _ _)
                        have hG7t : (I254 rm 7).toInt = x253_.toInt := congrArg Int32.toInt hG7
                        have hG8 : I254 rm 8 = G8 := (Eq.trans (up2_at (Or.inr (by decide)) eI254) (Eq.trans (up2_kk eI250 hK243 krm (by omega)) (Eq.trans (up2_kk eI248 hk246 krm (by decide)) (Eq.trans (up2_kk eI245 hk243 krm (by omega)) (Eq.trans (up2_kk eI242 hk240 krm (by decide)) (Eq.trans (hf229.get krm rfl) (Eq.trans (hf225.get krm rfl) (Eq.trans (hf122.get krm rfl) (Eq.trans (hf65.get krm rfl) (Eq.trans (hf4.get krm rfl) eG8.symm))))))))))
                        have hG8t : (I254 rm 8).toInt = G8.toInt := congrArg Int32.toInt hG8
                        have hG9 : I254 rm 9 = G9 := (Eq.trans (up2_at (Or.inr (by decide)) eI254) (Eq.trans (up2_kk eI250 hK243 krm (by omega)) (Eq.trans (up2_kk eI248 hk246 krm (by decide)) (Eq.trans (up2_kk eI245 hk243 krm (by omega)) (Eq.trans (up2_kk eI242 hk240 krm (by decide)) (Eq.trans (hf229.get krm rfl) (Eq.trans (hf225.get krm rfl) (Eq.trans (hf122.get krm rfl) (Eq.trans (hf65.get krm rfl) (Eq.trans (hf4.get krm rfl) eG9.symm))))))))))
                        have hG9t : (I254 rm 9).toInt = G9.toInt := congrArg Int32.toInt hG9
                        have hGN : I254 rm 10 = N1 := (Eq.trans (up2_at (Or.inr (by decide)) eI254) (Eq.trans (up2_kk eI250 hK243 krm (by omega)) (Eq.trans (up2_kk eI248 hk246 krm (by decide)) (Eq.trans (up2_kk eI245 hk243 krm (by omega)) (Eq.trans (up2_kk eI242 hk240 krm (by decide)) (Eq.trans (hf229.get krm rfl) (Eq.trans (hf225.get krm rfl) (Eq.trans (hf122.get krm rfl) eN1.symm))))))))
                        have hGNt : (I254 rm 10).toInt = N1.toInt := congrArg Int32.toInt hGN
                        have hv8 : I254 a0 8 = A9 := (Eq.trans (up2_kk eI254 krm ka0 (by decide)) (Eq.trans (up2_kk eI250 hK243 ka0 (by omega)) (Eq.trans (up2_kk eI248 hk246 ka0 (by decide)) (Eq.trans (up2_kk eI245 hk243 ka0 (by omega)) (Eq.trans (up2_kk eI242 hk240 ka0 (by decide)) eA9.symm)))))
                        have hv8t : (I254 a0 8).toInt = A9.toInt := congrArg Int32.toInt hv8
                        have hv9 : I254 a0 9 = x237_ := (Eq.trans (up2_kk eI254 krm ka0 (by decide)) (Eq.trans (up2_kk eI250 hK243 ka0 (by omega)) (Eq.trans (up2_kk eI248 hk246 ka0 (by decide)) (Eq.trans (up2_kk eI245 hk243 ka0 (by omega)) (Eq.trans (up2_kk eI242 hk240 ka0 (by decide)) e237.symm)))))
                        have hv9t : (I254 a0 9).toInt = x237_.toInt := congrArg Int32.toInt hv9
                        exact r_vret hC hQ hlk hr (by decide) (by decide) dX10_readStory_283 ⟨_, _, rfl, rfl, ⟨hs254, hF254, hFJ229, (by first | (left; omega) | (right; omega)), (by omega), (by omega), (by omega)⟩⟩
                      · have hG3 : I229 rm 3 = G3 := (Eq.trans (hf229.get krm rfl) (Eq.trans (hf225.get krm rfl) (Eq.trans (hf122.get krm rfl) (Eq.trans (hf65.get krm rfl) (Eq.trans (hf4.get krm rfl) eG3.symm)))))
                        have hG3t : (I229 rm 3).toInt = G3.toInt := congrArg Int32.toInt hG3
                        have hG4 : I229 rm 4 = G4 := (Eq.trans (hf229.get krm rfl) (Eq.trans (hf225.get krm rfl) (Eq.trans (hf122.get krm rfl) (Eq.trans (hf65.get krm rfl) (Eq.trans (hf4.get krm rfl) eG4.symm)))))
                        have hG4t : (I229 rm 4).toInt = G4.toInt := congrArg Int32.toInt hG4
                        have hG7 : I229 rm 7 = x63_ := (Eq.trans (hf229.get krm rfl) (Eq.trans (hf225.get krm rfl) (Eq.trans (hf122.get krm rfl) (Eq.trans (hf65.get krm rfl) e63.symm))))
                        have hG7t : (I229 rm 7).toInt = x63_.toInt := congrArg Int32.toInt hG7
                        have hG8 : I229 rm 8 = G8 := (Eq.trans (hf229.get krm rfl) (Eq.trans (hf225.get krm rfl) (Eq.trans (hf122.get krm rfl) (Eq.trans (hf65.get krm rfl) (Eq.trans (hf4.get krm rfl) eG8.symm)))))
                        have hG8t : (I229 rm 8).toInt = G8.toInt := congrArg Int32.toInt hG8
                        have hG9 : I229 rm 9 = G9 := (Eq.trans (hf229.get krm rfl) (Eq.trans (hf225.get krm rfl) (Eq.trans (hf122.get krm rfl) (Eq.trans (hf65.get krm rfl) (Eq.trans (hf4.get krm rfl) eG9.symm)))))
                        have hG9t : (I229 rm 9).toInt = G9.toInt := congrArg Int32.toInt hG9
                        have hGN : I229 rm 10 = N1 := (Eq.trans (hf229.get krm rfl) (Eq.trans (hf225.get krm rfl) (Eq.trans (hf122.get krm rfl) eN1.symm)))
                        have hGNt : (I229 rm 10).toInt = N1.toInt := congrArg Int32.toInt hGN
                        have hv8 : I229 a0 8 = A9 := eA9.symm
                        have hv8t : (I229 a0 8).toInt = A9.toInt := congrArg Int32.toInt hv8
                        have hv9 : I229 a0 9 = x237_ := e237.symm
                        have hv9t : (I229 a0 9).toInt = x237_.toInt := congrArg Int32.toInt hv9
                        exact r_vret hC hQ hlk hr (by decide) (by decide) dX10_readStory_204 ⟨_, _, rfl, rfl, ⟨hs229, hF229, hFJ229, (by first | (left; omega) | (right; omega)), (by omega), (by omega), (by omega)⟩⟩
                    · replace k229_1 := k229_1 sf229
                      clear k229_0 md228 sf225
                      refine r_istore_n hC (lv' := [(3, .int x229_), (2, .int x221_), (1, .int x122_), (0, .ref a0)]) dX10_readStory_137 (by decide) rfl ?_
                      refine r_iload_n hC dX10_readStory_138 1 rfl ?_
                      refine r_iconst hC (v := (2)) dX10_readStory_139 (by decide) (by decide) (fun x255_ e255 t255 => ?_)
                      refine r_icmp_ne hC (tgt := 156) dX10_readStory_140 (by decide) (fun c256 => ?_) (fun c256 => ?_)
                      rotate_left
                      · exfalso; omega
                      refine r_iload_n hC dX10_readStory_156 1 rfl ?_
                      refine r_iconst hC (v := (3)) dX10_readStory_157 (by decide) (by decide) (fun x257_ e257 t257 => ?_)
                      refine r_icmp_ne hC (tgt := 175) dX10_readStory_158 (by decide) (fun c258 => ?_) (fun c258 => ?_)
                      rotate_left
                      · exfalso; omega
                      refine r_iload_n hC dX10_readStory_175 1 rfl ?_
                      refine r_iconst hC (v := (4)) dX10_readStory_176 (by decide) (by decide) (fun x259_ e259 t259 => ?_)
                      refine r_icmp_ne hC (tgt := 193) dX10_readStory_177 (by decide) (fun c260 => ?_) (fun c260 => ?_)
                      rotate_left
                      · exfalso; omega
                      refine r_iconst hC (v := (0)) dX10_readStory_193 (by decide) (by decide) (fun x261_ e261 t261 => ?_)
                      refine r_istore hC (lv' := [(4, .int x261_), (3, .int x229_), (2, .int x221_), (1, .int x122_), (0, .ref a0)]) dX10_readStory_194 (by decide) rfl ?_
                      refine r_aload_n hC dX10_readStory_196 4 rfl ?_
                      obtain ⟨A9, eA9⟩ : ∃ z : Int32, z = I229 a0 8 := ⟨_, rfl⟩
                      have fA9 : A9.toInt = (I229 a0 8).toInt := by rw [eA9]
                      have rA9 := hs229.rng ka0 rfl eA9
                      refine r_geti hC 9 (ci := 10) rfl u10_in (by decide) mT_5_4 dX10_readStory_197 ka0 rfl rfl (fun x262_ e262 => ?_)
                      have f262 : x262_.toInt = (I229 a0 9).toInt := by rw [e262]
                      refine r_iconst hC (v := (5)) dX10_readStory_200 (by decide) (by decide) (fun x263_ e263 t263 => ?_)
                      refine r_icmp_ne hC (tgt := 205) dX10_readStory_201 (by decide) (fun c264 => ?_) (fun c264 => ?_)
                      · refine r_aload_n hC dX10_readStory_205 4 rfl ?_
                        refine r_getr hC 4 (ci := 10) rfl u10_in (by decide) mT_4_239 dX10_readStory_206 ka0 rfl rfl hbr ?_
                        obtain ⟨a265_, hb265, hk265, hn265⟩ := hs229.row krm 16 75 6 (by decide) (by decide)
                        refine r_getrN hC 16 (ci := 9) rfl u9_in (by decide) nF_16 dX10_readStory_209 krm rfl rfl hb265 ?_
                        refine r_aload_n hC dX10_readStory_212 4 rfl ?_
                        refine r_getr hC 4 (ci := 10) rfl u10_in (by decide) mT_4_239 dX10_readStory_213 ka0 rfl rfl hbr ?_
                        refine r_getiN hC 7 (ci := 9) rfl u9_in (by decide) nF_7 dX10_readStory_216 krm rfl rfl (fun x266_ e266 => ?_)
                        have r266 := hs229.rng krm rfl e266
                        have f266 : x266_.toInt = (I229 rm 7).toInt := by rw [e266]
                        have w266 : x266_ = x63_ := by rw [e266]; exact (Eq.trans (hf229.get krm rfl) (Eq.trans (hf225.get krm rfl) (Eq.trans (hf122.get krm rfl) (Eq.trans (hf65.get krm rfl) e63.symm))))
                        have wt266 : x266_.toInt = x63_.toInt := by rw [w266]
                        refine r_iload_n hC dX10_readStory_219 3 rfl ?_
                        refine x_iastore hC hk265 hn265 (by decide) rfl rfl dX10_readStory_220 (by omega) (by omega) (fun I267 eI267 => ?_)
                        have hs267 := hs229.put0 eI267 hk265 (rng_arr (by decide) _) rfl (xF_arr (by decide) _) (by decide)
                        have hF267 := hF229.put eI267 hk265 (inS_arr rfl _)
                        refine r_aload_n hC dX10_readStory_221 4 rfl ?_
                        refine r_getr hC 4 (ci := 10) rfl u10_in (by decide) mT_4_239 dX10_readStory_222 ka0 rfl rfl hbr ?_
                        obtain ⟨kd268, mo268, hb268, hk268, hn268, hB268, hK268, hN268⟩ := hs267.2.2.1 rm krm
                        refine r_getrN hC 17 (ci := 9) rfl u9_in (by decide) nF_17 dX10_readStory_225 krm rfl rfl hb268 ?_
                        refine r_aload_n hC dX10_readStory_228 4 rfl ?_
                        refine r_getr hC 4 (ci := 10) rfl u10_in (by decide) mT_4_239 dX10_readStory_229 ka0 rfl rfl hbr ?_
                        refine r_getiN hC 7 (ci := 9) rfl u9_in (by decide) nF_7 dX10_readStory_232 krm rfl rfl (fun x269_ e269 => ?_)
                        have r269 := hs267.rng krm rfl e269
                        have f269 : x269_.toInt = (I267 rm 7).toInt := by rw [e269]
                        have w269 : x269_ = x266_ := by rw [e269]; exact (Eq.trans (up2_kk eI267 hk265 krm (by decide)) e266.symm)
                        have wt269 : x269_.toInt = x266_.toInt := by rw [w269]
                        refine r_iload_n hC dX10_readStory_235 2 rfl ?_
                        refine x_iastore hC hk268 hn268 (by omega) (kOb (by omega)) (kAb (by omega)) dX10_readStory_236 (by omega) (by omega) (fun I270 eI270 => ?_)
                        have hs270 : Sf K len I270 R := hs267.putK (rm := rm) eI270 (Or.inl hk268) (by have h9 := clampI (i := x269_) (by omega); omega)
                        have hF270 := hF267.put eI270 hk268 (inS_big rfl (by omega) _)
                        refine r_aload_n hC dX10_readStory_237 4 rfl ?_
                        refine r_getr hC 4 (ci := 10) rfl u10_in (by decide) mT_4_239 dX10_readStory_238 ka0 rfl rfl hbr ?_
                        obtain ⟨a271_, hb271, hk271, hn271⟩ := hs270.row krm 18 76 6 (by decide) (by decide)
                        refine r_getrN hC 18 (ci := 9) rfl u9_in (by decide) nF_18 dX10_readStory_241 krm rfl rfl hb271 ?_
                        refine r_aload_n hC dX10_readStory_244 4 rfl ?_
                        refine r_getr hC 4 (ci := 10) rfl u10_in (by decide) mT_4_239 dX10_readStory_245 ka0 rfl rfl hbr ?_
                        refine r_getiN hC 7 (ci := 9) rfl u9_in (by decide) nF_7 dX10_readStory_248 krm rfl rfl (fun x272_ e272 => ?_)
                        have r272 := hs270.rng krm rfl e272
                        have f272 : x272_.toInt = (I270 rm 7).toInt := by rw [e272]
                        have w272 : x272_ = x269_ := by rw [e272]; exact (Eq.trans (up2_kk eI270 hk268 krm (by omega)) e269.symm)
                        have wt272 : x272_.toInt = x269_.toInt := by rw [w272]
                        refine r_iload_n hC dX10_readStory_251 1 rfl ?_
                        refine x_iastore hC hk271 hn271 (by decide) rfl rfl dX10_readStory_252 (by omega) (by omega) (fun I273 eI273 => ?_)
                        have hs273 := hs270.put0 eI273 hk271 (rng_arr (by decide) _) rfl (xF_arr (by decide) _) (by decide)
                        have hF273 := hF270.put eI273 hk271 (inS_arr rfl _)
                        refine r_aload_n hC dX10_readStory_253 4 rfl ?_
                        refine r_getr hC 4 (ci := 10) rfl u10_in (by decide) mT_4_239 dX10_readStory_254 ka0 rfl rfl hbr ?_
                        refine r_getrN hC 19 (ci := 9) rfl u9_in (by decide) nF_19 dX10_readStory_257 krm rfl rfl hB268 ?_
                        refine r_aload_n hC dX10_readStory_260 4 rfl ?_
                        refine r_getr hC 4 (ci := 10) rfl u10_in (by decide) mT_4_239 dX10_readStory_261 ka0 rfl rfl hbr ?_
                        refine r_getiN hC 7 (ci := 9) rfl u9_in (by decide) nF_7 dX10_readStory_264 krm rfl rfl (fun x274_ e274 => ?_)
                        have r274 := hs273.rng krm rfl e274
                        have f274 : x274_.toInt = (I273 rm 7).toInt := by rw [e274]
                        have w274 : x274_ = x272_ := by rw [e274]; exact (Eq.trans (up2_kk eI273 hk271 krm (by decide)) e272.symm)
                        have wt274 : x274_.toInt = x272_.toInt := by rw [w274]
                        refine r_iload hC dX10_readStory_267 0 rfl ?_
                        refine x_iastore hC hK268 hN268 (by omega) (kOb (by omega)) (kAb (by omega)) dX10_readStory_269 (by omega) (by omega) (fun I275 eI275 => ?_)
                        have hs275 : Sf K len I275 R := hs273.putK (rm := rm) eI275 (Or.inr hK268) (by have h9 := clampI (i := x274_) (by omega); omega)
                        have hF275 := hF273.put eI275 hK268 (inS_big rfl (by omega) _)
                        refine r_aload_n hC dX10_readStory_270 4 rfl ?_
                        refine r_getr hC 4 (ci := 10) rfl u10_in (by decide) mT_4_239 dX10_readStory_271 ka0 rfl rfl hbr ?_
                        refine r_dup hC dX10_readStory_274 rfl ?_
                        refine r_getiN hC 7 (ci := 9) rfl u9_in (by decide) nF_7 dX10_readStory_275 krm rfl rfl (fun x276_ e276 => ?_)
                        have r276 := hs275.rng krm rfl e276
                        have f276 : x276_.toInt = (I275 rm 7).toInt := by rw [e276]
                        have w276 : x276_ = x274_ := by rw [e276]; exact (Eq.trans (up2_kk eI275 hK268 krm (by omega)) e274.symm)
                        have wt276 : x276_.toInt = x274_.toInt := by rw [w276]
                        refine r_iconst hC (v := (1)) dX10_readStory_278 (by decide) (by decide) (fun x277_ e277 t277 => ?_)
                        refine r_iadd hC dX10_readStory_279 (fun x278_ e278 => ?_)
                        try have t278 : x278_.toInt = x276_.toInt + x277_.toInt := by rw [e278]; exact ti_add (by omega) (by omega)
                        refine r_putiN hC 7 (ci := 9) rfl u9_in tyX9_ok nmX9 (by decide) nF_7 rfl rfl rfl dX10_readStory_280 krm rfl rfl (fun I279 eI279 => ?_)
                        have hs279 : Sf K len I279 R := hs275.putA7 eI279 krm hb268 hB268 (by omega) (by omega) (j := x269_.toNatClampNeg) (by have h9 := clampI (i := x269_) (by omega); omega) (by omega) (by rw [(show I275 kd268 x269_.toNatClampNeg = x221_ from (Eq.trans (up2_kk eI275 hK268 hk268 (by omega)) (Eq.trans (up2_kk eI273 hk271 hk268 (by omega)) (by rw [eI270]; exact up2_self _ _ _ _)))), cl_eq (show x269_.toInt = x274_.toInt by omega), (show I275 mo268 x274_.toNatClampNeg = x261_ from (by rw [eI275]; exact up2_self _ _ _ _))]; omega)
                        have hF279 := hF275.put eI279 krm rfl
                        have hG3 : I279 rm 3 = G3 := (Eq.trans (up2_at (Or.inr (by decide)) eI279) (Eq.trans (up2_kk eI275 hK268 krm (by omega)) (Eq.trans (up2_kk eI273 hk271 krm (by decide)) (Eq.trans (up2_kk eI270 hk268 krm (by omega)) (Eq.trans (up2_kk eI267 hk265 krm (by decide)) (Eq.trans (hf229.get krm rfl) (Eq.trans (hf225.get krm rfl) (Eq.trans (hf122.get krm rfl) (Eq.trans (hf65.get krm rfl) (Eq.trans (hf4.get krm rfl) eG3.symm))))))))))
                        have hG3t : (I279 rm 3).toInt = G3.toInt := congrArg Int32.toInt hG3
                        have hG4 : I279 rm 4 = G4 := (Eq.trans (up2_at (Or.inr (by decide)) eI279) (Eq.trans (up2_kk eI275 hK268 krm (by omega)) (Eq.trans (up2_kk eI273 hk271 krm (by decide)) (Eq.trans (up2_kk eI270 hk268 krm (by omega)) (Eq.trans (up2_kk eI267 hk265 krm (by decide)) (Eq.trans (hf229.get krm rfl) (Eq.trans (hf225.get krm rfl) (Eq.trans (hf122.get krm rfl) (Eq.trans (hf65.get krm rfl) (Eq.trans (hf4.get krm rfl) eG4.symm))))))))))
                        have hG4t : (I279 rm 4).toInt = G4.toInt := congrArg Int32.toInt hG4
                        have hG7 : I279 rm 7 = x278_ := (by rw [eI279]; exact up2_self _ _ _ _)
                        have hG7t : (I279 rm 7).toInt = x278_.toInt := congrArg Int32.toInt hG7
                        have hG8 : I279 rm 8 = G8 := (Eq.trans (up2_at (Or.inr (by decide)) eI279) (Eq.trans (up2_kk eI275 hK268 krm (by omega)) (Eq.trans (up2_kk eI273 hk271 krm (by decide)) (Eq.trans (up2_kk eI270 hk268 krm (by omega)) (Eq.trans (up2_kk eI267 hk265 krm (by decide)) (Eq.trans (hf229.get krm rfl) (Eq.trans (hf225.get krm rfl) (Eq.trans (hf122.get krm rfl) (Eq.trans (hf65.get krm rfl) (Eq.trans (hf4.get krm rfl) eG8.symm))))))))))
                        have hG8t : (I279 rm 8).toInt = G8.toInt := congrArg Int32.toInt hG8
                        have hG9 : I279 rm 9 = G9 := (Eq.trans (up2_at (Or.inr (by decide)) eI279) (Eq.trans (up2_kk eI275 hK268 krm (by omega)) (Eq.trans (up2_kk eI273 hk271 krm (by decide)) (Eq.trans (up2_kk eI270 hk268 krm (by omega)) (Eq.trans (up2_kk eI267 hk265 krm (by decide)) (Eq.trans (hf229.get krm rfl) (Eq.trans (hf225.get krm rfl) (Eq.trans (hf122.get krm rfl) (Eq.trans (hf65.get krm rfl) (Eq.trans (hf4.get krm rfl) eG9.symm))))))))))
                        have hG9t : (I279 rm 9).toInt = G9.toInt := congrArg Int32.toInt hG9
                        have hGN : I279 rm 10 = N1 := (Eq.trans (up2_at (Or.inr (by decide)) eI279) (Eq.trans (up2_kk eI275 hK268 krm (by omega)) (Eq.trans (up2_kk eI273 hk271 krm (by decide)) (Eq.trans (up2_kk eI270 hk268 krm (by omega)) (Eq.trans (up2_kk eI267 hk265 krm (by decide)) (Eq.trans (hf229.get krm rfl) (Eq.trans (hf225.get krm rfl) (Eq.trans (hf122.get krm rfl) eN1.symm))))))))
                        have hGNt : (I279 rm 10).toInt = N1.toInt := congrArg Int32.toInt hGN
                        have hv8 : I279 a0 8 = A9 := (Eq.trans (up2_kk eI279 krm ka0 (by decide)) (Eq.trans (up2_kk eI275 hK268 ka0 (by omega)) (Eq.trans (up2_kk eI273 hk271 ka0 (by decide)) (Eq.trans (up2_kk eI270 hk268 ka0 (by omega)) (Eq.trans (up2_kk eI267 hk265 ka0 (by decide)) eA9.symm)))))
                        have hv8t : (I279 a0 8).toInt = A9.toInt := congrArg Int32.toInt hv8
                        have hv9 : I279 a0 9 = x262_ := (Eq.trans (up2_kk eI279 krm ka0 (by decide)) (Eq.trans (up2_kk eI275 hK268 ka0 (by omega)) (Eq.trans (up2_kk eI273 hk271 ka0 (by decide)) (Eq.trans (up2_kk eI270 hk268 ka0 (by omega)) (Eq.trans (up2_kk eI267 hk265 ka0 (by decide)) e262.symm)))))
                        have hv9t : (I279 a0 9).toInt = x262_.toInt := congrArg Int32.toInt hv9
                        exact r_vret hC hQ hlk hr (by decide) (by decide) dX10_readStory_283 ⟨_, _, rfl, rfl, ⟨hs279, hF279, hFJ229, (by first | (left; omega) | (right; omega)), (by omega), (by omega), (by omega)⟩⟩
                      · have hG3 : I229 rm 3 = G3 := (Eq.trans (hf229.get krm rfl) (Eq.trans (hf225.get krm rfl) (Eq.trans (hf122.get krm rfl) (Eq.trans (hf65.get krm rfl) (Eq.trans (hf4.get krm rfl) eG3.symm)))))
                        have hG3t : (I229 rm 3).toInt = G3.toInt := congrArg Int32.toInt hG3
                        have hG4 : I229 rm 4 = G4 := (Eq.trans (hf229.get krm rfl) (Eq.trans (hf225.get krm rfl) (Eq.trans (hf122.get krm rfl) (Eq.trans (hf65.get krm rfl) (Eq.trans (hf4.get krm rfl) eG4.symm)))))
                        have hG4t : (I229 rm 4).toInt = G4.toInt := congrArg Int32.toInt hG4
                        have hG7 : I229 rm 7 = x63_ := (Eq.trans (hf229.get krm rfl) (Eq.trans (hf225.get krm rfl) (Eq.trans (hf122.get krm rfl) (Eq.trans (hf65.get krm rfl) e63.symm))))
                        have hG7t : (I229 rm 7).toInt = x63_.toInt := congrArg Int32.toInt hG7
                        have hG8 : I229 rm 8 = G8 := (Eq.trans (hf229.get krm rfl) (Eq.trans (hf225.get krm rfl) (Eq.trans (hf122.get krm rfl) (Eq.trans (hf65.get krm rfl) (Eq.trans (hf4.get krm rfl) eG8.symm)))))
                        have hG8t : (I229 rm 8).toInt = G8.toInt := congrArg Int32.toInt hG8
                        have hG9 : I229 rm 9 = G9 := (Eq.trans (hf229.get krm rfl) (Eq.trans (hf225.get krm rfl) (Eq.trans (hf122.get krm rfl) (Eq.trans (hf65.get krm rfl) (Eq.trans (hf4.get krm rfl) eG9.symm)))))
                        have hG9t : (I229 rm 9).toInt = G9.toInt := congrArg Int32.toInt hG9
                        have hGN : I229 rm 10 = N1 := (Eq.trans (hf229.get krm rfl) (Eq.trans (hf225.get krm rfl) (Eq.trans (hf122.get krm rfl) eN1.symm)))
                        have hGNt : (I229 rm 10).toInt = N1.toInt := congrArg Int32.toInt hGN
                        have hv8 : I229 a0 8 = A9 := eA9.symm
                        have hv8t : (I229 a0 8).toInt = A9.toInt := congrArg Int32.toInt hv8
                        have hv9 : I229 a0 9 = x262_ := e262.symm
                        have hv9t : (I229 a0 9).toInt = x262_.toInt := congrArg Int32.toInt hv9
                        exact r_vret hC hQ hlk hr (by decide) (by decide) dX10_readStory_204 ⟨_, _, rfl, rfl, ⟨hs229, hF229, hFJ229, (by first | (left; omega) | (right; omega)), (by omega), (by omega), (by omega)⟩⟩
                · replace k180_2 := k180_2 c181
                  refine r_iconst hC (v := (4)) dX10_readStory_96 (by decide) (by decide) (fun x280_ e280 t280 => ?_)
                  refine r_goto hC (tgt := 115) dX10_readStory_97 (by decide) ?_
                  refine r_istore_n hC (lv' := [(2, .int x280_), (1, .int x122_), (0, .ref a0)]) dX10_readStory_115 (by decide) rfl ?_
                  refine r_iload_n hC dX10_readStory_116 0 rfl ?_
                  refine r_iconst hC (v := (-1)) dX10_readStory_117 (by decide) (by decide) (fun x281_ e281 t281 => ?_)
                  refine r_icmp_ne hC (tgt := 126) dX10_readStory_118 (by decide) (fun c282 => ?_) (fun c282 => ?_)
                  rotate_left
                  · exfalso; omega
                  refine r_aload_n hC dX10_readStory_126 2 rfl ?_
                  have md283 : (I122 a0 9).toInt ≠ 5 := by omega
                  refine r_callV hC (As := []) (rest := []) (ci := 10) (c_X10_goesOn g (xL X) K len I122 J122 R hs122 a0 ka0) mT_5_199 mT_1_10 mT_5_196 mT_5_198 mP_49 okX10_goesOn ⟨by decide, by decide⟩ rfl (by show kO (K a0) = _; rw [ka0]; rfl) rfl rfl (Nat.le_of_ble_eq_true rfl) ⟨by decide, by decide⟩ dX10_readStory_127 (aV2 (F := fun st M => P g X 5 130 [(2, .int x280_), (1, .int x122_), (0, .ref a0)] st _ _ M) (M := (K, len, I122, J122, R)) fun I284 J284 h284 => ?_)
                  obtain ⟨hs284, hf284, hfj284, k284_0, k284_1, k284_2, k284_3⟩ := h284
                  show P g X 5 130 [(2, .int x280_), (1, .int x122_), (0, .ref a0)] [] _ _ (K, len, I284, J284, R)
                  have hF284 : Fr K [(10, 7), (10, 10), (11, 8), (11, 9), (11, 10), (11, 11), (11, 12), (11, 13), (75, 999), (76, 999), (83, 999), (84, 999), (1000, 999)] I I284 := hF122.trans hf284 rfl rfl
                  have hFJ284 : Fr K [(11, 14), (82, 999)] J J284 := hFJ122.trans hfj284 rfl rfl
                  clear k122_3
                  have sf284 := k284_1 md283
                  replace k284_3 := k284_3 md283
                  clear k284_0 k284_1 md283 sf122
                  refine r_aload_n hC dX10_readStory_130 2 rfl ?_
                  refine r_iconst hC (v := (0)) dX10_readStory_131 (by decide) (by decide) (fun x285_ e285 t285 => ?_)
                  refine r_bipush hC (v := (99)) dX10_readStory_132 (by decide) (by decide) (fun x286_ e286 t286 => ?_)
                  have md287 : (I284 a0 9).toInt ≠ 5 := by omega
                  refine r_callV hC (As := [.int x285_, .int x286_]) (rest := []) (ci := 10) (c_X10_readWhole g (xL X) K len I284 J284 R hs284 a0 ka0 x285_ x286_) mT_6_5 mT_1_10 mT_6_2 mT_6_4 mP_57 okX10_readWhole ⟨by decide, by decide⟩ rfl (by show kO (K a0) = _; rw [ka0]; rfl) rfl rfl (Nat.le_of_ble_eq_true rfl) ⟨by decide, by decide⟩ dX10_readStory_134 (aI2 (F := fun st M => P g X 5 137 [(2, .int x280_), (1, .int x122_), (0, .ref a0)] st _ _ M) (M := (K, len, I284, J284, R)) fun x288_ I288 J288 h288 => ?_)
                  obtain ⟨hs288, hf288, hfj288, k288_0, k288_1, k288_2, k288_3⟩ := h288
                  show P g X 5 137 [(2, .int x280_), (1, .int x122_), (0, .ref a0)] [.int x288_] _ _ (K, len, I288, J288, R)
                  have hF288 : Fr K [(10, 7), (10, 10), (11, 8), (11, 9), (11, 10), (11, 11), (11, 12), (11, 13), (75, 999), (76, 999), (83, 999), (84, 999), (1000, 999)] I I288 := hF284.trans hf288 rfl rfl
                  have hFJ288 : Fr K [(11, 14), (82, 999)] J J288 := hFJ284.trans hfj288 rfl rfl
                  clear k284_3
                  by_cases sf288 : (I288 a0 9).toInt = 5
                  · clear k288_0 k288_1 k288_3 md287 sf284
                    refine r_istore_n hC (lv' := [(3, .int x288_), (2, .int x280_), (1, .int x122_), (0, .ref a0)]) dX10_readStory_137 (by decide) rfl ?_
                    refine r_iload_n hC dX10_readStory_138 1 rfl ?_
                    refine r_iconst hC (v := (2)) dX10_readStory_139 (by decide) (by decide) (fun x289_ e289 t289 => ?_)
                    refine r_icmp_ne hC (tgt := 156) dX10_readStory_140 (by decide) (fun c290 => ?_) (fun c290 => ?_)
                    rotate_left
                    · exfalso; omega
                    refine r_iload_n hC dX10_readStory_156 1 rfl ?_
                    refine r_iconst hC (v := (3)) dX10_readStory_157 (by decide) (by decide) (fun x291_ e291 t291 => ?_)
                    refine r_icmp_ne hC (tgt := 175) dX10_readStory_158 (by decide) (fun c292 => ?_) (fun c292 => ?_)
                    rotate_left
                    · exfalso; omega
                    refine r_iload_n hC dX10_readStory_175 1 rfl ?_
                    refine r_iconst hC (v := (4)) dX10_readStory_176 (by decide) (by decide) (fun x293_ e293 t293 => ?_)
                    refine r_icmp_ne hC (tgt := 193) dX10_readStory_177 (by decide) (fun c294 => ?_) (fun c294 => ?_)
                    · exfalso; omega
                    refine r_aload_n hC dX10_readStory_180 3 rfl ?_
                    refine r_ldcwS hC (i := 54) (by decide) rfl rfl dX10_readStory_181 ?_
                    refine r_iconst hC (v := (1)) dX10_readStory_184 (by decide) (by decide) (fun x295_ e295 t295 => ?_)
                    refine r_bipush hC (v := (99)) dX10_readStory_185 (by decide) (by decide) (fun x296_ e296 t296 => ?_)
                    have md297 : (I288 a0 9).toInt = 5 := by omega
                    refine r_callV hC (As := [.ref (g.2.2.1 54), .int x295_, .int x296_]) (rest := []) (ci := 10) (c_X10_readPart g (xL X) K len I288 J288 R hs288 a0 ka0 54 (by decide) x295_ x296_) mT_6_1 mT_1_10 mT_5_238 mT_6_0 mP_56 okX10_readPart ⟨by decide, by decide⟩ rfl (by show kO (K a0) = _; rw [ka0]; rfl) rfl rfl (Nat.le_of_ble_eq_true rfl) ⟨by decide, by decide⟩ dX10_readStory_187 (aI2 (F := fun st M => P g X 5 190 [(3, .int x288_), (2, .int x280_), (1, .int x122_), (0, .ref a0)] st _ _ M) (M := (K, len, I288, J288, R)) fun x298_ I298 J298 h298 => ?_)
                    obtain ⟨hs298, hf298, hfj298, k298_0, k298_1, k298_2, k298_3⟩ := h298
                    show P g X 5 190 [(3, .int x288_), (2, .int x280_), (1, .int x122_), (0, .ref a0)] [.int x298_] _ _ (K, len, I298, J298, R)
                    have hF298 : Fr K [(10, 7), (10, 10), (11, 8), (11, 9), (11, 10), (11, 11), (11, 12), (11, 13), (75, 999), (76, 999), (83, 999), (84, 999), (1000, 999)] I I298 := hF288.trans hf298 rfl rfl
                    have hFJ298 : Fr K [(11, 14), (82, 999)] J J298 := hFJ288.trans hfj298 rfl rfl
                    have sf298 := k298_0 md297
                    clear k298_0 k298_1 k298_3 md297 sf288
                    refine r_goto hC (tgt := 194) dX10_readStory_190 (by decide) ?_
                    refine r_istore hC (lv' := [(4, .int x298_), (3, .int x288_), (2, .int x280_), (1, .int x122_), (0, .ref a0)]) dX10_readStory_194 (by decide) rfl ?_
                    refine r_aload_n hC dX10_readStory_196 4 rfl ?_
                    obtain ⟨A9, eA9⟩ : ∃ z : Int32, z = I298 a0 8 := ⟨_, rfl⟩
                    have fA9 : A9.toInt = (I298 a0 8).toInt := by rw [eA9]
                    have rA9 := hs298.rng ka0 rfl eA9
                    refine r_geti hC 9 (ci := 10) rfl u10_in (by decide) mT_5_4 dX10_readStory_197 ka0 rfl rfl (fun x299_ e299 => ?_)
                    have f299 : x299_.toInt = (I298 a0 9).toInt := by rw [e299]
                    refine r_iconst hC (v := (5)) dX10_readStory_200 (by decide) (by decide) (fun x300_ e300 t300 => ?_)
                    refine r_icmp_ne hC (tgt := 205) dX10_readStory_201 (by decide) (fun c301 => ?_) (fun c301 => ?_)
                    · refine r_aload_n hC dX10_readStory_205 4 rfl ?_
                      refine r_getr hC 4 (ci := 10) rfl u10_in (by decide) mT_4_239 dX10_readStory_206 ka0 rfl rfl hbr ?_
                      obtain ⟨a302_, hb302, hk302, hn302⟩ := hs298.row krm 16 75 6 (by decide) (by decide)
                      refine r_getrN hC 16 (ci := 9) rfl u9_in (by decide) nF_16 dX10_readStory_209 krm rfl rfl hb302 ?_
                      refine r_aload_n hC dX10_readStory_212 4 rfl ?_
                      refine r_getr hC 4 (ci := 10) rfl u10_in (by decide) mT_4_239 dX10_readStory_213 ka0 rfl rfl hbr ?_
                      refine r_getiN hC 7 (ci := 9) rfl u9_in (by decide) nF_7 dX10_readStory_216 krm rfl rfl (fun x303_ e303 => ?_)
                      have r303 := hs298.rng krm rfl e303
                      have f303 : x303_.toInt = (I298 rm 7).toInt := by rw [e303]
                      have w303 : x303_ = x63_ := by rw [e303]; exact (Eq.trans (hf298.get krm rfl) (Eq.trans (hf288.get krm rfl) (Eq.trans (hf284.get krm rfl) (Eq.trans (hf122.get krm rfl) (Eq.trans (hf65.get krm rfl) e63.symm)))))
                      have wt303 : x303_.toInt = x63_.toInt := by rw [w303]
                      refine r_iload_n hC dX10_readStory_219 3 rfl ?_
                      refine x_iastore hC hk302 hn302 (by decide) rfl rfl dX10_readStory_220 (by omega) (by omega) (fun I304 eI304 => ?_)
                      have hs304 := hs298.put0 eI304 hk302 (rng_arr (by decide) _) rfl (xF_arr (by decide) _) (by decide)
                      have hF304 := hF298.put eI304 hk302 (inS_arr rfl _)
                      refine r_aload_n hC dX10_readStory_221 4 rfl ?_
                      refine r_getr hC 4 (ci := 10) rfl u10_in (by decide) mT_4_239 dX10_readStory_222 ka0 rfl rfl hbr ?_
                      obtain ⟨kd305, mo305, hb305, hk305, hn305, hB305, hK305, hN305⟩ := hs304.2.2.1 rm krm
                      refine r_getrN hC 17 (ci := 9) rfl u9_in (by decide) nF_17 dX10_readStory_225 krm rfl rfl hb305 ?_
                      refine r_aload_n hC dX10_readStory_228 4 rfl ?_
                      refine r_getr hC 4 (ci := 10) rfl u10_in (by decide) mT_4_239 dX10_readStory_229 ka0 rfl rfl hbr ?_
                      refine r_getiN hC 7 (ci := 9) rfl u9_in (by decide) nF_7 dX10_readStory_232 krm rfl rfl (fun x306_ e306 => ?_)
                      have r306 := hs304.rng krm rfl e306
                      have f306 : x306_.toInt = (I304 rm 7).toInt := by rw [e306]
                      have w306 : x306_ = x303_ := by rw [e306]; exact (Eq.trans (up2_kk eI304 hk302 krm (by decide)) e303.symm)
                      have wt306 : x306_.toInt = x303_.toInt := by rw [w306]
                      refine r_iload_n hC dX10_readStory_235 2 rfl ?_
                      refine x_iastore hC hk305 hn305 (by omega) (kOb (by omega)) (kAb (by omega)) dX10_readStory_236 (by omega) (by omega) (fun I307 eI307 => ?_)
                      have hs307 : Sf K len I307 R := hs304.putK (rm := rm) eI307 (Or.inl hk305) (by have h9 := clampI (i := x306_) (by omega); omega)
                      have hF307 := hF304.put eI307 hk305 (inS_big rfl (by omega) _)
                      refine r_aload_n hC dX10_readStory_237 4 rfl ?_
                      refine r_getr hC 4 (ci := 10) rfl u10_in (by decide) mT_4_239 dX10_readStory_238 ka0 rfl rfl hbr ?_
                      obtain ⟨a308_, hb308, hk308, hn308⟩ := hs307.row krm 18 76 6 (by decide) (by decide)
                      refine r_getrN hC 18 (ci := 9) rfl u9_in (by decide) nF_18 dX10_readStory_241 krm rfl rfl hb308 ?_
                      refine r_aload_n hC dX10_readStory_244 4 rfl ?_
                      refine r_getr hC 4 (ci := 10) rfl u10_in (by decide) mT_4_239 dX10_readStory_245 ka0 rfl rfl hbr ?_
                      refine r_getiN hC 7 (ci := 9) rfl u9_in (by decide) nF_7 dX10_readStory_248 krm rfl rfl (fun x309_ e309 => ?_)
                      have r309 := hs307.rng krm rfl e309
                      have f309 : x309_.toInt = (I307 rm 7).toInt := by rw [e309]
                      have w309 : x309_ = x306_ := by rw [e309]; exact (Eq.trans (up2_kk eI307 hk305 krm (by omega)) e306.symm)
                      have wt309 : x309_.toInt = x306_.toInt := by rw [w309]
                      refine r_iload_n hC dX10_readStory_251 1 rfl ?_
                      refine x_iastore hC hk308 hn308 (by decide) rfl rfl dX10_readStory_252 (by omega) (by omega) (fun I310 eI310 => ?_)
                      have hs310 := hs307.put0 eI310 hk308 (rng_arr (by decide) _) rfl (xF_arr (by decide) _) (by decide)
                      have hF310 := hF307.put eI310 hk308 (inS_arr rfl _)
                      refine r_aload_n hC dX10_readStory_253 4 rfl ?_
                      refine r_getr hC 4 (ci := 10) rfl u10_in (by decide) mT_4_239 dX10_readStory_254 ka0 rfl rfl hbr ?_
                      refine r_getrN hC 19 (ci := 9) rfl u9_in (by decide) nF_19 dX10_readStory_257 krm rfl rfl hB305 ?_
                      refine r_aload_n hC dX10_readStory_260 4 rfl ?_
                      refine r_getr hC 4 (ci := 10) rfl u10_in (by decide) mT_4_239 dX10_readStory_261 ka0 rfl rfl hbr ?_
                      refine r_getiN hC 7 (ci := 9) rfl u9_in (by decide) nF_7 dX10_readStory_264 krm rfl rfl (fun x311_ e311 => ?_)
                      have r311 := hs310.rng krm rfl e311
                      have f311 : x311_.toInt = (I310 rm 7).toInt := by rw [e311]
                      have w311 : x311_ = x309_ := by rw [e311]; exact (Eq.trans (up2_kk eI310 hk308 krm (by decide)) e309.symm)
                      have wt311 : x311_.toInt = x309_.toInt := by rw [w311]
                      refine r_iload hC dX10_readStory_267 0 rfl ?_
                      refine x_iastore hC hK305 hN305 (by omega) (kOb (by omega)) (kAb (by omega)) dX10_readStory_269 (by omega) (by omega) (fun I312 eI312 => ?_)
                      have hs312 : Sf K len I312 R := hs310.putK (rm := rm) eI312 (Or.inr hK305) (by have h9 := clampI (i := x311_) (by omega); omega)
                      have hF312 := hF310.put eI312 hK305 (inS_big rfl (by omega) _)
                      refine r_aload_n hC dX10_readStory_270 4 rfl ?_
                      refine r_getr hC 4 (ci := 10) rfl u10_in (by decide) mT_4_239 dX10_readStory_271 ka0 rfl rfl hbr ?_
                      refine r_dup hC dX10_readStory_274 rfl ?_
                      refine r_getiN hC 7 (ci := 9) rfl u9_in (by decide) nF_7 dX10_readStory_275 krm rfl rfl (fun x313_ e313 => ?_)
                      have r313 := hs312.rng krm rfl e313
                      have f313 : x313_.toInt = (I312 rm 7).toInt := by rw [e313]
                      have w313 : x313_ = x311_ := by rw [e313]; exact (Eq.trans (up2_kk eI312 hK305 krm (by omega)) e311.symm)
                      have wt313 : x313_.toInt = x311_.toInt := by rw [w313]
                      refine r_iconst hC (v := (1)) dX10_readStory_278 (by decide) (by decide) (fun x314_ e314 t314 => ?_)
                      refine r_iadd hC dX10_readStory_279 (fun x315_ e315 => ?_)
                      try have t315 : x315_.toInt = x313_.toInt + x314_.toInt := by rw [e315]; exact ti_add (by omega) (by omega)
                      refine r_putiN hC 7 (ci := 9) rfl u9_in tyX9_ok nmX9 (by decide) nF_7 rfl rfl rfl dX10_readStory_280 krm rfl rfl (fun I316 eI316 => ?_)
                      have hs316 : Sf K len I316 R := hs312.putA7 eI316 krm hb305 hB305 (by omega) (by omega) (j := x306_.toNatClampNeg) (by have h9 := clampI (i := x306_) (by omega); omega) (by omega) (by rw [(show I312 kd305 x306_.toNatClampNeg = x280_ from (Eq.trans (up2_kk eI312 hK305 hk305 (by omega)) (Eq.trans (up2_kk eI310 hk308 hk305 (by omega)) (by rw [eI307]; exact up2_self _ _ _ _)))), cl_eq (show x306_.toInt = x311_.toInt by omega), (show I312 mo305 x311_.toNatClampNeg = x298_ from (by rw [eI312]; exact up2_self _ _ _ _))]; omega)
                      have hF316 := hF312.put eI316 krm rfl
                      have hG3 : I316 rm 3 = G3 := (Eq.trans (up2_at (Or.inr (by decide)) eI316) (Eq.trans (up2_kk eI312 hK305 krm (by omega)) (Eq.trans (up2_kk eI310 hk308 krm (by decide)) (Eq.trans (up2_kk eI307 hk305 krm (by omega)) (Eq.trans (up2_kk eI304 hk302 krm (by decide)) (Eq.trans (hf298.get krm rfl) (Eq.trans (hf288.get krm rfl) (Eq.trans (hf284.get krm rfl) (Eq.trans (hf122.get krm rfl) (Eq.trans (hf65.get krm rfl) (Eq.trans (hf4.get krm rfl) eG3.symm)))))))))))
                      have hG3t : (I316 rm 3).toInt = G3.toInt := congrArg Int32.toInt hG3
                      have hG4 : I316 rm 4 = G4 := (Eq.trans (up2_at (Or.inr (by decide)) eI316) (Eq.trans (up2_kk eI312 hK305 krm (by omega)) (Eq.trans (up2_kk eI310 hk308 krm (by decide)) (Eq.trans (up2_kk eI307 hk305 krm (by omega)) (Eq.trans (up2_kk eI304 hk302 krm (by decide)) (Eq.trans (hf298.get krm rfl) (Eq.trans (hf288.get krm rfl) (Eq.trans (hf284.get krm rfl) (Eq.trans (hf122.get krm rfl) (Eq.trans (hf65.get krm rfl) (Eq.trans (hf4.get krm rfl) eG4.symm)))))))))))
                      have hG4t : (I316 rm 4).toInt = G4.toInt := congrArg Int32.toInt hG4
                      have hG7 : I316 rm 7 = x315_ := (by rw [eI316]; exact up2_self _ _ _ _)
                      have hG7t : (I316 rm 7).toInt = x315_.toInt := congrArg Int32.toInt hG7
                      have hG8 : I316 rm 8 = G8 := (Eq.trans (up2_at (Or.inr (by decide)) eI316) (Eq.trans (up2_kk eI312 hK305 krm (by omega)) (Eq.trans (up2_kk eI310 hk308 krm (by decide)) (Eq.trans (up2_kk eI307 hk305 krm (by omega)) (Eq.trans (up2_kk eI304 hk302 krm (by decide)) (Eq.trans (hf298.get krm rfl) (Eq.trans (hf288.get krm rfl) (Eq.trans (hf284.get krm rfl) (Eq.trans (hf122.get krm rfl) (Eq.trans (hf65.get krm rfl) (Eq.trans (hf4.get krm rfl) eG8.symm)))))))))))
                      have hG8t : (I316 rm 8).toInt = G8.toInt := congrArg Int32.toInt hG8
                      have hG9 : I316 rm 9 = G9 := (Eq.trans (up2_at (Or.inr (by decide)) eI316) (Eq.trans (up2_kk eI312 hK305 krm (by omega)) (Eq.trans (up2_kk eI310 hk308 krm (by decide)) (Eq.trans (up2_kk eI307 hk305 krm (by omega)) (Eq.trans (up2_kk eI304 hk302 krm (by decide)) (Eq.trans (hf298.get krm rfl) (Eq.trans (hf288.get krm rfl) (Eq.trans (hf284.get krm rfl) (Eq.trans (hf122.get krm rfl) (Eq.trans (hf65.get krm rfl) (Eq.trans (hf4.get krm rfl) eG9.symm)))))))))))
                      have hG9t : (I316 rm 9).toInt = G9.toInt := congrArg Int32.toInt hG9
                      have hGN : I316 rm 10 = N1 := (Eq.trans (up2_at (Or.inr (by decide)) eI316) (Eq.trans (up2_kk eI312 hK305 krm (by omega)) (Eq.trans (up2_kk eI310 hk308 krm (by decide)) (Eq.trans (up2_kk eI307 hk305 krm (by omega)) (Eq.trans (up2_kk eI304 hk302 krm (by decide)) (Eq.trans (hf298.get krm rfl) (Eq.trans (hf288.get krm rfl) (Eq.trans (hf284.get krm rfl) (Eq.trans (hf122.get krm rfl) eN1.symm)))))))))
                      have hGNt : (I316 rm 10).toInt = N1.toInt := congrArg Int32.toInt hGN
                      have hv8 : I316 a0 8 = A9 := (Eq.trans (up2_kk eI316 krm ka0 (by decide)) (Eq.trans (up2_kk eI312 hK305 ka0 (by omega)) (Eq.trans (up2_kk eI310 hk308 ka0 (by decide)) (Eq.trans (up2_kk eI307 hk305 ka0 (by omega)) (Eq.trans (up2_kk eI304 hk302 ka0 (by decide)) eA9.symm)))))
                      have hv8t : (I316 a0 8).toInt = A9.toInt := congrArg Int32.toInt hv8
                      have hv9 : I316 a0 9 = x299_ := (Eq.trans (up2_kk eI316 krm ka0 (by decide)) (Eq.trans (up2_kk eI312 hK305 ka0 (by omega)) (Eq.trans (up2_kk eI310 hk308 ka0 (by decide)) (Eq.trans (up2_kk eI307 hk305 ka0 (by omega)) (Eq.trans (up2_kk eI304 hk302 ka0 (by decide)) e299.symm)))))
                      have hv9t : (I316 a0 9).toInt = x299_.toInt := congrArg Int32.toInt hv9
                      exact r_vret hC hQ hlk hr (by decide) (by decide) dX10_readStory_283 ⟨_, _, rfl, rfl, ⟨hs316, hF316, hFJ298, (by first | (left; omega) | (right; omega)), (by omega), (by omega), (by omega)⟩⟩
                    · have hG3 : I298 rm 3 = G3 := (Eq.trans (hf298.get krm rfl) (Eq.trans (hf288.get krm rfl) (Eq.trans (hf284.get krm rfl) (Eq.trans (hf122.get krm rfl) (Eq.trans (hf65.get krm rfl) (Eq.trans (hf4.get krm rfl) eG3.symm))))))
                      have hG3t : (I298 rm 3).toInt = G3.toInt := congrArg Int32.toInt hG3
                      have hG4 : I298 rm 4 = G4 := (Eq.trans (hf298.get krm rfl) (Eq.trans (hf288.get krm rfl) (Eq.trans (hf284.get krm rfl) (Eq.trans (hf122.get krm rfl) (Eq.trans (hf65.get krm rfl) (Eq.trans (hf4.get krm rfl) eG4.symm))))))
                      have hG4t : (I298 rm 4).toInt = G4.toInt := congrArg Int32.toInt hG4
                      have hG7 : I298 rm 7 = x63_ := (Eq.trans (hf298.get krm rfl) (Eq.trans (hf288.get krm rfl) (Eq.trans (hf284.get krm rfl) (Eq.trans (hf122.get krm rfl) (Eq.trans (hf65.get krm rfl) e63.symm)))))
                      have hG7t : (I298 rm 7).toInt = x63_.toInt := congrArg Int32.toInt hG7
                      have hG8 : I298 rm 8 = G8 := (Eq.trans (hf298.get krm rfl) (Eq.trans (hf288.get krm rfl) (Eq.trans (hf284.get krm rfl) (Eq.trans (hf122.get krm rfl) (Eq.trans (hf65.get krm rfl) (Eq.trans (hf4.get krm rfl) eG8.symm))))))
                      have hG8t : (I298 rm 8).toInt = G8.toInt := congrArg Int32.toInt hG8
                      have hG9 : I298 rm 9 = G9 := (Eq.trans (hf298.get krm rfl) (Eq.trans (hf288.get krm rfl) (Eq.trans (hf284.get krm rfl) (Eq.trans (hf122.get krm rfl) (Eq.trans (hf65.get krm rfl) (Eq.trans (hf4.get krm rfl) eG9.symm))))))
                      have hG9t : (I298 rm 9).toInt = G9.toInt := congrArg Int32.toInt hG9
                      have hGN : I298 rm 10 = N1 := (Eq.trans (hf298.get krm rfl) (Eq.trans (hf288.get krm rfl) (Eq.trans (hf284.get krm rfl) (Eq.trans (hf122.get krm rfl) eN1.symm))))
                      have hGNt : (I298 rm 10).toInt = N1.toInt := congrArg Int32.toInt hGN
                      have hv8 : I298 a0 8 = A9 := eA9.symm
                      have hv8t : (I298 a0 8).toInt = A9.toInt := congrArg Int32.toInt hv8
                      have hv9 : I298 a0 9 = x299_ := e299.symm
                      have hv9t : (I298 a0 9).toInt = x299_.toInt := congrArg Int32.toInt hv9
                      exact r_vret hC hQ hlk hr (by decide) (by decide) dX10_readStory_204 ⟨_, _, rfl, rfl, ⟨hs298, hF298, hFJ298, (by first | (left; omega) | (right; omega)), (by omega), (by omega), (by omega)⟩⟩
                  · replace k288_1 := k288_1 sf288
                    clear k288_0 md287 sf284
                    refine r_istore_n hC (lv' := [(3, .int x288_), (2, .int x280_), (1, .int x122_), (0, .ref a0)]) dX10_readStory_137 (by decide) rfl ?_
                    refine r_iload_n hC dX10_readStory_138 1 rfl ?_
                    refine r_iconst hC (v := (2)) dX10_readStory_139 (by decide) (by decide) (fun x317_ e317 t317 => ?_)
                    refine r_icmp_ne hC (tgt := 156) dX10_readStory_140 (by decide) (fun c318 => ?_) (fun c318 => ?_)
                    rotate_left
                    · exfalso; omega
                    refine r_iload_n hC dX10_readStory_156 1 rfl ?_
                    refine r_iconst hC (v := (3)) dX10_readStory_157 (by decide) (by decide) (fun x319_ e319 t319 => ?_)
                    refine r_icmp_ne hC (tgt := 175) dX10_readStory_158 (by decide) (fun c320 => ?_) (fun c320 => ?_)
                    rotate_left
                    · exfalso; omega
                    refine r_iload_n hC dX10_readStory_175 1 rfl ?_
                    refine r_iconst hC (v := (4)) dX10_readStory_176 (by decide) (by decide) (fun x321_ e321 t321 => ?_)
                    refine r_icmp_ne hC (tgt := 193) dX10_readStory_177 (by decide) (fun c322 => ?_) (fun c322 => ?_)
                    · exfalso; omega
                    refine r_aload_n hC dX10_readStory_180 3 rfl ?_
                    refine r_ldcwS hC (i := 54) (by decide) rfl rfl dX10_readStory_181 ?_
                    refine r_iconst hC (v := (1)) dX10_readStory_184 (by decide) (by decide) (fun x323_ e323 t323 => ?_)
                    refine r_bipush hC (v := (99)) dX10_readStory_185 (by decide) (by decide) (fun x324_ e324 t324 => ?_)
                    have md325 : (I288 a0 9).toInt ≠ 5 := by omega
                    refine r_callV hC (As := [.ref (g.2.2.1 54), .int x323_, .int x324_]) (rest := []) (ci := 10) (c_X10_readPart g (xL X) K len I288 J288 R hs288 a0 ka0 54 (by decide) x323_ x324_) mT_6_1 mT_1_10 mT_5_238 mT_6_0 mP_56 okX10_readPart ⟨by decide, by decide⟩ rfl (by show kO (K a0) = _; rw [ka0]; rfl) rfl rfl (Nat.le_of_ble_eq_true rfl) ⟨by decide, by decide⟩ dX10_readStory_187 (aI2 (F := fun st M => P g X 5 190 [(3, .int x288_), (2, .int x280_), (1, .int x122_), (0, .ref a0)] st _ _ M) (M := (K, len, I288, J288, R)) fun x326_ I326 J326 h326 => ?_)
                    obtain ⟨hs326, hf326, hfj326, k326_0, k326_1, k326_2, k326_3⟩ := h326
                    show P g X 5 190 [(3, .int x288_), (2, .int x280_), (1, .int x122_), (0, .ref a0)] [.int x326_] _ _ (K, len, I326, J326, R)
                    have hF326 : Fr K [(10, 7), (10, 10), (11, 8), (11, 9), (11, 10), (11, 11), (11, 12), (11, 13), (75, 999), (76, 999), (83, 999), (84, 999), (1000, 999)] I I326 := hF288.trans hf326 rfl rfl
                    have hFJ326 : Fr K [(11, 14), (82, 999)] J J326 := hFJ288.trans hfj326 rfl rfl
                    clear k288_3
                    by_cases sf326 : (I326 a0 9).toInt = 5
                    · clear k326_0 k326_1 k326_3 md325 sf288
                      refine r_goto hC (tgt := 194) dX10_readStory_190 (by decide) ?_
                      refine r_istore hC (lv' := [(4, .int x326_), (3, .int x288_), (2, .int x280_), (1, .int x122_), (0, .ref a0)]) dX10_readStory_194 (by decide) rfl ?_
                      refine r_aload_n hC dX10_readStory_196 4 rfl ?_
                      obtain ⟨A9, eA9⟩ : ∃ z : Int32, z = I326 a0 8 := ⟨_, rfl⟩
                      have fA9 : A9.toInt = (I326 a0 8).toInt := by rw [eA9]
                      have rA9 := hs326.rng ka0 rfl eA9
                      refine r_geti hC 9 (ci := 10) rfl u10_in (by decide) mT_5_4 dX10_readStory_197 ka0 rfl rfl (fun x327_ e327 => ?_)
                      have f327 : x327_.toInt = (I326 a0 9).toInt := by rw [e327]
                      refine r_iconst hC (v := (5)) dX10_readStory_200 (by decide) (by decide) (fun x328_ e328 t328 => ?_)
                      refine r_icmp_ne hC (tgt := 205) dX10_readStory_201 (by decide) (fun c329 => ?_) (fun c329 => ?_)
                      · refine r_aload_n hC dX10_readStory_205 4 rfl ?_
                        refine r_getr hC 4 (ci := 10) rfl u10_in (by decide) mT_4_239 dX10_readStory_206 ka0 rfl rfl hbr ?_
                        obtain ⟨a330_, hb330, hk330, hn330⟩ := hs326.row krm 16 75 6 (by decide) (by decide)
                        refine r_getrN hC 16 (ci := 9) rfl u9_in (by decide) nF_16 dX10_readStory_209 krm rfl rfl hb330 ?_
                        refine r_aload_n hC dX10_readStory_212 4 rfl ?_
                        refine r_getr hC 4 (ci := 10) rfl u10_in (by decide) mT_4_239 dX10_readStory_213 ka0 rfl rfl hbr ?_
                        refine r_getiN hC 7 (ci := 9) rfl u9_in (by decide) nF_7 dX10_readStory_216 krm rfl rfl (fun x331_ e331 => ?_)
                        have r331 := hs326.rng krm rfl e331
                        have f331 : x331_.toInt = (I326 rm 7).toInt := by rw [e331]
                        have w331 : x331_ = x63_ := by rw [e331]; exact (Eq.trans (hf326.get krm rfl) (Eq.trans (hf288.get krm rfl) (Eq.trans (hf284.get krm rfl) (Eq.trans (hf122.get krm rfl) (Eq.trans (hf65.get krm rfl) e63.symm)))))
                        have wt331 : x331_.toInt = x63_.toInt := by rw [w331]
                        refine r_iload_n hC dX10_readStory_219 3 rfl ?_
                        refine x_iastore hC hk330 hn330 (by decide) rfl rfl dX10_readStory_220 (by omega) (by omega) (fun I332 eI332 => ?_)
                        have hs332 := hs326.put0 eI332 hk330 (rng_arr (by decide) _) rfl (xF_arr (by decide) _) (by decide)
                        have hF332 := hF326.put eI332 hk330 (inS_arr rfl _)
                        refine r_aload_n hC dX10_readStory_221 4 rfl ?_
                        refine r_getr hC 4 (ci := 10) rfl u10_in (by decide) mT_4_239 dX10_readStory_222 ka0 rfl rfl hbr ?_
                        obtain ⟨kd333, mo333, hb333, hk333, hn333, hB333, hK333, hN333⟩ := hs332.2.2.1 rm krm
                        refine r_getrN hC 17 (ci := 9) rfl u9_in (by decide) nF_17 dX10_readStory_225 krm rfl rfl hb333 ?_
                        refine r_aload_n hC dX10_readStory_228 4 rfl ?_
                        refine r_getr hC 4 (ci := 10) rfl u10_in (by decide) mT_4_239 dX10_readStory_229 ka0 rfl rfl hbr ?_
                        refine r_getiN hC 7 (ci := 9) rfl u9_in (by decide) nF_7 dX10_readStory_232 krm rfl rfl (fun x334_ e334 => ?_)
                        have r334 := hs332.rng krm rfl e334
                        have f334 : x334_.toInt = (I332 rm 7).toInt := by rw [e334]
                        have w334 : x334_ = x331_ := by rw [e334]; exact (Eq.trans (up2_kk eI332 hk330 krm (by decide)) e331.symm)
                        have wt334 : x334_.toInt = x331_.toInt := by rw [w334]
                        refine r_iload_n hC dX10_readStory_235 2 rfl ?_
                        refine x_iastore hC hk333 hn333 (by omega) (kOb (by omega)) (kAb (by omega)) dX10_readStory_236 (by omega) (by omega) (fun I335 eI335 => ?_)
                        have hs335 : Sf K len I335 R := hs332.putK (rm := rm) eI335 (Or.inl hk333) (by have h9 := clampI (i := x334_) (by omega); omega)
                        have hF335 := hF332.put eI335 hk333 (inS_big rfl (by omega) _)
                        refine r_aload_n hC dX10_readStory_237 4 rfl ?_
                        refine r_getr hC 4 (ci := 10) rfl u10_in (by decide) mT_4_239 dX10_readStory_238 ka0 rfl rfl hbr ?_
                        obtain ⟨a336_, hb336, hk336, hn336⟩ := hs335.row krm 18 76 6 (by decide) (by decide)
                        refine r_getrN hC 18 (ci := 9) rfl u9_in (by decide) nF_18 dX10_readStory_241 krm rfl rfl hb336 ?_
                        refine r_aload_n hC dX10_readStory_244 4 rfl ?_
                        refine r_getr hC 4 (ci := 10) rfl u10_in (by decide) mT_4_239 dX10_readStory_245 ka0 rfl rfl hbr ?_
                        refine r_getiN hC 7 (ci := 9) rfl u9_in (by decide) nF_7 dX10_readStory_248 krm rfl rfl (fun x337_ e337 => ?_)
                        have r337 := hs335.rng krm rfl e337
                        have f337 : x337_.toInt = (I335 rm 7).toInt := by rw [e337]
                        have w337 : x337_ = x334_ := by rw [e337]; exact (Eq.trans (up2_kk eI335 hk333 krm (by omega)) e334.symm)
                        have wt337 : x337_.toInt = x334_.toInt := by rw [w337]
                        refine r_iload_n hC dX10_readStory_251 1 rfl ?_
                        refine x_iastore hC hk336 hn336 (by decide) rfl rfl dX10_readStory_252 (by omega) (by omega) (fun I338 eI338 => ?_)
                        have hs338 := hs335.put0 eI338 hk336 (rng_arr (by decide) _) rfl (xF_arr (by decide) _) (by decide)
                        have hF338 := hF335.put eI338 hk336 (inS_arr rfl _)
                        refine r_aload_n hC dX10_readStory_253 4 rfl ?_
                        refine r_getr hC 4 (ci := 10) rfl u10_in (by decide) mT_4_239 dX10_readStory_254 ka0 rfl rfl hbr ?_
                        refine r_getrN hC 19 (ci := 9) rfl u9_in (by decide) nF_19 dX10_readStory_257 krm rfl rfl hB333 ?_
                        refine r_aload_n hC dX10_readStory_260 4 rfl ?_
                        refine r_getr hC 4 (ci := 10) rfl u10_in (by decide) mT_4_239 dX10_readStory_261 ka0 rfl rfl hbr ?_
                        refine r_getiN hC 7 (ci := 9) rfl u9_in (by decide) nF_7 dX10_readStory_264 krm rfl rfl (fun x339_ e339 => ?_)
                        have r339 := hs338.rng krm rfl e339
                        have f339 : x339_.toInt = (I338 rm 7).toInt := by rw [e339]
                        have w339 : x339_ = x337_ := by rw [e339]; exact (Eq.trans (up2_kk eI338 hk336 krm (by decide)) e337.symm)
                        have wt339 : x339_.toInt = x337_.toInt := by rw [w339]
                        refine r_iload hC dX10_readStory_267 0 rfl ?_
                        refine x_iastore hC hK333 hN333 (by omega) (kOb (by omega)) (kAb (by omega)) dX10_readStory_269 (by omega) (by omega) (fun I340 eI340 => ?_)
                        have hs340 : Sf K len I340 R := hs338.putK (rm := rm) eI340 (Or.inr hK333) (by have h9 := clampI (i := x339_) (by omega); omega)
                        have hF340 := hF338.put eI340 hK333 (inS_big rfl (by omega) _)
                        refine r_aload_n hC dX10_readStory_270 4 rfl ?_
                        refine r_getr hC 4 (ci := 10) rfl u10_in (by decide) mT_4_239 dX10_readStory_271 ka0 rfl rfl hbr ?_
                        refine r_dup hC dX10_readStory_274 rfl ?_
                        refine r_getiN hC 7 (ci := 9) rfl u9_in (by decide) nF_7 dX10_readStory_275 krm rfl rfl (fun x341_ e341 => ?_)
                        have r341 := hs340.rng krm rfl e341
                        have f341 : x341_.toInt = (I340 rm 7).toInt := by rw [e341]
                        have w341 : x341_ = x339_ := by rw [e341]; exact (Eq.trans (up2_kk eI340 hK333 krm (by omega)) e339.symm)
                        have wt341 : x341_.toInt = x339_.toInt := by rw [w341]
                        refine r_iconst hC (v := (1)) dX10_readStory_278 (by decide) (by decide) (fun x342_ e342 t342 => ?_)
                        refine r_iadd hC dX10_readStory_279 (fun x343_ e343 => ?_)
                        try have t343 : x343_.toInt = x341_.toInt + x342_.toInt := by rw [e343]; exact ti_add (by omega) (by omega)
                        refine r_putiN hC 7 (ci := 9) rfl u9_in tyX9_ok nmX9 (by decide) nF_7 rfl rfl rfl dX10_readStory_280 krm rfl rfl (fun I344 eI344 => ?_)
                        have hs344 : Sf K len I344 R := hs340.putA7 eI344 krm hb333 hB333 (by omega) (by omega) (j := x334_.toNatClampNeg) (by have h9 := clampI (i := x334_) (by omega); omega) (by omega) (by rw [(show I340 kd333 x334_.toNatClampNeg = x280_ from (Eq.trans (up2_kk eI340 hK333 hk333 (by omega)) (Eq.trans (up2_kk eI338 hk336 hk333 (by omega)) (by rw [eI335]; exact up2_self _ _ _ _)))), cl_eq (show x334_.toInt = x339_.toInt by omega), (show I340 mo333 x339_.toNatClampNeg = x326_ from (by rw [eI340]; exact up2_self _ _ _ _))]; omega)
                        have hF344 := hF340.put eI344 krm rfl
                        have hG3 : I344 rm 3 = G3 := (Eq.trans (up2_at (Or.inr (by decide)) eI344) (Eq.trans (up2_kk eI340 hK333 krm (by omega)) (Eq.trans (up2_kk eI338 hk336 krm (by decide)) (Eq.trans (up2_kk eI335 hk333 krm (by omega)) (Eq.trans (up2_kk eI332 hk330 krm (by decide)) (Eq.trans (hf326.get krm rfl) (Eq.trans (hf288.get krm rfl) (Eq.trans (hf284.get krm rfl) (Eq.trans (hf122.get krm rfl) (Eq.trans (hf65.get krm rfl) (Eq.trans (hf4.get krm rfl) eG3.symm)))))))))))
                        have hG3t : (I344 rm 3).toInt = G3.toInt := congrArg Int32.toInt hG3
                        have hG4 : I344 rm 4 = G4 := (Eq.trans (up2_at (Or.inr (by decide)) eI344) (Eq.trans (up2_kk eI340 hK333 krm (by omega)) (Eq.trans (up2_kk eI338 hk336 krm (by decide)) (Eq.trans (up2_kk eI335 hk333 krm (by omega)) (Eq.trans (up2_kk eI332 hk330 krm (by decide)) (Eq.trans (hf326.get krm rfl) (Eq.trans (hf288.get krm rfl) (Eq.trans (hf284.get krm rfl) (Eq.trans (hf122.get krm rfl) (Eq.trans (hf65.get krm rfl) (Eq.trans (hf4.get krm rfl) eG4.symm)))))))))))
                        have hG4t : (I344 rm 4).toInt = G4.toInt := congrArg Int32.toInt hG4
                        have hG7 : I344 rm 7 = x343_ := (by rw [eI344]; exact up2_self _ _ _ _)
                        have hG7t : (I344 rm 7).toInt = x343_.toInt := congrArg Int32.toInt hG7
                        have hG8 : I344 rm 8 = G8 := (Eq.trans (up2_at (Or.inr (by decide)) eI344) (Eq.trans (up2_kk eI340 hK333 krm (by omega)) (Eq.trans (up2_kk eI338 hk336 krm (by decide)) (Eq.trans (up2_kk eI335 hk333 krm (by omega)) (Eq.trans (up2_kk eI332 hk330 krm (by decide)) (Eq.trans (hf326.get krm rfl) (Eq.trans (hf288.get krm rfl) (Eq.trans (hf284.get krm rfl) (Eq.trans (hf122.get krm rfl) (Eq.trans (hf65.get krm rfl) (Eq.trans (hf4.get krm rfl) eG8.symm)))))))))))
                        have hG8t : (I344 rm 8).toInt = G8.toInt := congrArg Int32.toInt hG8
                        have hG9 : I344 rm 9 = G9 := (Eq.trans (up2_at (Or.inr (by decide)) eI344) (Eq.trans (up2_kk eI340 hK333 krm (by omega)) (Eq.trans (up2_kk eI338 hk336 krm (by decide)) (Eq.trans (up2_kk eI335 hk333 krm (by omega)) (Eq.trans (up2_kk eI332 hk330 krm (by decide)) (Eq.trans (hf326.get krm rfl) (Eq.trans (hf288.get krm rfl) (Eq.trans (hf284.get krm rfl) (Eq.trans (hf122.get krm rfl) (Eq.trans (hf65.get krm rfl) (Eq.trans (hf4.get krm rfl) eG9.symm)))))))))))
                        have hG9t : (I344 rm 9).toInt = G9.toInt := congrArg Int32.toInt hG9
                        have hGN : I344 rm 10 = N1 := (Eq.trans (up2_at (Or.inr (by decide)) eI344) (Eq.trans (up2_kk eI340 hK333 krm (by omega)) (Eq.trans (up2_kk eI338 hk336 krm (by decide)) (Eq.trans (up2_kk eI335 hk333 krm (by omega)) (Eq.trans (up2_kk eI332 hk330 krm (by decide)) (Eq.trans (hf326.get krm rfl) (Eq.trans (hf288.get krm rfl) (Eq.trans (hf284.get krm rfl) (Eq.trans (hf122.get krm rfl) eN1.symm)))))))))
                        have hGNt : (I344 rm 10).toInt = N1.toInt := congrArg Int32.toInt hGN
                        have hv8 : I344 a0 8 = A9 := (Eq.trans (up2_kk eI344 krm ka0 (by decide)) (Eq.trans (up2_kk eI340 hK333 ka0 (by omega)) (Eq.trans (up2_kk eI338 hk336 ka0 (by decide)) (Eq.trans (up2_kk eI335 hk333 ka0 (by omega)) (Eq.trans (up2_kk eI332 hk330 ka0 (by decide)) eA9.symm)))))
                        have hv8t : (I344 a0 8).toInt = A9.toInt := congrArg Int32.toInt hv8
                        have hv9 : I344 a0 9 = x327_ := (Eq.trans (up2_kk eI344 krm ka0 (by decide)) (Eq.trans (up2_kk eI340 hK333 ka0 (by omega)) (Eq.trans (up2_kk eI338 hk336 ka0 (by decide)) (Eq.trans (up2_kk eI335 hk333 ka0 (by omega)) (Eq.trans (up2_kk eI332 hk330 ka0 (by decide)) e327.symm)))))
                        have hv9t : (I344 a0 9).toInt = x327_.toInt := congrArg Int32.toInt hv9
                        exact r_vret hC hQ hlk hr (by decide) (by decide) dX10_readStory_283 ⟨_, _, rfl, rfl, ⟨hs344, hF344, hFJ326, (by first | (left; omega) | (right; omega)), (by omega), (by omega), (by omega)⟩⟩
                      · have hG3 : I326 rm 3 = G3 := (Eq.trans (hf326.get krm rfl) (Eq.trans (hf288.get krm rfl) (Eq.trans (hf284.get krm rfl) (Eq.trans (hf122.get krm rfl) (Eq.trans (hf65.get krm rfl) (Eq.trans (hf4.get krm rfl) eG3.symm))))))
                        have hG3t : (I326 rm 3).toInt = G3.toInt := congrArg Int32.toInt hG3
                        have hG4 : I326 rm 4 = G4 := (Eq.trans (hf326.get krm rfl) (Eq.trans (hf288.get krm rfl) (Eq.trans (hf284.get krm rfl) (Eq.trans (hf122.get krm rfl) (Eq.trans (hf65.get krm rfl) (Eq.trans (hf4.get krm rfl) eG4.symm))))))
                        have hG4t : (I326 rm 4).toInt = G4.toInt := congrArg Int32.toInt hG4
                        have hG7 : I326 rm 7 = x63_ := (Eq.trans (hf326.get krm rfl) (Eq.trans (hf288.get krm rfl) (Eq.trans (hf284.get krm rfl) (Eq.trans (hf122.get krm rfl) (Eq.trans (hf65.get krm rfl) e63.symm)))))
                        have hG7t : (I326 rm 7).toInt = x63_.toInt := congrArg Int32.toInt hG7
                        have hG8 : I326 rm 8 = G8 := (Eq.trans (hf326.get krm rfl) (Eq.trans (hf288.get krm rfl) (Eq.trans (hf284.get krm rfl) (Eq.trans (hf122.get krm rfl) (Eq.trans (hf65.get krm rfl) (Eq.trans (hf4.get krm rfl) eG8.symm))))))
                        have hG8t : (I326 rm 8).toInt = G8.toInt := congrArg Int32.toInt hG8
                        have hG9 : I326 rm 9 = G9 := (Eq.trans (hf326.get krm rfl) (Eq.trans (hf288.get krm rfl) (Eq.trans (hf284.get krm rfl) (Eq.trans (hf122.get krm rfl) (Eq.trans (hf65.get krm rfl) (Eq.trans (hf4.get krm rfl) eG9.symm))))))
                        have hG9t : (I326 rm 9).toInt = G9.toInt := congrArg Int32.toInt hG9
                        have hGN : I326 rm 10 = N1 := (Eq.trans (hf326.get krm rfl) (Eq.trans (hf288.get krm rfl) (Eq.trans (hf284.get krm rfl) (Eq.trans (hf122.get krm rfl) eN1.symm))))
                        have hGNt : (I326 rm 10).toInt = N1.toInt := congrArg Int32.toInt hGN
                        have hv8 : I326 a0 8 = A9 := eA9.symm
                        have hv8t : (I326 a0 8).toInt = A9.toInt := congrArg Int32.toInt hv8
                        have hv9 : I326 a0 9 = x327_ := e327.symm
                        have hv9t : (I326 a0 9).toInt = x327_.toInt := congrArg Int32.toInt hv9
                        exact r_vret hC hQ hlk hr (by decide) (by decide) dX10_readStory_204 ⟨_, _, rfl, rfl, ⟨hs326, hF326, hFJ326, (by first | (left; omega) | (right; omega)), (by omega), (by omega), (by omega)⟩⟩
                    · replace k326_1 := k326_1 sf326
                      clear k326_0 md325 sf288
                      refine r_goto hC (tgt := 194) dX10_readStory_190 (by decide) ?_
                      refine r_istore hC (lv' := [(4, .int x326_), (3, .int x288_), (2, .int x280_), (1, .int x122_), (0, .ref a0)]) dX10_readStory_194 (by decide) rfl ?_
                      refine r_aload_n hC dX10_readStory_196 4 rfl ?_
                      obtain ⟨A9, eA9⟩ : ∃ z : Int32, z = I326 a0 8 := ⟨_, rfl⟩
                      have fA9 : A9.toInt = (I326 a0 8).toInt := by rw [eA9]
                      have rA9 := hs326.rng ka0 rfl eA9
                      refine r_geti hC 9 (ci := 10) rfl u10_in (by decide) mT_5_4 dX10_readStory_197 ka0 rfl rfl (fun x345_ e345 => ?_)
                      have f345 : x345_.toInt = (I326 a0 9).toInt := by rw [e345]
                      refine r_iconst hC (v := (5)) dX10_readStory_200 (by decide) (by decide) (fun x346_ e346 t346 => ?_)
                      refine r_icmp_ne hC (tgt := 205) dX10_readStory_201 (by decide) (fun c347 => ?_) (fun c347 => ?_)
                      · refine r_aload_n hC dX10_readStory_205 4 rfl ?_
                        refine r_getr hC 4 (ci := 10) rfl u10_in (by decide) mT_4_239 dX10_readStory_206 ka0 rfl rfl hbr ?_
                        obtain ⟨a348_, hb348, hk348, hn348⟩ := hs326.row krm 16 75 6 (by decide) (by decide)
                        refine r_getrN hC 16 (ci := 9) rfl u9_in (by decide) nF_16 dX10_readStory_209 krm rfl rfl hb348 ?_
                        refine r_aload_n hC dX10_readStory_212 4 rfl ?_
                        refine r_getr hC 4 (ci := 10) rfl u10_in (by decide) mT_4_239 dX10_readStory_213 ka0 rfl rfl hbr ?_
                        refine r_getiN hC 7 (ci := 9) rfl u9_in (by decide) nF_7 dX10_readStory_216 krm rfl rfl (fun x349_ e349 => ?_)
                        have r349 := hs326.rng krm rfl e349
                        have f349 : x349_.toInt = (I326 rm 7).toInt := by rw [e349]
                        have w349 : x349_ = x63_ := by rw [e349]; exact (Eq.trans (hf326.get krm rfl) (Eq.trans (hf288.get krm rfl) (Eq.trans (hf284.get krm rfl) (Eq.trans (hf122.get krm rfl) (Eq.trans (hf65.get krm rfl) e63.symm)))))
                        have wt349 : x349_.toInt = x63_.toInt := by rw [w349]
                        refine r_iload_n hC dX10_readStory_219 3 rfl ?_
                        refine x_iastore hC hk348 hn348 (by decide) rfl rfl dX10_readStory_220 (by omega) (by omega) (fun I350 eI350 => ?_)
                        have hs350 := hs326.put0 eI350 hk348 (rng_arr (by decide) _) rfl (xF_arr (by decide) _) (by decide)
                        have hF350 := hF326.put eI350 hk348 (inS_arr rfl _)
                        refine r_aload_n hC dX10_readStory_221 4 rfl ?_
                        refine r_getr hC 4 (ci := 10) rfl u10_in (by decide) mT_4_239 dX10_readStory_222 ka0 rfl rfl hbr ?_
                        obtain ⟨kd351, mo351, hb351, hk351, hn351, hB351, hK351, hN351⟩ := hs350.2.2.1 rm krm
                        refine r_getrN hC 17 (ci := 9) rfl u9_in (by decide) nF_17 dX10_readStory_225 krm rfl rfl hb351 ?_
                        refine r_aload_n hC dX10_readStory_228 4 rfl ?_
                        refine r_getr hC 4 (ci := 10) rfl u10_in (by decide) mT_4_239 dX10_readStory_229 ka0 rfl rfl hbr ?_
                        refine r_getiN hC 7 (ci := 9) rfl u9_in (by decide) nF_7 dX10_readStory_232 krm rfl rfl (fun x352_ e352 => ?_)
                        have r352 := hs350.rng krm rfl e352
                        have f352 : x352_.toInt = (I350 rm 7).toInt := by rw [e352]
                        have w352 : x352_ = x349_ := by rw [e352]; exact (Eq.trans (up2_kk eI350 hk348 krm (by decide)) e349.symm)
                        have wt352 : x352_.toInt = x349_.toInt := by rw [w352]
                        refine r_iload_n hC dX10_readStory_235 2 rfl ?_
                        refine x_iastore hC hk351 hn351 (by omega) (kOb (by omega)) (kAb (by omega)) dX10_readStory_236 (by omega) (by omega) (fun I353 eI353 => ?_)
                        have hs353 : Sf K len I353 R := hs350.putK (rm := rm) eI353 (Or.inl hk351) (by have h9 := clampI (i := x352_) (by omega); omega)
                        have hF353 := hF350.put eI353 hk351 (inS_big rfl (by omega) _)
                        refine r_aload_n hC dX10_readStory_237 4 rfl ?_
                        refine r_getr hC 4 (ci := 10) rfl u10_in (by decide) mT_4_239 dX10_readStory_238 ka0 rfl rfl hbr ?_
                        obtain ⟨a354_, hb354, hk354, hn354⟩ := hs353.row krm 18 76 6 (by decide) (by decide)
                        refine r_getrN hC 18 (ci := 9) rfl u9_in (by decide) nF_18 dX10_readStory_241 krm rfl rfl hb354 ?_
                        refine r_aload_n hC dX10_readStory_244 4 rfl ?_
                        refine r_getr hC 4 (ci := 10) rfl u10_in (by decide) mT_4_239 dX10_readStory_245 ka0 rfl rfl hbr ?_
                        refine r_getiN hC 7 (ci := 9) rfl u9_in (by decide) nF_7 dX10_readStory_248 krm rfl rfl (fun x355_ e355 => ?_)
                        have r355 := hs353.rng krm rfl e355
                        have f355 : x355_.toInt = (I353 rm 7).toInt := by rw [e355]
                        have w355 : x355_ = x352_ := by rw [e355]; exact (Eq.trans (up2_kk eI353 hk351 krm (by omega)) e352.symm)
                        have wt355 : x355_.toInt = x352_.toInt := by rw [w355]
                        refine r_iload_n hC dX10_readStory_251 1 rfl ?_
                        refine x_iastore hC hk354 hn354 (by decide) rfl rfl dX10_readStory_252 (by omega) (by omega) (fun I356 eI356 => ?_)
                        have hs356 := hs353.put0 eI356 hk354 (rng_arr (by decide) _) rfl (xF_arr (by decide) _) (by decide)
                        have hF356 := hF353.put eI356 hk354 (inS_arr rfl _)
                        refine r_aload_n hC dX10_readStory_253 4 rfl ?_
                        refine r_getr hC 4 (ci := 10) rfl u10_in (by decide) mT_4_239 dX10_readStory_254 ka0 rfl rfl hbr ?_
                        refine r_getrN hC 19 (ci := 9) rfl u9_in (by decide) nF_19 dX10_readStory_257 krm rfl rfl hB351 ?_
                        refine r_aload_n hC dX10_readStory_260 4 rfl ?_
                        refine r_getr hC 4 (ci := 10) rfl u10_in (by decide) mT_4_239 dX10_readStory_261 ka0 rfl rfl hbr ?_
                        refine r_getiN hC 7 (ci := 9) rfl u9_in (by decide) nF_7 dX10_readStory_264 krm rfl rfl (fun x357_ e357 => ?_)
                        have r357 := hs356.rng krm rfl e357
                        have f357 : x357_.toInt = (I356 rm 7).toInt := by rw [e357]
                        have w357 : x357_ = x355_ := by rw [e357]; exact (Eq.trans (up2_kk eI356 hk354 krm (by decide)) e355.symm)
                        have wt357 : x357_.toInt = x355_.toInt := by rw [w357]
                        refine r_iload hC dX10_readStory_267 0 rfl ?_
                        refine x_iastore hC hK351 hN351 (by omega) (kOb (by omega)) (kAb (by omega)) dX10_readStory_269 (by omega) (by omega) (fun I358 eI358 => ?_)
                        have hs358 : Sf K len I358 R := hs356.putK (rm := rm) eI358 (Or.inr hK351) (by have h9 := clampI (i := x357_) (by omega); omega)
                        have hF358 := hF356.put eI358 hK351 (inS_big rfl (by omega) _)
                        refine r_aload_n hC dX10_readStory_270 4 rfl ?_
                        refine r_getr hC 4 (ci := 10) rfl u10_in (by decide) mT_4_239 dX10_readStory_271 ka0 rfl rfl hbr ?_
                        refine r_dup hC dX10_readStory_274 rfl ?_
                        refine r_getiN hC 7 (ci := 9) rfl u9_in (by decide) nF_7 dX10_readStory_275 krm rfl rfl (fun x359_ e359 => ?_)
                        have r359 := hs358.rng krm rfl e359
                        have f359 : x359_.toInt = (I358 rm 7).toInt := by rw [e359]
                        have w359 : x359_ = x357_ := by rw [e359]; exact (Eq.trans (up2_kk eI358 hK351 krm (by omega)) e357.symm)
                        have wt359 : x359_.toInt = x357_.toInt := by rw [w359]
                        refine r_iconst hC (v := (1)) dX10_readStory_278 (by decide) (by decide) (fun x360_ e360 t360 => ?_)
                        refine r_iadd hC dX10_readStory_279 (fun x361_ e361 => ?_)
                        try have t361 : x361_.toInt = x359_.toInt + x360_.toInt := by rw [e361]; exact ti_add (by omega) (by omega)
                        refine r_putiN hC 7 (ci := 9) rfl u9_in tyX9_ok nmX9 (by decide) nF_7 rfl rfl rfl dX10_readStory_280 krm rfl rfl (fun I362 eI362 => ?_)
                        have hs362 : Sf K len I362 R := hs358.putA7 eI362 krm hb351 hB351 (by omega) (by omega) (j := x352_.toNatClampNeg) (by have h9 := clampI (i := x352_) (by omega); omega) (by omega) (by rw [(show I358 kd351 x352_.toNatClampNeg = x280_ from (Eq.trans (up2_kk eI358 hK351 hk351 (by omega)) (Eq.trans (up2_kk eI356 hk354 hk351 (by omega)) (by rw [eI353]; exact up2_self _ _ _ _)))), cl_eq (show x352_.toInt = x357_.toInt by omega), (show I358 mo351 x357_.toNatClampNeg = x326_ from (by rw [eI358]; exact up2_self _ _ _ _))]; omega)
                        have hF362 := hF358.put eI362 krm rfl
                        have hG3 : I362 rm 3 = G3 := (Eq.trans (up2_at (Or.inr (by decide)) eI362) (Eq.trans (up2_kk eI358 hK351 krm (by omega)) (Eq.trans (up2_kk eI356 hk354 krm (by decide)) (Eq.trans (up2_kk eI353 hk351 krm (by omega)) (Eq.trans (up2_kk eI350 hk348 krm (by decide)) (Eq.trans (hf326.get krm rfl) (Eq.trans (hf288.get krm rfl) (Eq.trans (hf284.get krm rfl) (Eq.trans (hf122.get krm rfl) (Eq.trans (hf65.get krm rfl) (Eq.trans (hf4.get krm rfl) eG3.symm)))))))))))
                        have hG3t : (I362 rm 3).toInt = G3.toInt := congrArg Int32.toInt hG3
                        have hG4 : I362 rm 4 = G4 := (Eq.trans (up2_at (Or.inr (by decide)) eI362) (Eq.trans (up2_kk eI358 hK351 krm (by omega)) (Eq.trans (up2_kk eI356 hk354 krm (by decide)) (Eq.trans (up2_kk eI353 hk351 krm (by omega)) (Eq.trans (up2_kk eI350 hk348 krm (by decide)) (Eq.trans (hf326.get krm rfl) (Eq.trans (hf288.get krm rfl) (Eq.trans (hf284.get krm rfl) (Eq.trans (hf122.get krm rfl) (Eq.trans (hf65.get krm rfl) (Eq.trans (hf4.get krm rfl) eG4.symm)))))))))))
                        have hG4t : (I362 rm 4).toInt = G4.toInt := congrArg Int32.toInt hG4
                        have hG7 : I362 rm 7 = x361_ := (by rw [eI362]; exact up2_self _ _ _ _)
                        have hG7t : (I362 rm 7).toInt = x361_.toInt := congrArg Int32.toInt hG7
                        have hG8 : I362 rm 8 = G8 := (Eq.trans (up2_at (Or.inr (by decide)) eI362) (Eq.trans (up2_kk eI358 hK351 krm (by omega)) (Eq.trans (up2_kk eI356 hk354 krm (by decide)) (Eq.trans (up2_kk eI353 hk351 krm (by omega)) (Eq.trans (up2_kk eI350 hk348 krm (by decide)) (Eq.trans (hf326.get krm rfl) (Eq.trans (hf288.get krm rfl) (Eq.trans (hf284.get krm rfl) (Eq.trans (hf122.get krm rfl) (Eq.trans (hf65.get krm rfl) (Eq.trans (hf4.get krm rfl) eG8.symm)))))))))))
                        have hG8t : (I362 rm 8).toInt = G8.toInt := congrArg Int32.toInt hG8
                        have hG9 : I362 rm 9 = G9 := (Eq.trans (up2_at (Or.inr (by decide)) eI362) (Eq.trans (up2_kk eI358 hK351 krm (by omega)) (Eq.trans (up2_kk eI356 hk354 krm (by decide)) (Eq.trans (up2_kk eI353 hk351 krm (by omega)) (Eq.trans (up2_kk eI350 hk348 krm (by decide)) (Eq.trans (hf326.get krm rfl) (Eq.trans (hf288.get krm rfl) (Eq.trans (hf284.get krm rfl) (Eq.trans (hf122.get krm rfl) (Eq.trans (hf65.get krm rfl) (Eq.trans (hf4.get krm rfl) eG9.symm)))))))))))
                        have hG9t : (I362 rm 9).toInt = G9.toInt := congrArg Int32.toInt hG9
                        have hGN : I362 rm 10 = N1 := (Eq.trans (up2_at (Or.inr (by decide)) eI362) (Eq.trans (up2_kk eI358 hK351 krm (by omega)) (Eq.trans (up2_kk eI356 hk354 krm (by decide)) (Eq.trans (up2_kk eI353 hk351 krm (by omega)) (Eq.trans (up2_kk eI350 hk348 krm (by decide)) (Eq.trans (hf326.get krm rfl) (Eq.trans (hf288.get krm rfl) (Eq.trans (hf284.get krm rfl) (Eq.trans (hf122.get krm rfl) eN1.symm)))))))))
                        have hGNt : (I362 rm 10).toInt = N1.toInt := congrArg Int32.toInt hGN
                        have hv8 : I362 a0 8 = A9 := (Eq.trans (up2_kk eI362 krm ka0 (by decide)) (Eq.trans (up2_kk eI358 hK351 ka0 (by omega)) (Eq.trans (up2_kk eI356 hk354 ka0 (by decide)) (Eq.trans (up2_kk eI353 hk351 ka0 (by omega)) (Eq.trans (up2_kk eI350 hk348 ka0 (by decide)) eA9.symm)))))
                        have hv8t : (I362 a0 8).toInt = A9.toInt := congrArg Int32.toInt hv8
                        have hv9 : I362 a0 9 = x345_ := (Eq.trans (up2_kk eI362 krm ka0 (by decide)) (Eq.trans (up2_kk eI358 hK351 ka0 (by omega)) (Eq.trans (up2_kk eI356 hk354 ka0 (by decide)) (Eq.trans (up2_kk eI353 hk351 ka0 (by omega)) (Eq.trans (up2_kk eI350 hk348 ka0 (by decide)) e345.symm)))))
                        have hv9t : (I362 a0 9).toInt = x345_.toInt := congrArg Int32.toInt hv9
                        exact r_vret hC hQ hlk hr (by decide) (by decide) dX10_readStory_283 ⟨_, _, rfl, rfl, ⟨hs362, hF362, hFJ326, (by first | (left; omega) | (right; omega)), (by omega), (by omega), (by omega)⟩⟩
                      · have hG3 : I326 rm 3 = G3 := (Eq.trans (hf326.get krm rfl) (Eq.trans (hf288.get krm rfl) (Eq.trans (hf284.get krm rfl) (Eq.trans (hf122.get krm rfl) (Eq.trans (hf65.get krm rfl) (Eq.trans (hf4.get krm rfl) eG3.symm))))))
                        have hG3t : (I326 rm 3).toInt = G3.toInt := congrArg Int32.toInt hG3
                        have hG4 : I326 rm 4 = G4 := (Eq.trans (hf326.get krm rfl) (Eq.trans (hf288.get krm rfl) (Eq.trans (hf284.get krm rfl) (Eq.trans (hf122.get krm rfl) (Eq.trans (hf65.get krm rfl) (Eq.trans (hf4.get krm rfl) eG4.symm))))))
                        have hG4t : (I326 rm 4).toInt = G4.toInt := congrArg Int32.toInt hG4
                        have hG7 : I326 rm 7 = x63_ := (Eq.trans (hf326.get krm rfl) (Eq.trans (hf288.get krm rfl) (Eq.trans (hf284.get krm rfl) (Eq.trans (hf122.get krm rfl) (Eq.trans (hf65.get krm rfl) e63.symm)))))
                        have hG7t : (I326 rm 7).toInt = x63_.toInt := congrArg Int32.toInt hG7
                        have hG8 : I326 rm 8 = G8 := (Eq.trans (hf326.get krm rfl) (Eq.trans (hf288.get krm rfl) (Eq.trans (hf284.get krm rfl) (Eq.trans (hf122.get krm rfl) (Eq.trans (hf65.get krm rfl) (Eq.trans (hf4.get krm rfl) eG8.symm))))))
                        have hG8t : (I326 rm 8).toInt = G8.toInt := congrArg Int32.toInt hG8
                        have hG9 : I326 rm 9 = G9 := (Eq.trans (hf326.get krm rfl) (Eq.trans (hf288.get krm rfl) (Eq.trans (hf284.get krm rfl) (Eq.trans (hf122.get krm rfl) (Eq.trans (hf65.get krm rfl) (Eq.trans (hf4.get krm rfl) eG9.symm))))))
                        have hG9t : (I326 rm 9).toInt = G9.toInt := congrArg Int32.toInt hG9
                        have hGN : I326 rm 10 = N1 := (Eq.trans (hf326.get krm rfl) (Eq.trans (hf288.get krm rfl) (Eq.trans (hf284.get krm rfl) (Eq.trans (hf122.get krm rfl) eN1.symm))))
                        have hGNt : (I326 rm 10).toInt = N1.toInt := congrArg Int32.toInt hGN
                        have hv8 : I326 a0 8 = A9 := eA9.symm
                        have hv8t : (I326 a0 8).toInt = A9.toInt := congrArg Int32.toInt hv8
                        have hv9 : I326 a0 9 = x345_ := e345.symm
                        have hv9t : (I326 a0 9).toInt = x345_.toInt := congrArg Int32.toInt hv9
                        exact r_vret hC hQ hlk hr (by decide) (by decide) dX10_readStory_204 ⟨_, _, rfl, rfl, ⟨hs326, hF326, hFJ326, (by first | (left; omega) | (right; omega)), (by omega), (by omega), (by omega)⟩⟩
              · replace k178_2 := k178_2 c179
                refine r_iconst hC (v := (3)) dX10_readStory_83 (by decide) (by decide) (fun x363_ e363 t363 => ?_)
                refine r_goto hC (tgt := 115) dX10_readStory_84 (by decide) ?_
                refine r_istore_n hC (lv' := [(2, .int x363_), (1, .int x122_), (0, .ref a0)]) dX10_readStory_115 (by decide) rfl ?_
                refine r_iload_n hC dX10_readStory_116 0 rfl ?_
                refine r_iconst hC (v := (-1)) dX10_readStory_117 (by decide) (by decide) (fun x364_ e364 t364 => ?_)
                refine r_icmp_ne hC (tgt := 126) dX10_readStory_118 (by decide) (fun c365 => ?_) (fun c365 => ?_)
                rotate_left
                · exfalso; omega
                refine r_aload_n hC dX10_readStory_126 2 rfl ?_
                have md366 : (I122 a0 9).toInt ≠ 5 := by omega
                refine r_callV hC (As := []) (rest := []) (ci := 10) (c_X10_goesOn g (xL X) K len I122 J122 R hs122 a0 ka0) mT_5_199 mT_1_10 mT_5_196 mT_5_198 mP_49 okX10_goesOn ⟨by decide, by decide⟩ rfl (by show kO (K a0) = _; rw [ka0]; rfl) rfl rfl (Nat.le_of_ble_eq_true rfl) ⟨by decide, by decide⟩ dX10_readStory_127 (aV2 (F := fun st M => P g X 5 130 [(2, .int x363_), (1, .int x122_), (0, .ref a0)] st _ _ M) (M := (K, len, I122, J122, R)) fun I367 J367 h367 => ?_)
                obtain ⟨hs367, hf367, hfj367, k367_0, k367_1, k367_2, k367_3⟩ := h367
                show P g X 5 130 [(2, .int x363_), (1, .int x122_), (0, .ref a0)] [] _ _ (K, len, I367, J367, R)
                have hF367 : Fr K [(10, 7), (10, 10), (11, 8), (11, 9), (11, 10), (11, 11), (11, 12), (11, 13), (75, 999), (76, 999), (83, 999), (84, 999), (1000, 999)] I I367 := hF122.trans hf367 rfl rfl
                have hFJ367 : Fr K [(11, 14), (82, 999)] J J367 := hFJ122.trans hfj367 rfl rfl
                clear k122_3
                have sf367 := k367_1 md366
                replace k367_3 := k367_3 md366
                clear k367_0 k367_1 md366 sf122
                refine r_aload_n hC dX10_readStory_130 2 rfl ?_
                refine r_iconst hC (v := (0)) dX10_readStory_131 (by decide) (by decide) (fun x368_ e368 t368 => ?_)
                refine r_bipush hC (v := (99)) dX10_readStory_132 (by decide) (by decide) (fun x369_ e369 t369 => ?_)
                have md370 : (I367 a0 9).toInt ≠ 5 := by omega
                refine r_callV hC (As := [.int x368_, .int x369_]) (rest := []) (ci := 10) (c_X10_readWhole g (xL X) K len I367 J367 R hs367 a0 ka0 x368_ x369_) mT_6_5 mT_1_10 mT_6_2 mT_6_4 mP_57 okX10_readWhole ⟨by decide, by decide⟩ rfl (by show kO (K a0) = _; rw [ka0]; rfl) rfl rfl (Nat.le_of_ble_eq_true rfl) ⟨by decide, by decide⟩ dX10_readStory_134 (aI2 (F := fun st M => P g X 5 137 [(2, .int x363_), (1, .int x122_), (0, .ref a0)] st _ _ M) (M := (K, len, I367, J367, R)) fun x371_ I371 J371 h371 => ?_)
                obtain ⟨hs371, hf371, hfj371, k371_0, k371_1, k371_2, k371_3⟩ := h371
                show P g X 5 137 [(2, .int x363_), (1, .int x122_), (0, .ref a0)] [.int x371_] _ _ (K, len, I371, J371, R)
                have hF371 : Fr K [(10, 7), (10, 10), (11, 8), (11, 9), (11, 10), (11, 11), (11, 12), (11, 13), (75, 999), (76, 999), (83, 999), (84, 999), (1000, 999)] I I371 := hF367.trans hf371 rfl rfl
                have hFJ371 : Fr K [(11, 14), (82, 999)] J J371 := hFJ367.trans hfj371 rfl rfl
                clear k367_3
                by_cases sf371 : (I371 a0 9).toInt = 5
                · clear k371_0 k371_1 k371_3 md370 sf367
                  refine r_istore_n hC (lv' := [(3, .int x371_), (2, .int x363_), (1, .int x122_), (0, .ref a0)]) dX10_readStory_137 (by decide) rfl ?_
                  refine r_iload_n hC dX10_readStory_138 1 rfl ?_
                  refine r_iconst hC (v := (2)) dX10_readStory_139 (by decide) (by decide) (fun x372_ e372 t372 => ?_)
                  refine r_icmp_ne hC (tgt := 156) dX10_readStory_140 (by decide) (fun c373 => ?_) (fun c373 => ?_)
                  rotate_left
                  · exfalso; omega
                  refine r_iload_n hC dX10_readStory_156 1 rfl ?_
                  refine r_iconst hC (v := (3)) dX10_readStory_157 (by decide) (by decide) (fun x374_ e374 t374 => ?_)
                  refine r_icmp_ne hC (tgt := 175) dX10_readStory_158 (by decide) (fun c375 => ?_) (fun c375 => ?_)
                  · exfalso; omega
                  refine r_aload_n hC dX10_readStory_161 3 rfl ?_
                  refine r_ldcwS hC (i := 53) (by decide) rfl rfl dX10_readStory_162 ?_
                  refine r_iconst hC (v := (0)) dX10_readStory_165 (by decide) (by decide) (fun x376_ e376 t376 => ?_)
                  refine r_sipush hC (v := (999)) dX10_readStory_166 (by decide) (by decide) (fun x377_ e377 t377 => ?_)
                  have md378 : (I371 a0 9).toInt = 5 := by omega
                  refine r_callV hC (As := [.ref (g.2.2.1 53), .int x376_, .int x377_]) (rest := []) (ci := 10) (c_X10_readPart g (xL X) K len I371 J371 R hs371 a0 ka0 53 (by decide) x376_ x377_) mT_6_1 mT_1_10 mT_5_238 mT_6_0 mP_56 okX10_readPart ⟨by decide, by decide⟩ rfl (by show kO (K a0) = _; rw [ka0]; rfl) rfl rfl (Nat.le_of_ble_eq_true rfl) ⟨by decide, by decide⟩ dX10_readStory_169 (aI2 (F := fun st M => P g X 5 172 [(3, .int x371_), (2, .int x363_), (1, .int x122_), (0, .ref a0)] st _ _ M) (M := (K, len, I371, J371, R)) fun x379_ I379 J379 h379 => ?_)
                  obtain ⟨hs379, hf379, hfj379, k379_0, k379_1, k379_2, k379_3⟩ := h379
                  show P g X 5 172 [(3, .int x371_), (2, .int x363_), (1, .int x122_), (0, .ref a0)] [.int x379_] _ _ (K, len, I379, J379, R)
                  have hF379 : Fr K [(10, 7), (10, 10), (11, 8), (11, 9), (11, 10), (11, 11), (11, 12), (11, 13), (75, 999), (76, 999), (83, 999), (84, 999), (1000, 999)] I I379 := hF371.trans hf379 rfl rfl
                  have hFJ379 : Fr K [(11, 14), (82, 999)] J J379 := hFJ371.trans hfj379 rfl rfl
                  have sf379 := k379_0 md378
                  clear k379_0 k379_1 k379_3 md378 sf371
                  refine r_goto hC (tgt := 194) dX10_readStory_172 (by decide) ?_
                  refine r_istore hC (lv' := [(4, .int x379_), (3, .int x371_), (2, .int x363_), (1, .int x122_), (0, .ref a0)]) dX10_readStory_194 (by decide) rfl ?_
                  refine r_aload_n hC dX10_readStory_196 4 rfl ?_
                  obtain ⟨A9, eA9⟩ : ∃ z : Int32, z = I379 a0 8 := ⟨_, rfl⟩
                  have fA9 : A9.toInt = (I379 a0 8).toInt := by rw [eA9]
                  have rA9 := hs379.rng ka0 rfl eA9
                  refine r_geti hC 9 (ci := 10) rfl u10_in (by decide) mT_5_4 dX10_readStory_197 ka0 rfl rfl (fun x380_ e380 => ?_)
                  have f380 : x380_.toInt = (I379 a0 9).toInt := by rw [e380]
                  refine r_iconst hC (v := (5)) dX10_readStory_200 (by decide) (by decide) (fun x381_ e381 t381 => ?_)
                  refine r_icmp_ne hC (tgt := 205) dX10_readStory_201 (by decide) (fun c382 => ?_) (fun c382 => ?_)
                  · refine r_aload_n hC dX10_readStory_205 4 rfl ?_
                    refine r_getr hC 4 (ci := 10) rfl u10_in (by decide) mT_4_239 dX10_readStory_206 ka0 rfl rfl hbr ?_
                    obtain ⟨a383_, hb383, hk383, hn383⟩ := hs379.row krm 16 75 6 (by decide) (by decide)
                    refine r_getrN hC 16 (ci := 9) rfl u9_in (by decide) nF_16 dX10_readStory_209 krm rfl rfl hb383 ?_
                    refine r_aload_n hC dX10_readStory_212 4 rfl ?_
                    refine r_getr hC 4 (ci := 10) rfl u10_in (by decide) mT_4_239 dX10_readStory_213 ka0 rfl rfl hbr ?_
                    refine r_getiN hC 7 (ci := 9) rfl u9_in (by decide) nF_7 dX10_readStory_216 krm rfl rfl (fun x384_ e384 => ?_)
                    have r384 := hs379.rng krm rfl e384
                    have f384 : x384_.toInt = (I379 rm 7).toInt := by rw [e384]
                    have w384 : x384_ = x63_ := by rw [e384]; exact (Eq.trans (hf379.get krm rfl) (Eq.trans (hf371.get krm rfl) (Eq.trans (hf367.get krm rfl) (Eq.trans (hf122.get krm rfl) (Eq.trans (hf65.get krm rfl) e63.symm)))))
                    have wt384 : x384_.toInt = x63_.toInt := by rw [w384]
                    refine r_iload_n hC dX10_readStory_219 3 rfl ?_
                    refine x_iastore hC hk383 hn383 (by decide) rfl rfl dX10_readStory_220 (by omega) (by omega) (fun I385 eI385 => ?_)
                    have hs385 := hs379.put0 eI385 hk383 (rng_arr (by decide) _) rfl (xF_arr (by decide) _) (by decide)
                    have hF385 := hF379.put eI385 hk383 (inS_arr rfl _)
                    refine r_aload_n hC dX10_readStory_221 4 rfl ?_
                    refine r_getr hC 4 (ci := 10) rfl u10_in (by decide) mT_4_239 dX10_readStory_222 ka0 rfl rfl hbr ?_
                    obtain ⟨kd386, mo386, hb386, hk386, hn386, hB386, hK386, hN386⟩ := hs385.2.2.1 rm krm
                    refine r_getrN hC 17 (ci := 9) rfl u9_in (by decide) nF_17 dX10_readStory_225 krm rfl rfl hb386 ?_
                    refine r_aload_n hC dX10_readStory_228 4 rfl ?_
                    refine r_getr hC 4 (ci := 10) rfl u10_in (by decide) mT_4_239 dX10_readStory_229 ka0 rfl rfl hbr ?_
                    refine r_getiN hC 7 (ci := 9) rfl u9_in (by decide) nF_7 dX10_readStory_232 krm rfl rfl (fun x387_ e387 => ?_)
                    have r387 := hs385.rng krm rfl e387
                    have f387 : x387_.toInt = (I385 rm 7).toInt := by rw [e387]
                    have w387 : x387_ = x384_ := by rw [e387]; exact (Eq.trans (up2_kk eI385 hk383 krm (by decide)) e384.symm)
                    have wt387 : x387_.toInt = x384_.toInt := by rw [w387]
                    refine r_iload_n hC dX10_readStory_235 2 rfl ?_
                    refine x_iastore hC hk386 hn386 (by omega) (kOb (by omega)) (kAb (by omega)) dX10_readStory_236 (by omega) (by omega) (fun I388 eI388 => ?_)
                    have hs388 : Sf K len I388 R := hs385.putK (rm := rm) eI388 (Or.inl hk386) (by have h9 := clampI (i := x387_) (by omega); omega)
                    have hF388 := hF385.put eI388 hk386 (inS_big rfl (by omega) _)
                    refine r_aload_n hC dX10_readStory_237 4 rfl ?_
                    refine r_getr hC 4 (ci := 10) rfl u10_in (by decide) mT_4_239 dX10_readStory_238 ka0 rfl rfl hbr ?_
                    obtain ⟨a389_, hb389, hk389, hn389⟩ := hs388.row krm 18 76 6 (by decide) (by decide)
                    refine r_getrN hC 18 (ci := 9) rfl u9_in (by decide) nF_18 dX10_readStory_241 krm rfl rfl hb389 ?_
                    refine r_aload_n hC dX10_readStory_244 4 rfl ?_
                    refine r_getr hC 4 (ci := 10) rfl u10_in (by decide) mT_4_239 dX10_readStory_245 ka0 rfl rfl hbr ?_
                    refine r_getiN hC 7 (ci := 9) rfl u9_in (by decide) nF_7 dX10_readStory_248 krm rfl rfl (fun x390_ e390 => ?_)
                    have r390 := hs388.rng krm rfl e390
                    have f390 : x390_.toInt = (I388 rm 7).toInt := by rw [e390]
                    have w390 : x390_ = x387_ := by rw [e390]; exact (Eq.trans (up2_kk eI388 hk386 krm (by omega)) e387.symm)
                    have wt390 : x390_.toInt = x387_.toInt := by rw [w390]
                    refine r_iload_n hC dX10_readStory_251 1 rfl ?_
                    refine x_iastore hC hk389 hn389 (by decide) rfl rfl dX10_readStory_252 (by omega) (by omega) (fun I391 eI391 => ?_)
                    have hs391 := hs388.put0 eI391 hk389 (rng_arr (by decide) _) rfl (xF_arr (by decide) _) (by decide)
                    have hF391 := hF388.put eI391 hk389 (inS_arr rfl _)
                    refine r_aload_n hC dX10_readStory_253 4 rfl ?_
                    refine r_getr hC 4 (ci := 10) rfl u10_in (by decide) mT_4_239 dX10_readStory_254 ka0 rfl rfl hbr ?_
                    refine r_getrN hC 19 (ci := 9) rfl u9_in (by decide) nF_19 dX10_readStory_257 krm rfl rfl hB386 ?_
                    refine r_aload_n hC dX10_readStory_260 4 rfl ?_
                    refine r_getr hC 4 (ci := 10) rfl u10_in (by decide) mT_4_239 dX10_readStory_261 ka0 rfl rfl hbr ?_
                    refine r_getiN hC 7 (ci := 9) rfl u9_in (by decide) nF_7 dX10_readStory_264 krm rfl rfl (fun x392_ e392 => ?_)
                    have r392 := hs391.rng krm rfl e392
                    have f392 : x392_.toInt = (I391 rm 7).toInt := by rw [e392]
                    have w392 : x392_ = x390_ := by rw [e392]; exact (Eq.trans (up2_kk eI391 hk389 krm (by decide)) e390.symm)
                    have wt392 : x392_.toInt = x390_.toInt := by rw [w392]
                    refine r_iload hC dX10_readStory_267 0 rfl ?_
                    refine x_iastore hC hK386 hN386 (by omega) (kOb (by omega)) (kAb (by omega)) dX10_readStory_269 (by omega) (by omega) (fun I393 eI393 => ?_)
                    have hs393 : Sf K len I393 R := hs391.putK (rm := rm) eI393 (Or.inr hK386) (by have h9 := clampI (i := x392_) (by omega); omega)
                    have hF393 := hF391.put eI393 hK386 (inS_big rfl (by omega) _)
                    refine r_aload_n hC dX10_readStory_270 4 rfl ?_
                    refine r_getr hC 4 (ci := 10) rfl u10_in (by decide) mT_4_239 dX10_readStory_271 ka0 rfl rfl hbr ?_
                    refine r_dup hC dX10_readStory_274 rfl ?_
                    refine r_getiN hC 7 (ci := 9) rfl u9_in (by decide) nF_7 dX10_readStory_275 krm rfl rfl (fun x394_ e394 => ?_)
                    have r394 := hs393.rng krm rfl e394
                    have f394 : x394_.toInt = (I393 rm 7).toInt := by rw [e394]
                    have w394 : x394_ = x392_ := by rw [e394]; exact (Eq.trans (up2_kk eI393 hK386 krm (by omega)) e392.symm)
                    have wt394 : x394_.toInt = x392_.toInt := by rw [w394]
                    refine r_iconst hC (v := (1)) dX10_readStory_278 (by decide) (by decide) (fun x395_ e395 t395 => ?_)
                    refine r_iadd hC dX10_readStory_279 (fun x396_ e396 => ?_)
                    try have t396 : x396_.toInt = x394_.toInt + x395_.toInt := by rw [e396]; exact ti_add (by omega) (by omega)
                    refine r_putiN hC 7 (ci := 9) rfl u9_in tyX9_ok nmX9 (by decide) nF_7 rfl rfl rfl dX10_readStory_280 krm rfl rfl (fun I397 eI397 => ?_)
                    have hs397 : Sf K len I397 R := hs393.putA7 eI397 krm hb386 hB386 (by omega) (by omega) (j := x387_.toNatClampNeg) (by have h9 := clampI (i := x387_) (by omega); omega) (by omega) (by rw [(show I393 kd386 x387_.toNatClampNeg = x363_ from (Eq.trans (up2_kk eI393 hK386 hk386 (by omega)) (Eq.trans (up2_kk eI391 hk389 hk386 (by omega)) (by rw [eI388]; exact up2_self _ _ _ _)))), cl_eq (show x387_.toInt = x392_.toInt by omega), (show I393 mo386 x392_.toNatClampNeg = x379_ from (by rw [eI393]; exact up2_self _ _ _ _))]; omega)
                    have hF397 := hF393.put eI397 krm rfl
                    have hG3 : I397 rm 3 = G3 := (Eq.trans (up2_at (Or.inr (by decide)) eI397) (Eq.trans (up2_kk eI393 hK386 krm (by omega)) (Eq.trans (up2_kk eI391 hk389 krm (by decide)) (Eq.trans (up2_kk eI388 hk386 krm (by omega)) (Eq.trans (up2_kk eI385 hk383 krm (by decide)) (Eq.trans (hf379.get krm rfl) (Eq.trans (hf371.get krm rfl) (Eq.trans (hf367.get krm rfl) (Eq.trans (hf122.get krm rfl) (Eq.trans (hf65.get krm rfl) (Eq.trans (hf4.get krm rfl) eG3.symm)))))))))))
                    have hG3t : (I397 rm 3).toInt = G3.toInt := congrArg Int32.toInt hG3
                    have hG4 : I397 rm 4 = G4 := (Eq.trans (up2_at (Or.inr (by decide)) eI397) (Eq.trans (up2_kk eI393 hK386 krm (by omega)) (Eq.trans (up2_kk eI391 hk389 krm (by decide)) (Eq.trans (up2_kk eI388 hk386 krm (by omega)) (Eq.trans (up2_kk eI385 hk383 krm (by decide)) (Eq.trans (hf379.get krm rfl) (Eq.trans (hf371.get krm rfl) (Eq.trans (hf367.get krm rfl) (Eq.trans (hf122.get krm rfl) (Eq.trans (hf65.get krm rfl) (Eq.trans (hf4.get krm rfl) eG4.symm)))))))))))
                    have hG4t : (I397 rm 4).toInt = G4.toInt := congrArg Int32.toInt hG4
                    have hG7 : I397 rm 7 = x396_ := (by rw [eI397]; exact up2_self _ _ _ _)
                    have hG7t : (I397 rm 7).toInt = x396_.toInt := congrArg Int32.toInt hG7
                    have hG8 : I397 rm 8 = G8 := (Eq.trans (up2_at (Or.inr (by decide)) eI397) (Eq.trans (up2_kk eI393 hK386 krm (by omega)) (Eq.trans (up2_kk eI391 hk389 krm (by decide)) (Eq.trans (up2_kk eI388 hk386 krm (by omega)) (Eq.trans (up2_kk eI385 hk383 krm (by decide)) (Eq.trans (hf379.get krm rfl) (Eq.trans (hf371.get krm rfl) (Eq.trans (hf367.get krm rfl) (Eq.trans (hf122.get krm rfl) (Eq.trans (hf65.get krm rfl) (Eq.trans (hf4.get krm rfl) eG8.symm)))))))))))
                    have hG8t : (I397 rm 8).toInt = G8.toInt := congrArg Int32.toInt hG8
                    have hG9 : I397 rm 9 = G9 := (Eq.trans (up2_at (Or.inr (by decide)) eI397) (Eq.trans (up2_kk eI393 hK386 krm (by omega)) (Eq.trans (up2_kk eI391 hk389 krm (by decide)) (Eq.trans (up2_kk eI388 hk386 krm (by omega)) (Eq.trans (up2_kk eI385 hk383 krm (by decide)) (Eq.trans (hf379.get krm rfl) (Eq.trans (hf371.get krm rfl) (Eq.trans (hf367.get krm rfl) (Eq.trans (hf122.get krm rfl) (Eq.trans (hf65.get krm rfl) (Eq.trans (hf4.get krm rfl) eG9.symm)))))))))))
                    have hG9t : (I397 rm 9).toInt = G9.toInt := congrArg Int32.toInt hG9
                    have hGN : I397 rm 10 = N1 := (Eq.trans (up2_at (Or.inr (by decide)) eI397) (Eq.trans (up2_kk eI393 hK386 krm (by omega)) (Eq.trans (up2_kk eI391 hk389 krm (by decide)) (Eq.trans (up2_kk eI388 hk386 krm (by omega)) (Eq.trans (up2_kk eI385 hk383 krm (by decide)) (Eq.trans (hf379.get krm rfl) (Eq.trans (hf371.get krm rfl) (Eq.trans (hf367.get krm rfl) (Eq.trans (hf122.get krm rfl) eN1.symm)))))))))
                    have hGNt : (I397 rm 10).toInt = N1.toInt := congrArg Int32.toInt hGN
                    have hv8 : I397 a0 8 = A9 := (Eq.trans (up2_kk eI397 krm ka0 (by decide)) (Eq.trans (up2_kk eI393 hK386 ka0 (by omega)) (Eq.trans (up2_kk eI391 hk389 ka0 (by decide)) (Eq.trans (up2_kk eI388 hk386 ka0 (by omega)) (Eq.trans (up2_kk eI385 hk383 ka0 (by decide)) eA9.symm)))))
                    have hv8t : (I397 a0 8).toInt = A9.toInt := congrArg Int32.toInt hv8
                    have hv9 : I397 a0 9 = x380_ := (Eq.trans (up2_kk eI397 krm ka0 (by decide)) (Eq.trans (up2_kk eI393 hK386 ka0 (by omega)) (Eq.trans (up2_kk eI391 hk389 ka0 (by decide)) (Eq.trans (up2_kk eI388 hk386 ka0 (by omega)) (Eq.trans (up2_kk eI385 hk383 ka0 (by decide)) e380.symm)))))
                    have hv9t : (I397 a0 9).toInt = x380_.toInt := congrArg Int32.toInt hv9
                    exact r_vret hC hQ hlk hr (by decide) (by decide) dX10_readStory_283 ⟨_, _, rfl, rfl, ⟨hs397, hF397, hFJ379, (by first | (left; omega) | (right; omega)), (by omega), (by omega), (by omega)⟩⟩
                  · have hG3 : I379 rm 3 = G3 := (Eq.trans (hf379.get krm rfl) (Eq.trans (hf371.get krm rfl) (Eq.trans (hf367.get krm rfl) (Eq.trans (hf122.get krm rfl) (Eq.trans (hf65.get krm rfl) (Eq.trans (hf4.get krm rfl) eG3.symm))))))
                    have hG3t : (I379 rm 3).toInt = G3.toInt := congrArg Int32.toInt hG3
                    have hG4 : I379 rm 4 = G4 := (Eq.trans (hf379.get krm rfl) (Eq.trans (hf371.get krm rfl) (Eq.trans (hf367.get krm rfl) (Eq.trans (hf122.get krm rfl) (Eq.trans (hf65.get krm rfl) (Eq.trans (hf4.get krm rfl) eG4.symm))))))
                    have hG4t : (I379 rm 4).toInt = G4.toInt := congrArg Int32.toInt hG4
                    have hG7 : I379 rm 7 = x63_ := (Eq.trans (hf379.get krm rfl) (Eq.trans (hf371.get krm rfl) (Eq.trans (hf367.get krm rfl) (Eq.trans (hf122.get krm rfl) (Eq.trans (hf65.get krm rfl) e63.symm)))))
                    have hG7t : (I379 rm 7).toInt = x63_.toInt := congrArg Int32.toInt hG7
                    have hG8 : I379 rm 8 = G8 := (Eq.trans (hf379.get krm rfl) (Eq.trans (hf371.get krm rfl) (Eq.trans (hf367.get krm rfl) (Eq.trans (hf122.get krm rfl) (Eq.trans (hf65.get krm rfl) (Eq.trans (hf4.get krm rfl) eG8.symm))))))
                    have hG8t : (I379 rm 8).toInt = G8.toInt := congrArg Int32.toInt hG8
                    have hG9 : I379 rm 9 = G9 := (Eq.trans (hf379.get krm rfl) (Eq.trans (hf371.get krm rfl) (Eq.trans (hf367.get krm rfl) (Eq.trans (hf122.get krm rfl) (Eq.trans (hf65.get krm rfl) (Eq.trans (hf4.get krm rfl) eG9.symm))))))
                    have hG9t : (I379 rm 9).toInt = G9.toInt := congrArg Int32.toInt hG9
                    have hGN : I379 rm 10 = N1 := (Eq.trans (hf379.get krm rfl) (Eq.trans (hf371.get krm rfl) (Eq.trans (hf367.get krm rfl) (Eq.trans (hf122.get krm rfl) eN1.symm))))
                    have hGNt : (I379 rm 10).toInt = N1.toInt := congrArg Int32.toInt hGN
                    have hv8 : I379 a0 8 = A9 := eA9.symm
                    have hv8t : (I379 a0 8).toInt = A9.toInt := congrArg Int32.toInt hv8
                    have hv9 : I379 a0 9 = x380_ := e380.symm
                    have hv9t : (I379 a0 9).toInt = x380_.toInt := congrArg Int32.toInt hv9
                    exact r_vret hC hQ hlk hr (by decide) (by decide) dX10_readStory_204 ⟨_, _, rfl, rfl, ⟨hs379, hF379, hFJ379, (by first | (left; omega) | (right; omega)), (by omega), (by omega), (by omega)⟩⟩
                · replace k371_1 := k371_1 sf371
                  clear k371_0 md370 sf367
                  refine r_istore_n hC (lv' := [(3, .int x371_), (2, .int x363_), (1, .int x122_), (0, .ref a0)]) dX10_readStory_137 (by decide) rfl ?_
                  refine r_iload_n hC dX10_readStory_138 1 rfl ?_
                  refine r_iconst hC (v := (2)) dX10_readStory_139 (by decide) (by decide) (fun x398_ e398 t398 => ?_)
                  refine r_icmp_ne hC (tgt := 156) dX10_readStory_140 (by decide) (fun c399 => ?_) (fun c399 => ?_)
                  rotate_left
                  · exfalso; omega
                  refine r_iload_n hC dX10_readStory_156 1 rfl ?_
                  refine r_iconst hC (v := (3)) dX10_readStory_157 (by decide) (by decide) (fun x400_ e400 t400 => ?_)
                  refine r_icmp_ne hC (tgt := 175) dX10_readStory_158 (by decide) (fun c401 => ?_) (fun c401 => ?_)
                  · exfalso; omega
                  refine r_aload_n hC dX10_readStory_161 3 rfl ?_
                  refine r_ldcwS hC (i := 53) (by decide) rfl rfl dX10_readStory_162 ?_
                  refine r_iconst hC (v := (0)) dX10_readStory_165 (by decide) (by decide) (fun x402_ e402 t402 => ?_)
                  refine r_sipush hC (v := (999)) dX10_readStory_166 (by decide) (by decide) (fun x403_ e403 t403 => ?_)
                  have md404 : (I371 a0 9).toInt ≠ 5 := by omega
                  refine r_callV hC (As := [.ref (g.2.2.1 53), .int x402_, .int x403_]) (rest := []) (ci := 10) (c_X10_readPart g (xL X) K len I371 J371 R hs371 a0 ka0 53 (by decide) x402_ x403_) mT_6_1 mT_1_10 mT_5_238 mT_6_0 mP_56 okX10_readPart ⟨by decide, by decide⟩ rfl (by show kO (K a0) = _; rw [ka0]; rfl) rfl rfl (Nat.le_of_ble_eq_true rfl) ⟨by decide, by decide⟩ dX10_readStory_169 (aI2 (F := fun st M => P g X 5 172 [(3, .int x371_), (2, .int x363_), (1, .int x122_), (0, .ref a0)] st _ _ M) (M := (K, len, I371, J371, R)) fun x405_ I405 J405 h405 => ?_)
                  obtain ⟨hs405, hf405, hfj405, k405_0, k405_1, k405_2, k405_3⟩ := h405
                  show P g X 5 172 [(3, .int x371_), (2, .int x363_), (1, .int x122_), (0, .ref a0)] [.int x405_] _ _ (K, len, I405, J405, R)
                  have hF405 : Fr K [(10, 7), (10, 10), (11, 8), (11, 9), (11, 10), (11, 11), (11, 12), (11, 13), (75, 999), (76, 999), (83, 999), (84, 999), (1000, 999)] I I405 := hF371.trans hf405 rfl rfl
                  have hFJ405 : Fr K [(11, 14), (82, 999)] J J405 := hFJ371.trans hfj405 rfl rfl
                  clear k371_3
                  by_cases sf405 : (I405 a0 9).toInt = 5
                  · clear k405_0 k405_1 k405_3 md404 sf371
                    refine r_goto hC (tgt := 194) dX10_readStory_172 (by decide) ?_
                    refine r_istore hC (lv' := [(4, .int x405_), (3, .int x371_), (2, .int x363_), (1, .int x122_), (0, .ref a0)]) dX10_readStory_194 (by decide) rfl ?_
                    refine r_aload_n hC dX10_readStory_196 4 rfl ?_
                    obtain ⟨A9, eA9⟩ : ∃ z : Int32, z = I405 a0 8 := ⟨_, rfl⟩
                    have fA9 : A9.toInt = (I405 a0 8).toInt := by rw [eA9]
                    have rA9 := hs405.rng ka0 rfl eA9
                    refine r_geti hC 9 (ci := 10) rfl u10_in (by decide) mT_5_4 dX10_readStory_197 ka0 rfl rfl (fun x406_ e406 => ?_)
                    have f406 : x406_.toInt = (I405 a0 9).toInt := by rw [e406]
                    refine r_iconst hC (v := (5)) dX10_readStory_200 (by decide) (by decide) (fun x407_ e407 t407 => ?_)
                    refine r_icmp_ne hC (tgt := 205) dX10_readStory_201 (by decide) (fun c408 => ?_) (fun c408 => ?_)
                    · refine r_aload_n hC dX10_readStory_205 4 rfl ?_
                      refine r_getr hC 4 (ci := 10) rfl u10_in (by decide) mT_4_239 dX10_readStory_206 ka0 rfl rfl hbr ?_
                      obtain ⟨a409_, hb409, hk409, hn409⟩ := hs405.row krm 16 75 6 (by decide) (by decide)
                      refine r_getrN hC 16 (ci := 9) rfl u9_in (by decide) nF_16 dX10_readStory_209 krm rfl rfl hb409 ?_
                      refine r_aload_n hC dX10_readStory_212 4 rfl ?_
                      refine r_getr hC 4 (ci := 10) rfl u10_in (by decide) mT_4_239 dX10_readStory_213 ka0 rfl rfl hbr ?_
                      refine r_getiN hC 7 (ci := 9) rfl u9_in (by decide) nF_7 dX10_readStory_216 krm rfl rfl (fun x410_ e410 => ?_)
                      have r410 := hs405.rng krm rfl e410
                      have f410 : x410_.toInt = (I405 rm 7).toInt := by rw [e410]
                      have w410 : x410_ = x63_ := by rw [e410]; exact (Eq.trans (hf405.get krm rfl) (Eq.trans (hf371.get krm rfl) (Eq.trans (hf367.get krm rfl) (Eq.trans (hf122.get krm rfl) (Eq.trans (hf65.get krm rfl) e63.symm)))))
                      have wt410 : x410_.toInt = x63_.toInt := by rw [w410]
                      refine r_iload_n hC dX10_readStory_219 3 rfl ?_
                      refine x_iastore hC hk409 hn409 (by decide) rfl rfl dX10_readStory_220 (by omega) (by omega) (fun I411 eI411 => ?_)
                      have hs411 := hs405.put0 eI411 hk409 (rng_arr (by decide) _) rfl (xF_arr (by decide) _) (by decide)
                      have hF411 := hF405.put eI411 hk409 (inS_arr rfl _)
                      refine r_aload_n hC dX10_readStory_221 4 rfl ?_
                      refine r_getr hC 4 (ci := 10) rfl u10_in (by decide) mT_4_239 dX10_readStory_222 ka0 rfl rfl hbr ?_
                      obtain ⟨kd412, mo412, hb412, hk412, hn412, hB412, hK412, hN412⟩ := hs411.2.2.1 rm krm
                      refine r_getrN hC 17 (ci := 9) rfl u9_in (by decide) nF_17 dX10_readStory_225 krm rfl rfl hb412 ?_
                      refine r_aload_n hC dX10_readStory_228 4 rfl ?_
                      refine r_getr hC 4 (ci := 10) rfl u10_in (by decide) mT_4_239 dX10_readStory_229 ka0 rfl rfl hbr ?_
                      refine r_getiN hC 7 (ci := 9) rfl u9_in (by decide) nF_7 dX10_readStory_232 krm rfl rfl (fun x413_ e413 => ?_)
                      have r413 := hs411.rng krm rfl e413
                      have f413 : x413_.toInt = (I411 rm 7).toInt := by rw [e413]
                      have w413 : x413_ = x410_ := by rw [e413]; exact (Eq.trans (up2_kk eI411 hk409 krm (by decide)) e410.symm)
                      have wt413 : x413_.toInt = x410_.toInt := by rw [w413]
                      refine r_iload_n hC dX10_readStory_235 2 rfl ?_
                      refine x_iastore hC hk412 hn412 (by omega) (kOb (by omega)) (kAb (by omega)) dX10_readStory_236 (by omega) (by omega) (fun I414 eI414 => ?_)
                      have hs414 : Sf K len I414 R := hs411.putK (rm := rm) eI414 (Or.inl hk412) (by have h9 := clampI (i := x413_) (by omega); omega)
                      have hF414 := hF411.put eI414 hk412 (inS_big rfl (by omega) _)
                      refine r_aload_n hC dX10_readStory_237 4 rfl ?_
                      refine r_getr hC 4 (ci := 10) rfl u10_in (by decide) mT_4_239 dX10_readStory_238 ka0 rfl rfl hbr ?_
                      obtain ⟨a415_, hb415, hk415, hn415⟩ := hs414.row krm 18 76 6 (by decide) (by decide)
                      refine r_getrN hC 18 (ci := 9) rfl u9_in (by decide) nF_18 dX10_readStory_241 krm rfl rfl hb415 ?_
                      refine r_aload_n hC dX10_readStory_244 4 rfl ?_
                      refine r_getr hC 4 (ci := 10) rfl u10_in (by decide) mT_4_239 dX10_readStory_245 ka0 rfl rfl hbr ?_
                      refine r_getiN hC 7 (ci := 9) rfl u9_in (by decide) nF_7 dX10_readStory_248 krm rfl rfl (fun x416_ e416 => ?_)
                      have r416 := hs414.rng krm rfl e416
                      have f416 : x416_.toInt = (I414 rm 7).toInt := by rw [e416]
                      have w416 : x416_ = x413_ := by rw [e416]; exact (Eq.trans (up2_kk eI414 hk412 krm (by omega)) e413.symm)
                      have wt416 : x416_.toInt = x413_.toInt := by rw [w416]
                      refine r_iload_n hC dX10_readStory_251 1 rfl ?_
                      refine x_iastore hC hk415 hn415 (by decide) rfl rfl dX10_readStory_252 (by omega) (by omega) (fun I417 eI417 => ?_)
                      have hs417 := hs414.put0 eI417 hk415 (rng_arr (by decide) _) rfl (xF_arr (by decide) _) (by decide)
                      have hF417 := hF414.put eI417 hk415 (inS_arr rfl _)
                      refine r_aload_n hC dX10_readStory_253 4 rfl ?_
                      refine r_getr hC 4 (ci := 10) rfl u10_in (by decide) mT_4_239 dX10_readStory_254 ka0 rfl rfl hbr ?_
                      refine r_getrN hC 19 (ci := 9) rfl u9_in (by decide) nF_19 dX10_readStory_257 krm rfl rfl hB412 ?_
                      refine r_aload_n hC dX10_readStory_260 4 rfl ?_
                      refine r_getr hC 4 (ci := 10) rfl u10_in (by decide) mT_4_239 dX10_readStory_261 ka0 rfl rfl hbr ?_
                      refine r_getiN hC 7 (ci := 9) rfl u9_in (by decide) nF_7 dX10_readStory_264 krm rfl rfl (fun x418_ e418 => ?_)
                      have r418 := hs417.rng krm rfl e418
                      have f418 : x418_.toInt = (I417 rm 7).toInt := by rw [e418]
                      have w418 : x418_ = x416_ := by rw [e418]; exact (Eq.trans (up2_kk eI417 hk415 krm (by decide)) e416.symm)
                      have wt418 : x418_.toInt = x416_.toInt := by rw [w418]
                      refine r_iload hC dX10_readStory_267 0 rfl ?_
                      refine x_iastore hC hK412 hN412 (by omega) (kOb (by omega)) (kAb (by omega)) dX10_readStory_269 (by omega) (by omega) (fun I419 eI419 => ?_)
                      have hs419 : Sf K len I419 R := hs417.putK (rm := rm) eI419 (Or.inr hK412) (by have h9 := clampI (i := x418_) (by omega); omega)
                      have hF419 := hF417.put eI419 hK412 (inS_big rfl (by omega) _)
                      refine r_aload_n hC dX10_readStory_270 4 rfl ?_
                      refine r_getr hC 4 (ci := 10) rfl u10_in (by decide) mT_4_239 dX10_readStory_271 ka0 rfl rfl hbr ?_
                      refine r_dup hC dX10_readStory_274 rfl ?_
                      refine r_getiN hC 7 (ci := 9) rfl u9_in (by decide) nF_7 dX10_readStory_275 krm rfl rfl (fun x420_ e420 => ?_)
                      have r420 := hs419.rng krm rfl e420
                      have f420 : x420_.toInt = (I419 rm 7).toInt := by rw [e420]
                      have w420 : x420_ = x418_ := by rw [e420]; exact (Eq.trans (up2_kk eI419 hK412 krm (by omega)) e418.symm)
                      have wt420 : x420_.toInt = x418_.toInt := by rw [w420]
                      refine r_iconst hC (v := (1)) dX10_readStory_278 (by decide) (by decide) (fun x421_ e421 t421 => ?_)
                      refine r_iadd hC dX10_readStory_279 (fun x422_ e422 => ?_)
                      try have t422 : x422_.toInt = x420_.toInt + x421_.toInt := by rw [e422]; exact ti_add (by omega) (by omega)
                      refine r_putiN hC 7 (ci := 9) rfl u9_in tyX9_ok nmX9 (by decide) nF_7 rfl rfl rfl dX10_readStory_280 krm rfl rfl (fun I423 eI423 => ?_)
                      have hs423 : Sf K len I423 R := hs419.putA7 eI423 krm hb412 hB412 (by omega) (by omega) (j := x413_.toNatClampNeg) (by have h9 := clampI (i := x413_) (by omega); omega) (by omega) (by rw [(show I419 kd412 x413_.toNatClampNeg = x363_ from (Eq.trans (up2_kk eI419 hK412 hk412 (by omega)) (Eq.trans (up2_kk eI417 hk415 hk412 (by omega)) (by rw [eI414]; exact up2_self _ _ _ _)))), cl_eq (show x413_.toInt = x418_.toInt by omega), (show I419 mo412 x418_.toNatClampNeg = x405_ from (by rw [eI419]; exact up2_self _ _ _ _))]; omega)
                      have hF423 := hF419.put eI423 krm rfl
                      have hG3 : I423 rm 3 = G3 := (Eq.trans (up2_at (Or.inr (by decide)) eI423) (Eq.trans (up2_kk eI419 hK412 krm (by omega)) (Eq.trans (up2_kk eI417 hk415 krm (by decide)) (Eq.trans (up2_kk eI414 hk412 krm (by omega)) (Eq.trans (up2_kk eI411 hk409 krm (by decide)) (Eq.trans (hf405.get krm rfl) (Eq.trans (hf371.get krm rfl) (Eq.trans (hf367.get krm rfl) (Eq.trans (hf122.get krm rfl) (Eq.trans (hf65.get krm rfl) (Eq.trans (hf4.get krm rfl) eG3.symm)))))))))))
                      have hG3t : (I423 rm 3).toInt = G3.toInt := congrArg Int32.toInt hG3
                      have hG4 : I423 rm 4 = G4 := (Eq.trans (up2_at (Or.inr (by decide)) eI423) (Eq.trans (up2_kk eI419 hK412 krm (by omega)) (Eq.trans (up2_kk eI417 hk415 krm (by decide)) (Eq.trans (up2_kk eI414 hk412 krm (by omega)) (Eq.trans (up2_kk eI411 hk409 krm (by decide)) (Eq.trans (hf405.get krm rfl) (Eq.trans (hf371.get krm rfl) (Eq.trans (hf367.get krm rfl) (Eq.trans (hf122.get krm rfl) (Eq.trans (hf65.get krm rfl) (Eq.trans (hf4.get krm rfl) eG4.symm)))))))))))
                      have hG4t : (I423 rm 4).toInt = G4.toInt := congrArg Int32.toInt hG4
                      have hG7 : I423 rm 7 = x422_ := (by rw [eI423]; exact up2_self _ _ _ _)
                      have hG7t : (I423 rm 7).toInt = x422_.toInt := congrArg Int32.toInt hG7
                      have hG8 : I423 rm 8 = G8 := (Eq.trans (up2_at (Or.inr (by decide)) eI423) (Eq.trans (up2_kk eI419 hK412 krm (by omega)) (Eq.trans (up2_kk eI417 hk415 krm (by decide)) (Eq.trans (up2_kk eI414 hk412 krm (by omega)) (Eq.trans (up2_kk eI411 hk409 krm (by decide)) (Eq.trans (hf405.get krm rfl) (Eq.trans (hf371.get krm rfl) (Eq.trans (hf367.get krm rfl) (Eq.trans (hf122.get krm rfl) (Eq.trans (hf65.get krm rfl) (Eq.trans (hf4.get krm rfl) eG8.symm)))))))))))
                      have hG8t : (I423 rm 8).toInt = G8.toInt := congrArg Int32.toInt hG8
                      have hG9 : I423 rm 9 = G9 := (Eq.trans (up2_at (Or.inr (by decide)) eI423) (Eq.trans (up2_kk eI419 hK412 krm (by omega)) (Eq.trans (up2_kk eI417 hk415 krm (by decide)) (Eq.trans (up2_kk eI414 hk412 krm (by omega)) (Eq.trans (up2_kk eI411 hk409 krm (by decide)) (Eq.trans (hf405.get krm rfl) (Eq.trans (hf371.get krm rfl) (Eq.trans (hf367.get krm rfl) (Eq.trans (hf122.get krm rfl) (Eq.trans (hf65.get krm rfl) (Eq.trans (hf4.get krm rfl) eG9.symm)))))))))))
                      have hG9t : (I423 rm 9).toInt = G9.toInt := congrArg Int32.toInt hG9
                      have hGN : I423 rm 10 = N1 := (Eq.trans (up2_at (Or.inr (by decide)) eI423) (Eq.trans (up2_kk eI419 hK412 krm (by omega)) (Eq.trans (up2_kk eI417 hk415 krm (by decide)) (Eq.trans (up2_kk eI414 hk412 krm (by omega)) (Eq.trans (up2_kk eI411 hk409 krm (by decide)) (Eq.trans (hf405.get krm rfl) (Eq.trans (hf371.get krm rfl) (Eq.trans (hf367.get krm rfl) (Eq.trans (hf122.get krm rfl) eN1.symm)))))))))
                      have hGNt : (I423 rm 10).toInt = N1.toInt := congrArg Int32.toInt hGN
                      have hv8 : I423 a0 8 = A9 := (Eq.trans (up2_kk eI423 krm ka0 (by decide)) (Eq.trans (up2_kk eI419 hK412 ka0 (by omega)) (Eq.trans (up2_kk eI417 hk415 ka0 (by decide)) (Eq.trans (up2_kk eI414 hk412 ka0 (by omega)) (Eq.trans (up2_kk eI411 hk409 ka0 (by decide)) eA9.symm)))))
                      have hv8t : (I423 a0 8).toInt = A9.toInt := congrArg Int32.toInt hv8
                      have hv9 : I423 a0 9 = x406_ := (Eq.trans (up2_kk eI423 krm ka0 (by decide)) (Eq.trans (up2_kk eI419 hK412 ka0 (by omega)) (Eq.trans (up2_kk eI417 hk415 ka0 (by decide)) (Eq.trans (up2_kk eI414 hk412 ka0 (by omega)) (Eq.trans (up2_kk eI411 hk409 ka0 (by decide)) e406.symm)))))
                      have hv9t : (I423 a0 9).toInt = x406_.toInt := congrArg Int32.toInt hv9
                      exact r_vret hC hQ hlk hr (by decide) (by decide) dX10_readStory_283 ⟨_, _, rfl, rfl, ⟨hs423, hF423, hFJ405, (by first | (left; omega) | (right; omega)), (by omega), (by omega), (by omega)⟩⟩
                    · have hG3 : I405 rm 3 = G3 := (Eq.trans (hf405.get krm rfl) (Eq.trans (hf371.get krm rfl) (Eq.trans (hf367.get krm rfl) (Eq.trans (hf122.get krm rfl) (Eq.trans (hf65.get krm rfl) (Eq.trans (hf4.get krm rfl) eG3.symm))))))
                      have hG3t : (I405 rm 3).toInt = G3.toInt := congrArg Int32.toInt hG3
                      have hG4 : I405 rm 4 = G4 := (Eq.trans (hf405.get krm rfl) (Eq.trans (hf371.get krm rfl) (Eq.trans (hf367.get krm rfl) (Eq.trans (hf122.get krm rfl) (Eq.trans (hf65.get krm rfl) (Eq.trans (hf4.get krm rfl) eG4.symm))))))
                      have hG4t : (I405 rm 4).toInt = G4.toInt := congrArg Int32.toInt hG4
                      have hG7 : I405 rm 7 = x63_ := (Eq.trans (hf405.get krm rfl) (Eq.trans (hf371.get krm rfl) (Eq.trans (hf367.get krm rfl) (Eq.trans (hf122.get krm rfl) (Eq.trans (hf65.get krm rfl) e63.symm)))))
                      have hG7t : (I405 rm 7).toInt = x63_.toInt := congrArg Int32.toInt hG7
                      have hG8 : I405 rm 8 = G8 := (Eq.trans (hf405.get krm rfl) (Eq.trans (hf371.get krm rfl) (Eq.trans (hf367.get krm rfl) (Eq.trans (hf122.get krm rfl) (Eq.trans (hf65.get krm rfl) (Eq.trans (hf4.get krm rfl) eG8.symm))))))
                      have hG8t : (I405 rm 8).toInt = G8.toInt := congrArg Int32.toInt hG8
                      have hG9 : I405 rm 9 = G9 := (Eq.trans (hf405.get krm rfl) (Eq.trans (hf371.get krm rfl) (Eq.trans (hf367.get krm rfl) (Eq.trans (hf122.get krm rfl) (Eq.trans (hf65.get krm rfl) (Eq.trans (hf4.get krm rfl) eG9.symm))))))
                      have hG9t : (I405 rm 9).toInt = G9.toInt := congrArg Int32.toInt hG9
                      have hGN : I405 rm 10 = N1 := (Eq.trans (hf405.get krm rfl) (Eq.trans (hf371.get krm rfl) (Eq.trans (hf367.get krm rfl) (Eq.trans (hf122.get krm rfl) eN1.symm))))
                      have hGNt : (I405 rm 10).toInt = N1.toInt := congrArg Int32.toInt hGN
                      have hv8 : I405 a0 8 = A9 := eA9.symm
                      have hv8t : (I405 a0 8).toInt = A9.toInt := congrArg Int32.toInt hv8
                      have hv9 : I405 a0 9 = x406_ := e406.symm
                      have hv9t : (I405 a0 9).toInt = x406_.toInt := congrArg Int32.toInt hv9
                      exact r_vret hC hQ hlk hr (by decide) (by decide) dX10_readStory_204 ⟨_, _, rfl, rfl, ⟨hs405, hF405, hFJ405, (by first | (left; omega) | (right; omega)), (by omega), (by omega), (by omega)⟩⟩
                  · replace k405_1 := k405_1 sf405
                    clear k405_0 md404 sf371
                    refine r_goto hC (tgt := 194) dX10_readStory_172 (by decide) ?_
                    refine r_istore hC (lv' := [(4, .int x405_), (3, .int x371_), (2, .int x363_), (1, .int x122_), (0, .ref a0)]) dX10_readStory_194 (by decide) rfl ?_
                    refine r_aload_n hC dX10_readStory_196 4 rfl ?_
                    obtain ⟨A9, eA9⟩ : ∃ z : Int32, z = I405 a0 8 := ⟨_, rfl⟩
                    have fA9 : A9.toInt = (I405 a0 8).toInt := by rw [eA9]
                    have rA9 := hs405.rng ka0 rfl eA9
                    refine r_geti hC 9 (ci := 10) rfl u10_in (by decide) mT_5_4 dX10_readStory_197 ka0 rfl rfl (fun x424_ e424 => ?_)
                    have f424 : x424_.toInt = (I405 a0 9).toInt := by rw [e424]
                    refine r_iconst hC (v := (5)) dX10_readStory_200 (by decide) (by decide) (fun x425_ e425 t425 => ?_)
                    refine r_icmp_ne hC (tgt := 205) dX10_readStory_201 (by decide) (fun c426 => ?_) (fun c426 => ?_)
                    · refine r_aload_n hC dX10_readStory_205 4 rfl ?_
                      refine r_getr hC 4 (ci := 10) rfl u10_in (by decide) mT_4_239 dX10_readStory_206 ka0 rfl rfl hbr ?_
                      obtain ⟨a427_, hb427, hk427, hn427⟩ := hs405.row krm 16 75 6 (by decide) (by decide)
                      refine r_getrN hC 16 (ci := 9) rfl u9_in (by decide) nF_16 dX10_readStory_209 krm rfl rfl hb427 ?_
                      refine r_aload_n hC dX10_readStory_212 4 rfl ?_
                      refine r_getr hC 4 (ci := 10) rfl u10_in (by decide) mT_4_239 dX10_readStory_213 ka0 rfl rfl hbr ?_
                      refine r_getiN hC 7 (ci := 9) rfl u9_in (by decide) nF_7 dX10_readStory_216 krm rfl rfl (fun x428_ e428 => ?_)
                      have r428 := hs405.rng krm rfl e428
                      have f428 : x428_.toInt = (I405 rm 7).toInt := by rw [e428]
                      have w428 : x428_ = x63_ := by rw [e428]; exact (Eq.trans (hf405.get krm rfl) (Eq.trans (hf371.get krm rfl) (Eq.trans (hf367.get krm rfl) (Eq.trans (hf122.get krm rfl) (Eq.trans (hf65.get krm rfl) e63.symm)))))
                      have wt428 : x428_.toInt = x63_.toInt := by rw [w428]
                      refine r_iload_n hC dX10_readStory_219 3 rfl ?_
                      refine x_iastore hC hk427 hn427 (by decide) rfl rfl dX10_readStory_220 (by omega) (by omega) (fun I429 eI429 => ?_)
                      have hs429 := hs405.put0 eI429 hk427 (rng_arr (by decide) _) rfl (xF_arr (by decide) _) (by decide)
                      have hF429 := hF405.put eI429 hk427 (inS_arr rfl _)
                      refine r_aload_n hC dX10_readStory_221 4 rfl ?_
                      refine r_getr hC 4 (ci := 10) rfl u10_in (by decide) mT_4_239 dX10_readStory_222 ka0 rfl rfl hbr ?_
                      obtain ⟨kd430, mo430, hb430, hk430, hn430, hB430, hK430, hN430⟩ := hs429.2.2.1 rm krm
                      refine r_getrN hC 17 (ci := 9) rfl u9_in (by decide) nF_17 dX10_readStory_225 krm rfl rfl hb430 ?_
                      refine r_aload_n hC dX10_readStory_228 4 rfl ?_
                      refine r_getr hC 4 (ci := 10) rfl u10_in (by decide) mT_4_239 dX10_readStory_229 ka0 rfl rfl hbr ?_
                      refine r_getiN hC 7 (ci := 9) rfl u9_in (by decide) nF_7 dX10_readStory_232 krm rfl rfl (fun x431_ e431 => ?_)
                      have r431 := hs429.rng krm rfl e431
                      have f431 : x431_.toInt = (I429 rm 7).toInt := by rw [e431]
                      have w431 : x431_ = x428_ := by rw [e431]; exact (Eq.trans (up2_kk eI429 hk427 krm (by decide)) e428.symm)
                      have wt431 : x431_.toInt = x428_.toInt := by rw [w431]
                      refine r_iload_n hC dX10_readStory_235 2 rfl ?_
                      refine x_iastore hC hk430 hn430 (by omega) (kOb (by omega)) (kAb (by omega)) dX10_readStory_236 (by omega) (by omega) (fun I432 eI432 => ?_)
                      have hs432 : Sf K len I432 R := hs429.putK (rm := rm) eI432 (Or.inl hk430) (by have h9 := clampI (i := x431_) (by omega); omega)
                      have hF432 := hF429.put eI432 hk430 (inS_big rfl (by omega) _)
                      refine r_aload_n hC dX10_readStory_237 4 rfl ?_
                      refine r_getr hC 4 (ci := 10) rfl u10_in (by decide) mT_4_239 dX10_readStory_238 ka0 rfl rfl hbr ?_
                      obtain ⟨a433_, hb433, hk433, hn433⟩ := hs432.row krm 18 76 6 (by decide) (by decide)
                      refine r_getrN hC 18 (ci := 9) rfl u9_in (by decide) nF_18 dX10_readStory_241 krm rfl rfl hb433 ?_
                      refine r_aload_n hC dX10_readStory_244 4 rfl ?_
                      refine r_getr hC 4 (ci := 10) rfl u10_in (by decide) mT_4_239 dX10_readStory_245 ka0 rfl rfl hbr ?_
                      refine r_getiN hC 7 (ci := 9) rfl u9_in (by decide) nF_7 dX10_readStory_248 krm rfl rfl (fun x434_ e434 => ?_)
                      have r434 := hs432.rng krm rfl e434
                      have f434 : x434_.toInt = (I432 rm 7).toInt := by rw [e434]
                      have w434 : x434_ = x431_ := by rw [e434]; exact (Eq.trans (up2_kk eI432 hk430 krm (by omega)) e431.symm)
                      have wt434 : x434_.toInt = x431_.toInt := by rw [w434]
                      refine r_iload_n hC dX10_readStory_251 1 rfl ?_
                      refine x_iastore hC hk433 hn433 (by decide) rfl rfl dX10_readStory_252 (by omega) (by omega) (fun I435 eI435 => ?_)
                      have hs435 := hs432.put0 eI435 hk433 (rng_arr (by decide) _) rfl (xF_arr (by decide) _) (by decide)
                      have hF435 := hF432.put eI435 hk433 (inS_arr rfl _)
                      refine r_aload_n hC dX10_readStory_253 4 rfl ?_
                      refine r_getr hC 4 (ci := 10) rfl u10_in (by decide) mT_4_239 dX10_readStory_254 ka0 rfl rfl hbr ?_
                      refine r_getrN hC 19 (ci := 9) rfl u9_in (by decide) nF_19 dX10_readStory_257 krm rfl rfl hB430 ?_
                      refine r_aload_n hC dX10_readStory_260 4 rfl ?_
                      refine r_getr hC 4 (ci := 10) rfl u10_in (by decide) mT_4_239 dX10_readStory_261 ka0 rfl rfl hbr ?_
                      refine r_getiN hC 7 (ci := 9) rfl u9_in (by decide) nF_7 dX10_readStory_264 krm rfl rfl (fun x436_ e436 => ?_)
                      have r436 := hs435.rng krm rfl e436
                      have f436 : x436_.toInt = (I435 rm 7).toInt := by rw [e436]
                      have w436 : x436_ = x434_ := by rw [e436]; exact (Eq.trans (up2_kk eI435 hk433 krm (by decide)) e434.symm)
                      have wt436 : x436_.toInt = x434_.toInt := by rw [w436]
                      refine r_iload hC dX10_readStory_267 0 rfl ?_
                      refine x_iastore hC hK430 hN430 (by omega) (kOb (by omega)) (kAb (by omega)) dX10_readStory_269 (by omega) (by omega) (fun I437 eI437 => ?_)
                      have hs437 : Sf K len I437 R := hs435.putK (rm := rm) eI437 (Or.inr hK430) (by have h9 := clampI (i := x436_) (by omega); omega)
                      have hF437 := hF435.put eI437 hK430 (inS_big rfl (by omega) _)
                      refine r_aload_n hC dX10_readStory_270 4 rfl ?_
                      refine r_getr hC 4 (ci := 10) rfl u10_in (by decide) mT_4_239 dX10_readStory_271 ka0 rfl rfl hbr ?_
                      refine r_dup hC dX10_readStory_274 rfl ?_
                      refine r_getiN hC 7 (ci := 9) rfl u9_in (by decide) nF_7 dX10_readStory_275 krm rfl rfl (fun x438_ e438 => ?_)
                      have r438 := hs437.rng krm rfl e438
                      have f438 : x438_.toInt = (I437 rm 7).toInt := by rw [e438]
                      have w438 : x438_ = x436_ := by rw [e438]; exact (Eq.trans (up2_kk eI437 hK430 krm (by omega)) e436.symm)
                      have wt438 : x438_.toInt = x436_.toInt := by rw [w438]
                      refine r_iconst hC (v := (1)) dX10_readStory_278 (by decide) (by decide) (fun x439_ e439 t439 => ?_)
                      refine r_iadd hC dX10_readStory_279 (fun x440_ e440 => ?_)
                      try have t440 : x440_.toInt = x438_.toInt + x439_.toInt := by rw [e440]; exact ti_add (by omega) (by omega)
                      refine r_putiN hC 7 (ci := 9) rfl u9_in tyX9_ok nmX9 (by decide) nF_7 rfl rfl rfl dX10_readStory_280 krm rfl rfl (fun I441 eI441 => ?_)
                      have hs441 : Sf K len I441 R := hs437.putA7 eI441 krm hb430 hB430 (by omega) (by omega) (j := x431_.toNatClampNeg) (by have h9 := clampI (i := x431_) (by omega); omega) (by omega) (by rw [(show I437 kd430 x431_.toNatClampNeg = x363_ from (Eq.trans (up2_kk eI437 hK430 hk430 (by omega)) (Eq.trans (up2_kk eI435 hk433 hk430 (by omega)) (by rw [eI432]; exact up2_self _ _ _ _)))), cl_eq (show x431_.toInt = x436_.toInt by omega), (show I437 mo430 x436_.toNatClampNeg = x405_ from (by rw [eI437]; exact up2_self _ _ _ _))]; omega)
                      have hF441 := hF437.put eI441 krm rfl
                      have hG3 : I441 rm 3 = G3 := (Eq.trans (up2_at (Or.inr (by decide)) eI441) (Eq.trans (up2_kk eI437 hK430 krm (by omega)) (Eq.trans (up2_kk eI435 hk433 krm (by decide)) (Eq.trans (up2_kk eI432 hk430 krm (by omega)) (Eq.trans (up2_kk eI429 hk427 krm (by decide)) (Eq.trans (hf405.get krm rfl) (Eq.trans (hf371.get krm rfl) (Eq.trans (hf367.get krm rfl) (Eq.trans (hf122.get krm rfl) (Eq.trans (hf65.get krm rfl) (Eq.trans (hf4.get krm rfl) eG3.symm)))))))))))
                      have hG3t : (I441 rm 3).toInt = G3.toInt := congrArg Int32.toInt hG3
                      have hG4 : I441 rm 4 = G4 := (Eq.trans (up2_at (Or.inr (by decide)) eI441) (Eq.trans (up2_kk eI437 hK430 krm (by omega)) (Eq.trans (up2_kk eI435 hk433 krm (by decide)) (Eq.trans (up2_kk eI432 hk430 krm (by omega)) (Eq.trans (up2_kk eI429 hk427 krm (by decide)) (Eq.trans (hf405.get krm rfl) (Eq.trans (hf371.get krm rfl) (Eq.trans (hf367.get krm rfl) (Eq.trans (hf122.get krm rfl) (Eq.trans (hf65.get krm rfl) (Eq.trans (hf4.get krm rfl) eG4.symm)))))))))))
                      have hG4t : (I441 rm 4).toInt = G4.toInt := congrArg Int32.toInt hG4
                      have hG7 : I441 rm 7 = x440_ := (by rw [eI441]; exact up2_self _ _ _ _)
                      have hG7t : (I441 rm 7).toInt = x440_.toInt := congrArg Int32.toInt hG7
                      have hG8 : I441 rm 8 = G8 := (Eq.trans (up2_at (Or.inr (by decide)) eI441) (Eq.trans (up2_kk eI437 hK430 krm (by omega)) (Eq.trans (up2_kk eI435 hk433 krm (by decide)) (Eq.trans (up2_kk eI432 hk430 krm (by omega)) (Eq.trans (up2_kk eI429 hk427 krm (by decide)) (Eq.trans (hf405.get krm rfl) (Eq.trans (hf371.get krm rfl) (Eq.trans (hf367.get krm rfl) (Eq.trans (hf122.get krm rfl) (Eq.trans (hf65.get krm rfl) (Eq.trans (hf4.get krm rfl) eG8.symm)))))))))))
                      have hG8t : (I441 rm 8).toInt = G8.toInt := congrArg Int32.toInt hG8
                      have hG9 : I441 rm 9 = G9 := (Eq.trans (up2_at (Or.inr (by decide)) eI441) (Eq.trans (up2_kk eI437 hK430 krm (by omega)) (Eq.trans (up2_kk eI435 hk433 krm (by decide)) (Eq.trans (up2_kk eI432 hk430 krm (by omega)) (Eq.trans (up2_kk eI429 hk427 krm (by decide)) (Eq.trans (hf405.get krm rfl) (Eq.trans (hf371.get krm rfl) (Eq.trans (hf367.get krm rfl) (Eq.trans (hf122.get krm rfl) (Eq.trans (hf65.get krm rfl) (Eq.trans (hf4.get krm rfl) eG9.symm)))))))))))
                      have hG9t : (I441 rm 9).toInt = G9.toInt := congrArg Int32.toInt hG9
                      have hGN : I441 rm 10 = N1 := (Eq.trans (up2_at (Or.inr (by decide)) eI441) (Eq.trans (up2_kk eI437 hK430 krm (by omega)) (Eq.trans (up2_kk eI435 hk433 krm (by decide)) (Eq.trans (up2_kk eI432 hk430 krm (by omega)) (Eq.trans (up2_kk eI429 hk427 krm (by decide)) (Eq.trans (hf405.get krm rfl) (Eq.trans (hf371.get krm rfl) (Eq.trans (hf367.get krm rfl) (Eq.trans (hf122.get krm rfl) eN1.symm)))))))))
                      have hGNt : (I441 rm 10).toInt = N1.toInt := congrArg Int32.toInt hGN
                      have hv8 : I441 a0 8 = A9 := (Eq.trans (up2_kk eI441 krm ka0 (by decide)) (Eq.trans (up2_kk eI437 hK430 ka0 (by omega)) (Eq.trans (up2_kk eI435 hk433 ka0 (by decide)) (Eq.trans (up2_kk eI432 hk430 ka0 (by omega)) (Eq.trans (up2_kk eI429 hk427 ka0 (by decide)) eA9.symm)))))
                      have hv8t : (I441 a0 8).toInt = A9.toInt := congrArg Int32.toInt hv8
                      have hv9 : I441 a0 9 = x424_ := (Eq.trans (up2_kk eI441 krm ka0 (by decide)) (Eq.trans (up2_kk eI437 hK430 ka0 (by omega)) (Eq.trans (up2_kk eI435 hk433 ka0 (by decide)) (Eq.trans (up2_kk eI432 hk430 ka0 (by omega)) (Eq.trans (up2_kk eI429 hk427 ka0 (by decide)) e424.symm)))))
                      have hv9t : (I441 a0 9).toInt = x424_.toInt := congrArg Int32.toInt hv9
                      exact r_vret hC hQ hlk hr (by decide) (by decide) dX10_readStory_283 ⟨_, _, rfl, rfl, ⟨hs441, hF441, hFJ405, (by first | (left; omega) | (right; omega)), (by omega), (by omega), (by omega)⟩⟩
                    · have hG3 : I405 rm 3 = G3 := (Eq.trans (hf405.get krm rfl) (Eq.trans (hf371.get krm rfl) (Eq.trans (hf367.get krm rfl) (Eq.trans (hf122.get krm rfl) (Eq.trans (hf65.get krm rfl) (Eq.trans (hf4.get krm rfl) eG3.symm))))))
                      have hG3t : (I405 rm 3).toInt = G3.toInt := congrArg Int32.toInt hG3
                      have hG4 : I405 rm 4 = G4 := (Eq.trans (hf405.get krm rfl) (Eq.trans (hf371.get krm rfl) (Eq.trans (hf367.get krm rfl) (Eq.trans (hf122.get krm rfl) (Eq.trans (hf65.get krm rfl) (Eq.trans (hf4.get krm rfl) eG4.symm))))))
                      have hG4t : (I405 rm 4).toInt = G4.toInt := congrArg Int32.toInt hG4
                      have hG7 : I405 rm 7 = x63_ := (Eq.trans (hf405.get krm rfl) (Eq.trans (hf371.get krm rfl) (Eq.trans (hf367.get krm rfl) (Eq.trans (hf122.get krm rfl) (Eq.trans (hf65.get krm rfl) e63.symm)))))
                      have hG7t : (I405 rm 7).toInt = x63_.toInt := congrArg Int32.toInt hG7
                      have hG8 : I405 rm 8 = G8 := (Eq.trans (hf405.get krm rfl) (Eq.trans (hf371.get krm rfl) (Eq.trans (hf367.get krm rfl) (Eq.trans (hf122.get krm rfl) (Eq.trans (hf65.get krm rfl) (Eq.trans (hf4.get krm rfl) eG8.symm))))))
                      have hG8t : (I405 rm 8).toInt = G8.toInt := congrArg Int32.toInt hG8
                      have hG9 : I405 rm 9 = G9 := (Eq.trans (hf405.get krm rfl) (Eq.trans (hf371.get krm rfl) (Eq.trans (hf367.get krm rfl) (Eq.trans (hf122.get krm rfl) (Eq.trans (hf65.get krm rfl) (Eq.trans (hf4.get krm rfl) eG9.symm))))))
                      have hG9t : (I405 rm 9).toInt = G9.toInt := congrArg Int32.toInt hG9
                      have hGN : I405 rm 10 = N1 := (Eq.trans (hf405.get krm rfl) (Eq.trans (hf371.get krm rfl) (Eq.trans (hf367.get krm rfl) (Eq.trans (hf122.get krm rfl) eN1.symm))))
                      have hGNt : (I405 rm 10).toInt = N1.toInt := congrArg Int32.toInt hGN
                      have hv8 : I405 a0 8 = A9 := eA9.symm
                      have hv8t : (I405 a0 8).toInt = A9.toInt := congrArg Int32.toInt hv8
                      have hv9 : I405 a0 9 = x424_ := e424.symm
                      have hv9t : (I405 a0 9).toInt = x424_.toInt := congrArg Int32.toInt hv9
                      exact r_vret hC hQ hlk hr (by decide) (by decide) dX10_readStory_204 ⟨_, _, rfl, rfl, ⟨hs405, hF405, hFJ405, (by first | (left; omega) | (right; omega)), (by omega), (by omega), (by omega)⟩⟩
            · replace k176_2 := k176_2 c177
              refine r_iconst hC (v := (2)) dX10_readStory_70 (by decide) (by decide) (fun x442_ e442 t442 => ?_)
              refine r_goto hC (tgt := 115) dX10_readStory_71 (by decide) ?_
              refine r_istore_n hC (lv' := [(2, .int x442_), (1, .int x122_), (0, .ref a0)]) dX10_readStory_115 (by decide) rfl ?_
              refine r_iload_n hC dX10_readStory_116 0 rfl ?_
              refine r_iconst hC (v := (-1)) dX10_readStory_117 (by decide) (by decide) (fun x443_ e443 t443 => ?_)
              refine r_icmp_ne hC (tgt := 126) dX10_readStory_118 (by decide) (fun c444 => ?_) (fun c444 => ?_)
              rotate_left
              · exfalso; omega
              refine r_aload_n hC dX10_readStory_126 2 rfl ?_
              have md445 : (I122 a0 9).toInt ≠ 5 := by omega
              refine r_callV hC (As := []) (rest := []) (ci := 10) (c_X10_goesOn g (xL X) K len I122 J122 R hs122 a0 ka0) mT_5_199 mT_1_10 mT_5_196 mT_5_198 mP_49 okX10_goesOn ⟨by decide, by decide⟩ rfl (by show kO (K a0) = _; rw [ka0]; rfl) rfl rfl (Nat.le_of_ble_eq_true rfl) ⟨by decide, by decide⟩ dX10_readStory_127 (aV2 (F := fun st M => P g X 5 130 [(2, .int x442_), (1, .int x122_), (0, .ref a0)] st _ _ M) (M := (K, len, I122, J122, R)) fun I446 J446 h446 => ?_)
              obtain ⟨hs446, hf446, hfj446, k446_0, k446_1, k446_2, k446_3⟩ := h446
              show P g X 5 130 [(2, .int x442_), (1, .int x122_), (0, .ref a0)] [] _ _ (K, len, I446, J446, R)
              have hF446 : Fr K [(10, 7), (10, 10), (11, 8), (11, 9), (11, 10), (11, 11), (11, 12), (11, 13), (75, 999), (76, 999), (83, 999), (84, 999), (1000, 999)] I I446 := hF122.trans hf446 rfl rfl
              have hFJ446 : Fr K [(11, 14), (82, 999)] J J446 := hFJ122.trans hfj446 rfl rfl
              clear k122_3
              have sf446 := k446_1 md445
              replace k446_3 := k446_3 md445
              clear k446_0 k446_1 md445 sf122
              refine r_aload_n hC dX10_readStory_130 2 rfl ?_
              refine r_iconst hC (v := (0)) dX10_readStory_131 (by decide) (by decide) (fun x447_ e447 t447 => ?_)
              refine r_bipush hC (v := (99)) dX10_readStory_132 (by decide) (by decide) (fun x448_ e448 t448 => ?_)
              have md449 : (I446 a0 9).toInt ≠ 5 := by omega
              refine r_callV hC (As := [.int x447_, .int x448_]) (rest := []) (ci := 10) (c_X10_readWhole g (xL X) K len I446 J446 R hs446 a0 ka0 x447_ x448_) mT_6_5 mT_1_10 mT_6_2 mT_6_4 mP_57 okX10_readWhole ⟨by decide, by decide⟩ rfl (by show kO (K a0) = _; rw [ka0]; rfl) rfl rfl (Nat.le_of_ble_eq_true rfl) ⟨by decide, by decide⟩ dX10_readStory_134 (aI2 (F := fun st M => P g X 5 137 [(2, .int x442_), (1, .int x122_), (0, .ref a0)] st _ _ M) (M := (K, len, I446, J446, R)) fun x450_ I450 J450 h450 => ?_)
              obtain ⟨hs450, hf450, hfj450, k450_0, k450_1, k450_2, k450_3⟩ := h450
              show P g X 5 137 [(2, .int x442_), (1, .int x122_), (0, .ref a0)] [.int x450_] _ _ (K, len, I450, J450, R)
              have hF450 : Fr K [(10, 7), (10, 10), (11, 8), (11, 9), (11, 10), (11, 11), (11, 12), (11, 13), (75, 999), (76, 999), (83, 999), (84, 999), (1000, 999)] I I450 := hF446.trans hf450 rfl rfl
              have hFJ450 : Fr K [(11, 14), (82, 999)] J J450 := hFJ446.trans hfj450 rfl rfl
              clear k446_3
              by_cases sf450 : (I450 a0 9).toInt = 5
              · clear k450_0 k450_1 k450_3 md449 sf446
                refine r_istore_n hC (lv' := [(3, .int x450_), (2, .int x442_), (1, .int x122_), (0, .ref a0)]) dX10_readStory_137 (by decide) rfl ?_
                refine r_iload_n hC dX10_readStory_138 1 rfl ?_
                refine r_iconst hC (v := (2)) dX10_readStory_139 (by decide) (by decide) (fun x451_ e451 t451 => ?_)
                refine r_icmp_ne hC (tgt := 156) dX10_readStory_140 (by decide) (fun c452 => ?_) (fun c452 => ?_)
                · exfalso; omega
                refine r_aload_n hC dX10_readStory_143 3 rfl ?_
                refine r_ldcwS hC (i := 52) (by decide) rfl rfl dX10_readStory_144 ?_
                refine r_iconst hC (v := (1)) dX10_readStory_147 (by decide) (by decide) (fun x453_ e453 t453 => ?_)
                refine r_bipush hC (v := (20)) dX10_readStory_148 (by decide) (by decide) (fun x454_ e454 t454 => ?_)
                have md455 : (I450 a0 9).toInt = 5 := by omega
                refine r_callV hC (As := [.ref (g.2.2.1 52), .int x453_, .int x454_]) (rest := []) (ci := 10) (c_X10_readPart g (xL X) K len I450 J450 R hs450 a0 ka0 52 (by decide) x453_ x454_) mT_6_1 mT_1_10 mT_5_238 mT_6_0 mP_56 okX10_readPart ⟨by decide, by decide⟩ rfl (by show kO (K a0) = _; rw [ka0]; rfl) rfl rfl (Nat.le_of_ble_eq_true rfl) ⟨by decide, by decide⟩ dX10_readStory_150 (aI2 (F := fun st M => P g X 5 153 [(3, .int x450_), (2, .int x442_), (1, .int x122_), (0, .ref a0)] st _ _ M) (M := (K, len, I450, J450, R)) fun x456_ I456 J456 h456 => ?_)
                obtain ⟨hs456, hf456, hfj456, k456_0, k456_1, k456_2, k456_3⟩ := h456
                show P g X 5 153 [(3, .int x450_), (2, .int x442_), (1, .int x122_), (0, .ref a0)] [.int x456_] _ _ (K, len, I456, J456, R)
                have hF456 : Fr K [(10, 7), (10, 10), (11, 8), (11, 9), (11, 10), (11, 11), (11, 12), (11, 13), (75, 999), (76, 999), (83, 999), (84, 999), (1000, 999)] I I456 := hF450.trans hf456 rfl rfl
                have hFJ456 : Fr K [(11, 14), (82, 999)] J J456 := hFJ450.trans hfj456 rfl rfl
                have sf456 := k456_0 md455
                clear k456_0 k456_1 k456_3 md455 sf450
                refine r_goto hC (tgt := 194) dX10_readStory_153 (by decide) ?_
                refine r_istore hC (lv' := [(4, .int x456_), (3, .int x450_), (2, .int x442_), (1, .int x122_), (0, .ref a0)]) dX10_readStory_194 (by decide) rfl ?_
                refine r_aload_n hC dX10_readStory_196 4 rfl ?_
                obtain ⟨A9, eA9⟩ : ∃ z : Int32, z = I456 a0 8 := ⟨_, rfl⟩
                have fA9 : A9.toInt = (I456 a0 8).toInt := by rw [eA9]
                have rA9 := hs456.rng ka0 rfl eA9
                refine r_geti hC 9 (ci := 10) rfl u10_in (by decide) mT_5_4 dX10_readStory_197 ka0 rfl rfl (fun x457_ e457 => ?_)
                have f457 : x457_.toInt = (I456 a0 9).toInt := by rw [e457]
                refine r_iconst hC (v := (5)) dX10_readStory_200 (by decide) (by decide) (fun x458_ e458 t458 => ?_)
                refine r_icmp_ne hC (tgt := 205) dX10_readStory_201 (by decide) (fun c459 => ?_) (fun c459 => ?_)
                · refine r_aload_n hC dX10_readStory_205 4 rfl ?_
                  refine r_getr hC 4 (ci := 10) rfl u10_in (by decide) mT_4_239 dX10_readStory_206 ka0 rfl rfl hbr ?_
                  obtain ⟨a460_, hb460, hk460, hn460⟩ := hs456.row krm 16 75 6 (by decide) (by decide)
                  refine r_getrN hC 16 (ci := 9) rfl u9_in (by decide) nF_16 dX10_readStory_209 krm rfl rfl hb460 ?_
                  refine r_aload_n hC dX10_readStory_212 4 rfl ?_
                  refine r_getr hC 4 (ci := 10) rfl u10_in (by decide) mT_4_239 dX10_readStory_213 ka0 rfl rfl hbr ?_
                  refine r_getiN hC 7 (ci := 9) rfl u9_in (by decide) nF_7 dX10_readStory_216 krm rfl rfl (fun x461_ e461 => ?_)
                  have r461 := hs456.rng krm rfl e461
                  have f461 : x461_.toInt = (I456 rm 7).toInt := by rw [e461]
                  have w461 : x461_ = x63_ := by rw [e461]; exact (Eq.trans (hf456.get krm rfl) (Eq.trans (hf450.get krm rfl) (Eq.trans (hf446.get krm rfl) (Eq.trans (hf122.get krm rfl) (Eq.trans (hf65.get krm rfl) e63.symm)))))
                  have wt461 : x461_.toInt = x63_.toInt := by rw [w461]
                  refine r_iload_n hC dX10_readStory_219 3 rfl ?_
                  refine x_iastore hC hk460 hn460 (by decide) rfl rfl dX10_readStory_220 (by omega) (by omega) (fun I462 eI462 => ?_)
                  have hs462 := hs456.put0 eI462 hk460 (rng_arr (by decide) _) rfl (xF_arr (by decide) _) (by decide)
                  have hF462 := hF456.put eI462 hk460 (inS_arr rfl _)
                  refine r_aload_n hC dX10_readStory_221 4 rfl ?_
                  refine r_getr hC 4 (ci := 10) rfl u10_in (by decide) mT_4_239 dX10_readStory_222 ka0 rfl rfl hbr ?_
                  obtain ⟨kd463, mo463, hb463, hk463, hn463, hB463, hK463, hN463⟩ := hs462.2.2.1 rm krm
                  refine r_getrN hC 17 (ci := 9) rfl u9_in (by decide) nF_17 dX10_readStory_225 krm rfl rfl hb463 ?_
                  refine r_aload_n hC dX10_readStory_228 4 rfl ?_
                  refine r_getr hC 4 (ci := 10) rfl u10_in (by decide) mT_4_239 dX10_readStory_229 ka0 rfl rfl hbr ?_
                  refine r_getiN hC 7 (ci := 9) rfl u9_in (by decide) nF_7 dX10_readStory_232 krm rfl rfl (fun x464_ e464 => ?_)
                  have r464 := hs462.rng krm rfl e464
                  have f464 : x464_.toInt = (I462 rm 7).toInt := by rw [e464]
                  have w464 : x464_ = x461_ := by rw [e464]; exact (Eq.trans (up2_kk eI462 hk460 krm (by decide)) e461.symm)
                  have wt464 : x464_.toInt = x461_.toInt := by rw [w464]
                  refine r_iload_n hC dX10_readStory_235 2 rfl ?_
                  refine x_iastore hC hk463 hn463 (by omega) (kOb (by omega)) (kAb (by omega)) dX10_readStory_236 (by omega) (by omega) (fun I465 eI465 => ?_)
                  have hs465 : Sf K len I465 R := hs462.putK (rm := rm) eI465 (Or.inl hk463) (by have h9 := clampI (i := x464_) (by omega); omega)
                  have hF465 := hF462.put eI465 hk463 (inS_big rfl (by omega) _)
                  refine r_aload_n hC dX10_readStory_237 4 rfl ?_
                  refine r_getr hC 4 (ci := 10) rfl u10_in (by decide) mT_4_239 dX10_readStory_238 ka0 rfl rfl hbr ?_
                  obtain ⟨a466_, hb466, hk466, hn466⟩ := hs465.row krm 18 76 6 (by decide) (by decide)
                  refine r_getrN hC 18 (ci := 9) rfl u9_in (by decide) nF_18 dX10_readStory_241 krm rfl rfl hb466 ?_
                  refine r_aload_n hC dX10_readStory_244 4 rfl ?_
                  refine r_getr hC 4 (ci := 10) rfl u10_in (by decide) mT_4_239 dX10_readStory_245 ka0 rfl rfl hbr ?_
                  refine r_getiN hC 7 (ci := 9) rfl u9_in (by decide) nF_7 dX10_readStory_248 krm rfl rfl (fun x467_ e467 => ?_)
                  have r467 := hs465.rng krm rfl e467
                  have f467 : x467_.toInt = (I465 rm 7).toInt := by rw [e467]
                  have w467 : x467_ = x464_ := by rw [e467]; exact (Eq.trans (up2_kk eI465 hk463 krm (by omega)) e464.symm)
                  have wt467 : x467_.toInt = x464_.toInt := by rw [w467]
                  refine r_iload_n hC dX10_readStory_251 1 rfl ?_
                  refine x_iastore hC hk466 hn466 (by decide) rfl rfl dX10_readStory_252 (by omega) (by omega) (fun I468 eI468 => ?_)
                  have hs468 := hs465.put0 eI468 hk466 (rng_arr (by decide) _) rfl (xF_arr (by decide) _) (by decide)
                  have hF468 := hF465.put eI468 hk466 (inS_arr rfl _)
                  refine r_aload_n hC dX10_readStory_253 4 rfl ?_
                  refine r_getr hC 4 (ci := 10) rfl u10_in (by decide) mT_4_239 dX10_readStory_254 ka0 rfl rfl hbr ?_
                  refine r_getrN hC 19 (ci := 9) rfl u9_in (by decide) nF_19 dX10_readStory_257 krm rfl rfl hB463 ?_
                  refine r_aload_n hC dX10_readStory_260 4 rfl ?_
                  refine r_getr hC 4 (ci := 10) rfl u10_in (by decide) mT_4_239 dX10_readStory_261 ka0 rfl rfl hbr ?_
                  refine r_getiN hC 7 (ci := 9) rfl u9_in (by decide) nF_7 dX10_readStory_264 krm rfl rfl (fun x469_ e469 => ?_)
                  have r469 := hs468.rng krm rfl e469
                  have f469 : x469_.toInt = (I468 rm 7).toInt := by rw [e469]
                  have w469 : x469_ = x467_ := by rw [e469]; exact (Eq.trans (up2_kk eI468 hk466 krm (by decide)) e467.symm)
                  have wt469 : x469_.toInt = x467_.toInt := by rw [w469]
                  refine r_iload hC dX10_readStory_267 0 rfl ?_
                  refine x_iastore hC hK463 hN463 (by omega) (kOb (by omega)) (kAb (by omega)) dX10_readStory_269 (by omega) (by omega) (fun I470 eI470 => ?_)
                  have hs470 : Sf K len I470 R := hs468.putK (rm := rm) eI470 (Or.inr hK463) (by have h9 := clampI (i := x469_) (by omega); omega)
                  have hF470 := hF468.put eI470 hK463 (inS_big rfl (by omega) _)
                  refine r_aload_n hC dX10_readStory_270 4 rfl ?_
                  refine r_getr hC 4 (ci := 10) rfl u10_in (by decide) mT_4_239 dX10_readStory_271 ka0 rfl rfl hbr ?_
                  refine r_dup hC dX10_readStory_274 rfl ?_
                  refine r_getiN hC 7 (ci := 9) rfl u9_in (by decide) nF_7 dX10_readStory_275 krm rfl rfl (fun x471_ e471 => ?_)
                  have r471 := hs470.rng krm rfl e471
                  have f471 : x471_.toInt = (I470 rm 7).toInt := by rw [e471]
                  have w471 : x471_ = x469_ := by rw [e471]; exact (Eq.trans (up2_kk eI470 hK463 krm (by omega)) e469.symm)
                  have wt471 : x471_.toInt = x469_.toInt := by rw [w471]
                  refine r_iconst hC (v := (1)) dX10_readStory_278 (by decide) (by decide) (fun x472_ e472 t472 => ?_)
                  refine r_iadd hC dX10_readStory_279 (fun x473_ e473 => ?_)
                  try have t473 : x473_.toInt = x471_.toInt + x472_.toInt := by rw [e473]; exact ti_add (by omega) (by omega)
                  refine r_putiN hC 7 (ci := 9) rfl u9_in tyX9_ok nmX9 (by decide) nF_7 rfl rfl rfl dX10_readStory_280 krm rfl rfl (fun I474 eI474 => ?_)
                  have hs474 : Sf K len I474 R := hs470.putA7 eI474 krm hb463 hB463 (by omega) (by omega) (j := x464_.toNatClampNeg) (by have h9 := clampI (i := x464_) (by omega); omega) (by omega) (by rw [(show I470 kd463 x464_.toNatClampNeg = x442_ from (Eq.trans (up2_kk eI470 hK463 hk463 (by omega)) (Eq.trans (up2_kk eI468 hk466 hk463 (by omega)) (by rw [eI465]; exact up2_self _ _ _ _)))), cl_eq (show x464_.toInt = x469_.toInt by omega), (show I470 mo463 x469_.toNatClampNeg = x456_ from (by rw [eI470]; exact up2_self _ _ _ _))]; omega)
                  have hF474 := hF470.put eI474 krm rfl
                  have hG3 : I474 rm 3 = G3 := (Eq.trans (up2_at (Or.inr (by decide)) eI474) (Eq.trans (up2_kk eI470 hK463 krm (by omega)) (Eq.trans (up2_kk eI468 hk466 krm (by decide)) (Eq.trans (up2_kk eI465 hk463 krm (by omega)) (Eq.trans (up2_kk eI462 hk460 krm (by decide)) (Eq.trans (hf456.get krm rfl) (Eq.trans (hf450.get krm rfl) (Eq.trans (hf446.get krm rfl) (Eq.trans (hf122.get krm rfl) (Eq.trans (hf65.get krm rfl) (Eq.trans (hf4.get krm rfl) eG3.symm)))))))))))
                  have hG3t : (I474 rm 3).toInt = G3.toInt := congrArg Int32.toInt hG3
                  have hG4 : I474 rm 4 = G4 := (Eq.trans (up2_at (Or.inr (by decide)) eI474) (Eq.trans (up2_kk eI470 hK463 krm (by omega)) (Eq.trans (up2_kk eI468 hk466 krm (by decide)) (Eq.trans (up2_kk eI465 hk463 krm (by omega)) (Eq.trans (up2_kk eI462 hk460 krm (by decide)) (Eq.trans (hf456.get krm rfl) (Eq.trans (hf450.get krm rfl) (Eq.trans (hf446.get krm rfl) (Eq.trans (hf122.get krm rfl) (Eq.trans (hf65.get krm rfl) (Eq.trans (hf4.get krm rfl) eG4.symm)))))))))))
                  have hG4t : (I474 rm 4).toInt = G4.toInt := congrArg Int32.toInt hG4
                  have hG7 : I474 rm 7 = x473_ := (by rw [eI474]; exact up2_self _ _ _ _)
                  have hG7t : (I474 rm 7).toInt = x473_.toInt := congrArg Int32.toInt hG7
                  have hG8 : I474 rm 8 = G8 := (Eq.trans (up2_at (Or.inr (by decide)) eI474) (Eq.trans (up2_kk eI470 hK463 krm (by omega)) (Eq.trans (up2_kk eI468 hk466 krm (by decide)) (Eq.trans (up2_kk eI465 hk463 krm (by omega)) (Eq.trans (up2_kk eI462 hk460 krm (by decide)) (Eq.trans (hf456.get krm rfl) (Eq.trans (hf450.get krm rfl) (Eq.trans (hf446.get krm rfl) (Eq.trans (hf122.get krm rfl) (Eq.trans (hf65.get krm rfl) (Eq.trans (hf4.get krm rfl) eG8.symm)))))))))))
                  have hG8t : (I474 rm 8).toInt = G8.toInt := congrArg Int32.toInt hG8
                  have hG9 : I474 rm 9 = G9 := (Eq.trans (up2_at (Or.inr (by decide)) eI474) (Eq.trans (up2_kk eI470 hK463 krm (by omega)) (Eq.trans (up2_kk eI468 hk466 krm (by decide)) (Eq.trans (up2_kk eI465 hk463 krm (by omega)) (Eq.trans (up2_kk eI462 hk460 krm (by decide)) (Eq.trans (hf456.get krm rfl) (Eq.trans (hf450.get krm rfl) (Eq.trans (hf446.get krm rfl) (Eq.trans (hf122.get krm rfl) (Eq.trans (hf65.get krm rfl) (Eq.trans (hf4.get krm rfl) eG9.symm)))))))))))
                  have hG9t : (I474 rm 9).toInt = G9.toInt := congrArg Int32.toInt hG9
                  have hGN : I474 rm 10 = N1 := (Eq.trans (up2_at (Or.inr (by decide)) eI474) (Eq.trans (up2_kk eI470 hK463 krm (by omega)) (Eq.trans (up2_kk eI468 hk466 krm (by decide)) (Eq.trans (up2_kk eI465 hk463 krm (by omega)) (Eq.trans (up2_kk eI462 hk460 krm (by decide)) (Eq.trans (hf456.get krm rfl) (Eq.trans (hf450.get krm rfl) (Eq.trans (hf446.get krm rfl) (Eq.trans (hf122.get krm rfl) eN1.symm)))))))))
                  have hGNt : (I474 rm 10).toInt = N1.toInt := congrArg Int32.toInt hGN
                  have hv8 : I474 a0 8 = A9 := (Eq.trans (up2_kk eI474 krm ka0 (by decide)) (Eq.trans (up2_kk eI470 hK463 ka0 (by omega)) (Eq.trans (up2_kk eI468 hk466 ka0 (by decide)) (Eq.trans (up2_kk eI465 hk463 ka0 (by omega)) (Eq.trans (up2_kk eI462 hk460 ka0 (by decide)) eA9.symm)))))
                  have hv8t : (I474 a0 8).toInt = A9.toInt := congrArg Int32.toInt hv8
                  have hv9 : I474 a0 9 = x457_ := (Eq.trans (up2_kk eI474 krm ka0 (by decide)) (Eq.trans (up2_kk eI470 hK463 ka0 (by omega)) (Eq.trans (up2_kk eI468 hk466 ka0 (by decide)) (Eq.trans (up2_kk eI465 hk463 ka0 (by omega)) (Eq.trans (up2_kk eI462 hk460 ka0 (by decide)) e457.symm)))))
                  have hv9t : (I474 a0 9).toInt = x457_.toInt := congrArg Int32.toInt hv9
                  exact r_vret hC hQ hlk hr (by decide) (by decide) dX10_readStory_283 ⟨_, _, rfl, rfl, ⟨hs474, hF474, hFJ456, (by first | (left; omega) | (right; omega)), (by omega), (by omega), (by omega)⟩⟩
                · have hG3 : I456 rm 3 = G3 := (Eq.trans (hf456.get krm rfl) (Eq.trans (hf450.get krm rfl) (Eq.trans (hf446.get krm rfl) (Eq.trans (hf122.get krm rfl) (Eq.trans (hf65.get krm rfl) (Eq.trans (hf4.get krm rfl) eG3.symm))))))
                  have hG3t : (I456 rm 3).toInt = G3.toInt := congrArg Int32.toInt hG3
                  have hG4 : I456 rm 4 = G4 := (Eq.trans (hf456.get krm rfl) (Eq.trans (hf450.get krm rfl) (Eq.trans (hf446.get krm rfl) (Eq.trans (hf122.get krm rfl) (Eq.trans (hf65.get krm rfl) (Eq.trans (hf4.get krm rfl) eG4.symm))))))
                  have hG4t : (I456 rm 4).toInt = G4.toInt := congrArg Int32.toInt hG4
                  have hG7 : I456 rm 7 = x63_ := (Eq.trans (hf456.get krm rfl) (Eq.trans (hf450.get krm rfl) (Eq.trans (hf446.get krm rfl) (Eq.trans (hf122.get krm rfl) (Eq.trans (hf65.get krm rfl) e63.symm)))))
                  have hG7t : (I456 rm 7).toInt = x63_.toInt := congrArg Int32.toInt hG7
                  have hG8 : I456 rm 8 = G8 := (Eq.trans (hf456.get krm rfl) (Eq.trans (hf450.get krm rfl) (Eq.trans (hf446.get krm rfl) (Eq.trans (hf122.get krm rfl) (Eq.trans (hf65.get krm rfl) (Eq.trans (hf4.get krm rfl) eG8.symm))))))
                  have hG8t : (I456 rm 8).toInt = G8.toInt := congrArg Int32.toInt hG8
                  have hG9 : I456 rm 9 = G9 := (Eq.trans (hf456.get krm rfl) (Eq.trans (hf450.get krm rfl) (Eq.trans (hf446.get krm rfl) (Eq.trans (hf122.get krm rfl) (Eq.trans (hf65.get krm rfl) (Eq.trans (hf4.get krm rfl) eG9.symm))))))
                  have hG9t : (I456 rm 9).toInt = G9.toInt := congrArg Int32.toInt hG9
                  have hGN : I456 rm 10 = N1 := (Eq.trans (hf456.get krm rfl) (Eq.trans (hf450.get krm rfl) (Eq.trans (hf446.get krm rfl) (Eq.trans (hf122.get krm rfl) eN1.symm))))
                  have hGNt : (I456 rm 10).toInt = N1.toInt := congrArg Int32.toInt hGN
                  have hv8 : I456 a0 8 = A9 := eA9.symm
                  have hv8t : (I456 a0 8).toInt = A9.toInt := congrArg Int32.toInt hv8
                  have hv9 : I456 a0 9 = x457_ := e457.symm
                  have hv9t : (I456 a0 9).toInt = x457_.toInt := congrArg Int32.toInt hv9
                  exact r_vret hC hQ hlk hr (by decide) (by decide) dX10_readStory_204 ⟨_, _, rfl, rfl, ⟨hs456, hF456, hFJ456, (by first | (left; omega) | (right; omega)), (by omega), (by omega), (by omega)⟩⟩
              · replace k450_1 := k450_1 sf450
                clear k450_0 md449 sf446
                refine r_istore_n hC (lv' := [(3, .int x450_), (2, .int x442_), (1, .int x122_), (0, .ref a0)]) dX10_readStory_137 (by decide) rfl ?_
                refine r_iload_n hC dX10_readStory_138 1 rfl ?_
                refine r_iconst hC (v := (2)) dX10_readStory_139 (by decide) (by decide) (fun x475_ e475 t475 => ?_)
                refine r_icmp_ne hC (tgt := 156) dX10_readStory_140 (by decide) (fun c476 => ?_) (fun c476 => ?_)
                · exfalso; omega
                refine r_aload_n hC dX10_readStory_143 3 rfl ?_
                refine r_ldcwS hC (i := 52) (by decide) rfl rfl dX10_readStory_144 ?_
                refine r_iconst hC (v := (1)) dX10_readStory_147 (by decide) (by decide) (fun x477_ e477 t477 => ?_)
                refine r_bipush hC (v := (20)) dX10_readStory_148 (by decide) (by decide) (fun x478_ e478 t478 => ?_)
                have md479 : (I450 a0 9).toInt ≠ 5 := by omega
                refine r_callV hC (As := [.ref (g.2.2.1 52), .int x477_, .int x478_]) (rest := []) (ci := 10) (c_X10_readPart g (xL X) K len I450 J450 R hs450 a0 ka0 52 (by decide) x477_ x478_) mT_6_1 mT_1_10 mT_5_238 mT_6_0 mP_56 okX10_readPart ⟨by decide, by decide⟩ rfl (by show kO (K a0) = _; rw [ka0]; rfl) rfl rfl (Nat.le_of_ble_eq_true rfl) ⟨by decide, by decide⟩ dX10_readStory_150 (aI2 (F := fun st M => P g X 5 153 [(3, .int x450_), (2, .int x442_), (1, .int x122_), (0, .ref a0)] st _ _ M) (M := (K, len, I450, J450, R)) fun x480_ I480 J480 h480 => ?_)
                obtain ⟨hs480, hf480, hfj480, k480_0, k480_1, k480_2, k480_3⟩ := h480
                show P g X 5 153 [(3, .int x450_), (2, .int x442_), (1, .int x122_), (0, .ref a0)] [.int x480_] _ _ (K, len, I480, J480, R)
                have hF480 : Fr K [(10, 7), (10, 10), (11, 8), (11, 9), (11, 10), (11, 11), (11, 12), (11, 13), (75, 999), (76, 999), (83, 999), (84, 999), (1000, 999)] I I480 := hF450.trans hf480 rfl rfl
                have hFJ480 : Fr K [(11, 14), (82, 999)] J J480 := hFJ450.trans hfj480 rfl rfl
                clear k450_3
                by_cases sf480 : (I480 a0 9).toInt = 5
                · clear k480_0 k480_1 k480_3 md479 sf450
                  refine r_goto hC (tgt := 194) dX10_readStory_153 (by decide) ?_
                  refine r_istore hC (lv' := [(4, .int x480_), (3, .int x450_), (2, .int x442_), (1, .int x122_), (0, .ref a0)]) dX10_readStory_194 (by decide) rfl ?_
                  refine r_aload_n hC dX10_readStory_196 4 rfl ?_
                  obtain ⟨A9, eA9⟩ : ∃ z : Int32, z = I480 a0 8 := ⟨_, rfl⟩
                  have fA9 : A9.toInt = (I480 a0 8).toInt := by rw [eA9]
                  have rA9 := hs480.rng ka0 rfl eA9
                  refine r_geti hC 9 (ci := 10) rfl u10_in (by decide) mT_5_4 dX10_readStory_197 ka0 rfl rfl (fun x481_ e481 => ?_)
                  have f481 : x481_.toInt = (I480 a0 9).toInt := by rw [e481]
                  refine r_iconst hC (v := (5)) dX10_readStory_200 (by decide) (by decide) (fun x482_ e482 t482 => ?_)
                  refine r_icmp_ne hC (tgt := 205) dX10_readStory_201 (by decide) (fun c483 => ?_) (fun c483 => ?_)
                  · refine r_aload_n hC dX10_readStory_205 4 rfl ?_
                    refine r_getr hC 4 (ci := 10) rfl u10_in (by decide) mT_4_239 dX10_readStory_206 ka0 rfl rfl hbr ?_
                    obtain ⟨a484_, hb484, hk484, hn484⟩ := hs480.row krm 16 75 6 (by decide) (by decide)
                    refine r_getrN hC 16 (ci := 9) rfl u9_in (by decide) nF_16 dX10_readStory_209 krm rfl rfl hb484 ?_
                    refine r_aload_n hC dX10_readStory_212 4 rfl ?_
                    refine r_getr hC 4 (ci := 10) rfl u10_in (by decide) mT_4_239 dX10_readStory_213 ka0 rfl rfl hbr ?_
                    refine r_getiN hC 7 (ci := 9) rfl u9_in (by decide) nF_7 dX10_readStory_216 krm rfl rfl (fun x485_ e485 => ?_)
                    have r485 := hs480.rng krm rfl e485
                    have f485 : x485_.toInt = (I480 rm 7).toInt := by rw [e485]
                    have w485 : x485_ = x63_ := by rw [e485]; exact (Eq.trans (hf480.get krm rfl) (Eq.trans (hf450.get krm rfl) (Eq.trans (hf446.get krm rfl) (Eq.trans (hf122.get krm rfl) (Eq.trans (hf65.get krm rfl) e63.symm)))))
                    have wt485 : x485_.toInt = x63_.toInt := by rw [w485]
                    refine r_iload_n hC dX10_readStory_219 3 rfl ?_
                    refine x_iastore hC hk484 hn484 (by decide) rfl rfl dX10_readStory_220 (by omega) (by omega) (fun I486 eI486 => ?_)
                    have hs486 := hs480.put0 eI486 hk484 (rng_arr (by decide) _) rfl (xF_arr (by decide) _) (by decide)
                    have hF486 := hF480.put eI486 hk484 (inS_arr rfl _)
                    refine r_aload_n hC dX10_readStory_221 4 rfl ?_
                    refine r_getr hC 4 (ci := 10) rfl u10_in (by decide) mT_4_239 dX10_readStory_222 ka0 rfl rfl hbr ?_
                    obtain ⟨kd487, mo487, hb487, hk487, hn487, hB487, hK487, hN487⟩ := hs486.2.2.1 rm krm
                    refine r_getrN hC 17 (ci := 9) rfl u9_in (by decide) nF_17 dX10_readStory_225 krm rfl rfl hb487 ?_
                    refine r_aload_n hC dX10_readStory_228 4 rfl ?_
                    refine r_getr hC 4 (ci := 10) rfl u10_in (by decide) mT_4_239 dX10_readStory_229 ka0 rfl rfl hbr ?_
                    refine r_getiN hC 7 (ci := 9) rfl u9_in (by decide) nF_7 dX10_readStory_232 krm rfl rfl (fun x488_ e488 => ?_)
                    have r488 := hs486.rng krm rfl e488
                    have f488 : x488_.toInt = (I486 rm 7).toInt := by rw [e488]
                    have w488 : x488_ = x485_ := by rw [e488]; exact (Eq.trans (up2_kk eI486 hk484 krm (by decide)) e485.symm)
                    have wt488 : x488_.toInt = x485_.toInt := by rw [w488]
                    refine r_iload_n hC dX10_readStory_235 2 rfl ?_
                    refine x_iastore hC hk487 hn487 (by omega) (kOb (by omega)) (kAb (by omega)) dX10_readStory_236 (by omega) (by omega) (fun I489 eI489 => ?_)
                    have hs489 : Sf K len I489 R := hs486.putK (rm := rm) eI489 (Or.inl hk487) (by have h9 := clampI (i := x488_) (by omega); omega)
                    have hF489 := hF486.put eI489 hk487 (inS_big rfl (by omega) _)
                    refine r_aload_n hC dX10_readStory_237 4 rfl ?_
                    refine r_getr hC 4 (ci := 10) rfl u10_in (by decide) mT_4_239 dX10_readStory_238 ka0 rfl rfl hbr ?_
                    obtain ⟨a490_, hb490, hk490, hn490⟩ := hs489.row krm 18 76 6 (by decide) (by decide)
                    refine r_getrN hC 18 (ci := 9) rfl u9_in (by decide) nF_18 dX10_readStory_241 krm rfl rfl hb490 ?_
                    refine r_aload_n hC dX10_readStory_244 4 rfl ?_
                    refine r_getr hC 4 (ci := 10) rfl u10_in (by decide) mT_4_239 dX10_readStory_245 ka0 rfl rfl hbr ?_
                    refine r_getiN hC 7 (ci := 9) rfl u9_in (by decide) nF_7 dX10_readStory_248 krm rfl rfl (fun x491_ e491 => ?_)
                    have r491 := hs489.rng krm rfl e491
                    have f491 : x491_.toInt = (I489 rm 7).toInt := by rw [e491]
                    have w491 : x491_ = x488_ := by rw [e491]; exact (Eq.trans (up2_kk eI489 hk487 krm (by omega)) e488.symm)
                    have wt491 : x491_.toInt = x488_.toInt := by rw [w491]
                    refine r_iload_n hC dX10_readStory_251 1 rfl ?_
                    refine x_iastore hC hk490 hn490 (by decide) rfl rfl dX10_readStory_252 (by omega) (by omega) (fun I492 eI492 => ?_)
                    have hs492 := hs489.put0 eI492 hk490 (rng_arr (by decide) _) rfl (xF_arr (by decide) _) (by decide)
                    have hF492 := hF489.put eI492 hk490 (inS_arr rfl _)
                    refine r_aload_n hC dX10_readStory_253 4 rfl ?_
                    refine r_getr hC 4 (ci := 10) rfl u10_in (by decide) mT_4_239 dX10_readStory_254 ka0 rfl rfl hbr ?_
                    refine r_getrN hC 19 (ci := 9) rfl u9_in (by decide) nF_19 dX10_readStory_257 krm rfl rfl hB487 ?_
                    refine r_aload_n hC dX10_readStory_260 4 rfl ?_
                    refine r_getr hC 4 (ci := 10) rfl u10_in (by decide) mT_4_239 dX10_readStory_261 ka0 rfl rfl hbr ?_
                    refine r_getiN hC 7 (ci := 9) rfl u9_in (by decide) nF_7 dX10_readStory_264 krm rfl rfl (fun x493_ e493 => ?_)
                    have r493 := hs492.rng krm rfl e493
                    have f493 : x493_.toInt = (I492 rm 7).toInt := by rw [e493]
                    have w493 : x493_ = x491_ := by rw [e493]; exact (Eq.trans (up2_kk eI492 hk490 krm (by decide)) e491.symm)
                    have wt493 : x493_.toInt = x491_.toInt := by rw [w493]
                    refine r_iload hC dX10_readStory_267 0 rfl ?_
                    refine x_iastore hC hK487 hN487 (by omega) (kOb (by omega)) (kAb (by omega)) dX10_readStory_269 (by omega) (by omega) (fun I494 eI494 => ?_)
                    have hs494 : Sf K len I494 R := hs492.putK (rm := rm) eI494 (Or.inr hK487) (by have h9 := clampI (i := x493_) (by omega); omega)
                    have hF494 := hF492.put eI494 hK487 (inS_big rfl (by omega) _)
                    refine r_aload_n hC dX10_readStory_270 4 rfl ?_
                    refine r_getr hC 4 (ci := 10) rfl u10_in (by decide) mT_4_239 dX10_readStory_271 ka0 rfl rfl hbr ?_
                    refine r_dup hC dX10_readStory_274 rfl ?_
                    refine r_getiN hC 7 (ci := 9) rfl u9_in (by decide) nF_7 dX10_readStory_275 krm rfl rfl (fun x495_ e495 => ?_)
                    have r495 := hs494.rng krm rfl e495
                    have f495 : x495_.toInt = (I494 rm 7).toInt := by rw [e495]
                    have w495 : x495_ = x493_ := by rw [e495]; exact (Eq.trans (up2_kk eI494 hK487 krm (by omega)) e493.symm)
                    have wt495 : x495_.toInt = x493_.toInt := by rw [w495]
                    refine r_iconst hC (v := (1)) dX10_readStory_278 (by decide) (by decide) (fun x496_ e496 t496 => ?_)
                    refine r_iadd hC dX10_readStory_279 (fun x497_ e497 => ?_)
                    try have t497 : x497_.toInt = x495_.toInt + x496_.toInt := by rw [e497]; exact ti_add (by omega) (by omega)
                    refine r_putiN hC 7 (ci := 9) rfl u9_in tyX9_ok nmX9 (by decide) nF_7 rfl rfl rfl dX10_readStory_280 krm rfl rfl (fun I498 eI498 => ?_)
                    have hs498 : Sf K len I498 R := hs494.putA7 eI498 krm hb487 hB487 (by omega) (by omega) (j := x488_.toNatClampNeg) (by have h9 := clampI (i := x488_) (by omega); omega) (by omega) (by rw [(show I494 kd487 x488_.toNatClampNeg = x442_ from (Eq.trans (up2_kk eI494 hK487 hk487 (by omega)) (Eq.trans (up2_kk eI492 hk490 hk487 (by omega)) (by rw [eI489]; exact up2_self _ _ _ _)))), cl_eq (show x488_.toInt = x493_.toInt by omega), (show I494 mo487 x493_.toNatClampNeg = x480_ from (by rw [eI494]; exact up2_self _ _ _ _))]; omega)
                    have hF498 := hF494.put eI498 krm rfl
                    have hG3 : I498 rm 3 = G3 := (Eq.trans (up2_at (Or.inr (by decide)) eI498) (Eq.trans (up2_kk eI494 hK487 krm (by omega)) (Eq.trans (up2_kk eI492 hk490 krm (by decide)) (Eq.trans (up2_kk eI489 hk487 krm (by omega)) (Eq.trans (up2_kk eI486 hk484 krm (by decide)) (Eq.trans (hf480.get krm rfl) (Eq.trans (hf450.get krm rfl) (Eq.trans (hf446.get krm rfl) (Eq.trans (hf122.get krm rfl) (Eq.trans (hf65.get krm rfl) (Eq.trans (hf4.get krm rfl) eG3.symm)))))))))))
                    have hG3t : (I498 rm 3).toInt = G3.toInt := congrArg Int32.toInt hG3
                    have hG4 : I498 rm 4 = G4 := (Eq.trans (up2_at (Or.inr (by decide)) eI498) (Eq.trans (up2_kk eI494 hK487 krm (by omega)) (Eq.trans (up2_kk eI492 hk490 krm (by decide)) (Eq.trans (up2_kk eI489 hk487 krm (by omega)) (Eq.trans (up2_kk eI486 hk484 krm (by decide)) (Eq.trans (hf480.get krm rfl) (Eq.trans (hf450.get krm rfl) (Eq.trans (hf446.get krm rfl) (Eq.trans (hf122.get krm rfl) (Eq.trans (hf65.get krm rfl) (Eq.trans (hf4.get krm rfl) eG4.symm)))))))))))
                    have hG4t : (I498 rm 4).toInt = G4.toInt := congrArg Int32.toInt hG4
                    have hG7 : I498 rm 7 = x497_ := (by rw [eI498]; exact up2_self _ _ _ _)
                    have hG7t : (I498 rm 7).toInt = x497_.toInt := congrArg Int32.toInt hG7
                    have hG8 : I498 rm 8 = G8 := (Eq.trans (up2_at (Or.inr (by decide)) eI498) (Eq.trans (up2_kk eI494 hK487 krm (by omega)) (Eq.trans (up2_kk eI492 hk490 krm (by decide)) (Eq.trans (up2_kk eI489 hk487 krm (by omega)) (Eq.trans (up2_kk eI486 hk484 krm (by decide)) (Eq.trans (hf480.get krm rfl) (Eq.trans (hf450.get krm rfl) (Eq.trans (hf446.get krm rfl) (Eq.trans (hf122.get krm rfl) (Eq.trans (hf65.get krm rfl) (Eq.trans (hf4.get krm rfl) eG8.symm)))))))))))
                    have hG8t : (I498 rm 8).toInt = G8.toInt := congrArg Int32.toInt hG8
                    have hG9 : I498 rm 9 = G9 := (Eq.trans (up2_at (Or.inr (by decide)) eI498) (Eq.trans (up2_kk eI494 hK487 krm (by omega)) (Eq.trans (up2_kk eI492 hk490 krm (by decide)) (Eq.trans (up2_kk eI489 hk487 krm (by omega)) (Eq.trans (up2_kk eI486 hk484 krm (by decide)) (Eq.trans (hf480.get krm rfl) (Eq.trans (hf450.get krm rfl) (Eq.trans (hf446.get krm rfl) (Eq.trans (hf122.get krm rfl) (Eq.trans (hf65.get krm rfl) (Eq.trans (hf4.get krm rfl) eG9.symm)))))))))))
                    have hG9t : (I498 rm 9).toInt = G9.toInt := congrArg Int32.toInt hG9
                    have hGN : I498 rm 10 = N1 := (Eq.trans (up2_at (Or.inr (by decide)) eI498) (Eq.trans (up2_kk eI494 hK487 krm (by omega)) (Eq.trans (up2_kk eI492 hk490 krm (by decide)) (Eq.trans (up2_kk eI489 hk487 krm (by omega)) (Eq.trans (up2_kk eI486 hk484 krm (by decide)) (Eq.trans (hf480.get krm rfl) (Eq.trans (hf450.get krm rfl) (Eq.trans (hf446.get krm rfl) (Eq.trans (hf122.get krm rfl) eN1.symm)))))))))
                    have hGNt : (I498 rm 10).toInt = N1.toInt := congrArg Int32.toInt hGN
                    have hv8 : I498 a0 8 = A9 := (Eq.trans (up2_kk eI498 krm ka0 (by decide)) (Eq.trans (up2_kk eI494 hK487 ka0 (by omega)) (Eq.trans (up2_kk eI492 hk490 ka0 (by decide)) (Eq.trans (up2_kk eI489 hk487 ka0 (by omega)) (Eq.trans (up2_kk eI486 hk484 ka0 (by decide)) eA9.symm)))))
                    have hv8t : (I498 a0 8).toInt = A9.toInt := congrArg Int32.toInt hv8
                    have hv9 : I498 a0 9 = x481_ := (Eq.trans (up2_kk eI498 krm ka0 (by decide)) (Eq.trans (up2_kk eI494 hK487 ka0 (by omega)) (Eq.trans (up2_kk eI492 hk490 ka0 (by decide)) (Eq.trans (up2_kk eI489 hk487 ka0 (by omega)) (Eq.trans (up2_kk eI486 hk484 ka0 (by decide)) e481.symm)))))
                    have hv9t : (I498 a0 9).toInt = x481_.toInt := congrArg Int32.toInt hv9
                    exact r_vret hC hQ hlk hr (by decide) (by decide) dX10_readStory_283 ⟨_, _, rfl, rfl, ⟨hs498, hF498, hFJ480, (by first | (left; omega) | (right; omega)), (by omega), (by omega), (by omega)⟩⟩
                  · have hG3 : I480 rm 3 = G3 := (Eq.trans (hf480.get krm rfl) (Eq.trans (hf450.get krm rfl) (Eq.trans (hf446.get krm rfl) (Eq.trans (hf122.get krm rfl) (Eq.trans (hf65.get krm rfl) (Eq.trans (hf4.get krm rfl) eG3.symm))))))
                    have hG3t : (I480 rm 3).toInt = G3.toInt := congrArg Int32.toInt hG3
                    have hG4 : I480 rm 4 = G4 := (Eq.trans (hf480.get krm rfl) (Eq.trans (hf450.get krm rfl) (Eq.trans (hf446.get krm rfl) (Eq.trans (hf122.get krm rfl) (Eq.trans (hf65.get krm rfl) (Eq.trans (hf4.get krm rfl) eG4.symm))))))
                    have hG4t : (I480 rm 4).toInt = G4.toInt := congrArg Int32.toInt hG4
                    have hG7 : I480 rm 7 = x63_ := (Eq.trans (hf480.get krm rfl) (Eq.trans (hf450.get krm rfl) (Eq.trans (hf446.get krm rfl) (Eq.trans (hf122.get krm rfl) (Eq.trans (hf65.get krm rfl) e63.symm)))))
                    have hG7t : (I480 rm 7).toInt = x63_.toInt := congrArg Int32.toInt hG7
                    have hG8 : I480 rm 8 = G8 := (Eq.trans (hf480.get krm rfl) (Eq.trans (hf450.get krm rfl) (Eq.trans (hf446.get krm rfl) (Eq.trans (hf122.get krm rfl) (Eq.trans (hf65.get krm rfl) (Eq.trans (hf4.get krm rfl) eG8.symm))))))
                    have hG8t : (I480 rm 8).toInt = G8.toInt := congrArg Int32.toInt hG8
                    have hG9 : I480 rm 9 = G9 := (Eq.trans (hf480.get krm rfl) (Eq.trans (hf450.get krm rfl) (Eq.trans (hf446.get krm rfl) (Eq.trans (hf122.get krm rfl) (Eq.trans (hf65.get krm rfl) (Eq.trans (hf4.get krm rfl) eG9.symm))))))
                    have hG9t : (I480 rm 9).toInt = G9.toInt := congrArg Int32.toInt hG9
                    have hGN : I480 rm 10 = N1 := (Eq.trans (hf480.get krm rfl) (Eq.trans (hf450.get krm rfl) (Eq.trans (hf446.get krm rfl) (Eq.trans (hf122.get krm rfl) eN1.symm))))
                    have hGNt : (I480 rm 10).toInt = N1.toInt := congrArg Int32.toInt hGN
                    have hv8 : I480 a0 8 = A9 := eA9.symm
                    have hv8t : (I480 a0 8).toInt = A9.toInt := congrArg Int32.toInt hv8
                    have hv9 : I480 a0 9 = x481_ := e481.symm
                    have hv9t : (I480 a0 9).toInt = x481_.toInt := congrArg Int32.toInt hv9
                    exact r_vret hC hQ hlk hr (by decide) (by decide) dX10_readStory_204 ⟨_, _, rfl, rfl, ⟨hs480, hF480, hFJ480, (by first | (left; omega) | (right; omega)), (by omega), (by omega), (by omega)⟩⟩
                · replace k480_1 := k480_1 sf480
                  clear k480_0 md479 sf450
                  refine r_goto hC (tgt := 194) dX10_readStory_153 (by decide) ?_
                  refine r_istore hC (lv' := [(4, .int x480_), (3, .int x450_), (2, .int x442_), (1, .int x122_), (0, .ref a0)]) dX10_readStory_194 (by decide) rfl ?_
                  refine r_aload_n hC dX10_readStory_196 4 rfl ?_
                  obtain ⟨A9, eA9⟩ : ∃ z : Int32, z = I480 a0 8 := ⟨_, rfl⟩
                  have fA9 : A9.toInt = (I480 a0 8).toInt := by rw [eA9]
                  have rA9 := hs480.rng ka0 rfl eA9
                  refine r_geti hC 9 (ci := 10) rfl u10_in (by decide) mT_5_4 dX10_readStory_197 ka0 rfl rfl (fun x499_ e499 => ?_)
                  have f499 : x499_.toInt = (I480 a0 9).toInt := by rw [e499]
                  refine r_iconst hC (v := (5)) dX10_readStory_200 (by decide) (by decide) (fun x500_ e500 t500 => ?_)
                  refine r_icmp_ne hC (tgt := 205) dX10_readStory_201 (by decide) (fun c501 => ?_) (fun c501 => ?_)
                  · refine r_aload_n hC dX10_readStory_205 4 rfl ?_
                    refine r_getr hC 4 (ci := 10) rfl u10_in (by decide) mT_4_239 dX10_readStory_206 ka0 rfl rfl hbr ?_
                    obtain ⟨a502_, hb502, hk502, hn502⟩ := hs480.row krm 16 75 6 (by decide) (by decide)
                    refine r_getrN hC 16 (ci := 9) rfl u9_in (by decide) nF_16 dX10_readStory_209 krm rfl rfl hb502 ?_
                    refine r_aload_n hC dX10_readStory_212 4 rfl ?_
                    refine r_getr hC 4 (ci := 10) rfl u10_in (by decide) mT_4_239 dX10_readStory_213 ka0 rfl rfl hbr ?_
                    refine r_getiN hC 7 (ci := 9) rfl u9_in (by decide) nF_7 dX10_readStory_216 krm rfl rfl (fun x503_ e503 => ?_)
                    have r503 := hs480.rng krm rfl e503
                    have f503 : x503_.toInt = (I480 rm 7).toInt := by rw [e503]
                    have w503 : x503_ = x63_ := by rw [e503]; exact (Eq.trans (hf480.get krm rfl) (Eq.trans (hf450.get krm rfl) (Eq.trans (hf446.get krm rfl) (Eq.trans (hf122.get krm rfl) (Eq.trans (hf65.get krm rfl) e63.symm)))))
                    have wt503 : x503_.toInt = x63_.toInt := by rw [w503]
                    refine r_iload_n hC dX10_readStory_219 3 rfl ?_
                    refine x_iastore hC hk502 hn502 (by decide) rfl rfl dX10_readStory_220 (by omega) (by omega) (fun I504 eI504 => ?_)
                    have hs504 := hs480.put0 eI504 hk502 (rng_arr (by decide) _) rfl (xF_arr (by decide) _) (by decide)
                    have hF504 := hF480.put eI504 hk502 (inS_arr rfl _)
                    refine r_aload_n hC dX10_readStory_221 4 rfl ?_
                    refine r_getr hC 4 (ci := 10) rfl u10_in (by decide) mT_4_239 dX10_readStory_222 ka0 rfl rfl hbr ?_
                    obtain ⟨kd505, mo505, hb505, hk505, hn505, hB505, hK505, hN505⟩ := hs504.2.2.1 rm krm
                    refine r_getrN hC 17 (ci := 9) rfl u9_in (by decide) nF_17 dX10_readStory_225 krm rfl rfl hb505 ?_
                    refine r_aload_n hC dX10_readStory_228 4 rfl ?_
                    refine r_getr hC 4 (ci := 10) rfl u10_in (by decide) mT_4_239 dX10_readStory_229 ka0 rfl rfl hbr ?_
                    refine r_getiN hC 7 (ci := 9) rfl u9_in (by decide) nF_7 dX10_readStory_232 krm rfl rfl (fun x506_ e506 => ?_)
                    have r506 := hs504.rng krm rfl e506
                    have f506 : x506_.toInt = (I504 rm 7).toInt := by rw [e506]
                    have w506 : x506_ = x503_ := by rw [e506]; exact (Eq.trans (up2_kk eI504 hk502 krm (by decide)) e503.symm)
                    have wt506 : x506_.toInt = x503_.toInt := by rw [w506]
                    refine r_iload_n hC dX10_readStory_235 2 rfl ?_
                    refine x_iastore hC hk505 hn505 (by omega) (kOb (by omega)) (kAb (by omega)) dX10_readStory_236 (by omega) (by omega) (fun I507 eI507 => ?_)
                    have hs507 : Sf K len I507 R := hs504.putK (rm := rm) eI507 (Or.inl hk505) (by have h9 := clampI (i := x506_) (by omega); omega)
                    have hF507 := hF504.put eI507 hk505 (inS_big rfl (by omega) _)
                    refine r_aload_n hC dX10_readStory_237 4 rfl ?_
                    refine r_getr hC 4 (ci := 10) rfl u10_in (by decide) mT_4_239 dX10_readStory_238 ka0 rfl rfl hbr ?_
                    obtain ⟨a508_, hb508, hk508, hn508⟩ := hs507.row krm 18 76 6 (by decide) (by decide)
                    refine r_getrN hC 18 (ci := 9) rfl u9_in (by decide) nF_18 dX10_readStory_241 krm rfl rfl hb508 ?_
                    refine r_aload_n hC dX10_readStory_244 4 rfl ?_
                    refine r_getr hC 4 (ci := 10) rfl u10_in (by decide) mT_4_239 dX10_readStory_245 ka0 rfl rfl hbr ?_
                    refine r_getiN hC 7 (ci := 9) rfl u9_in (by decide) nF_7 dX10_readStory_248 krm rfl rfl (fun x509_ e509 => ?_)
                    have r509 := hs507.rng krm rfl e509
                    have f509 : x509_.toInt = (I507 rm 7).toInt := by rw [e509]
                    have w509 : x509_ = x506_ := by rw [e509]; exact (Eq.trans (up2_kk eI507 hk505 krm (by omega)) e506.symm)
                    have wt509 : x509_.toInt = x506_.toInt := by rw [w509]
                    refine r_iload_n hC dX10_readStory_251 1 rfl ?_
                    refine x_iastore hC hk508 hn508 (by decide) rfl rfl dX10_readStory_252 (by omega) (by omega) (fun I510 eI510 => ?_)
                    have hs510 := hs507.put0 eI510 hk508 (rng_arr (by decide) _) rfl (xF_arr (by decide) _) (by decide)
                    have hF510 := hF507.put eI510 hk508 (inS_arr rfl _)
                    refine r_aload_n hC dX10_readStory_253 4 rfl ?_
                    refine r_getr hC 4 (ci := 10) rfl u10_in (by decide) mT_4_239 dX10_readStory_254 ka0 rfl rfl hbr ?_
                    refine r_getrN hC 19 (ci := 9) rfl u9_in (by decide) nF_19 dX10_readStory_257 krm rfl rfl hB505 ?_
                    refine r_aload_n hC dX10_readStory_260 4 rfl ?_
                    refine r_getr hC 4 (ci := 10) rfl u10_in (by decide) mT_4_239 dX10_readStory_261 ka0 rfl rfl hbr ?_
                    refine r_getiN hC 7 (ci := 9) rfl u9_in (by decide) nF_7 dX10_readStory_264 krm rfl rfl (fun x511_ e511 => ?_)
                    have r511 := hs510.rng krm rfl e511
                    have f511 : x511_.toInt = (I510 rm 7).toInt := by rw [e511]
                    have w511 : x511_ = x509_ := by rw [e511]; exact (Eq.trans (up2_kk eI510 hk508 krm (by decide)) e509.symm)
                    have wt511 : x511_.toInt = x509_.toInt := by rw [w511]
                    refine r_iload hC dX10_readStory_267 0 rfl ?_
                    refine x_iastore hC hK505 hN505 (by omega) (kOb (by omega)) (kAb (by omega)) dX10_readStory_269 (by omega) (by omega) (fun I512 eI512 => ?_)
                    have hs512 : Sf K len I512 R := hs510.putK (rm := rm) eI512 (Or.inr hK505) (by have h9 := clampI (i := x511_) (by omega); omega)
                    have hF512 := hF510.put eI512 hK505 (inS_big rfl (by omega) _)
                    refine r_aload_n hC dX10_readStory_270 4 rfl ?_
                    refine r_getr hC 4 (ci := 10) rfl u10_in (by decide) mT_4_239 dX10_readStory_271 ka0 rfl rfl hbr ?_
                    refine r_dup hC dX10_readStory_274 rfl ?_
                    refine r_getiN hC 7 (ci := 9) rfl u9_in (by decide) nF_7 dX10_readStory_275 krm rfl rfl (fun x513_ e513 => ?_)
                    have r513 := hs512.rng krm rfl e513
                    have f513 : x513_.toInt = (I512 rm 7).toInt := by rw [e513]
                    have w513 : x513_ = x511_ := by rw [e513]; exact (Eq.trans (up2_kk eI512 hK505 krm (by omega)) e511.symm)
                    have wt513 : x513_.toInt = x511_.toInt := by rw [w513]
                    refine r_iconst hC (v := (1)) dX10_readStory_278 (by decide) (by decide) (fun x514_ e514 t514 => ?_)
                    refine r_iadd hC dX10_readStory_279 (fun x515_ e515 => ?_)
                    try have t515 : x515_.toInt = x513_.toInt + x514_.toInt := by rw [e515]; exact ti_add (by omega) (by omega)
                    refine r_putiN hC 7 (ci := 9) rfl u9_in tyX9_ok nmX9 (by decide) nF_7 rfl rfl rfl dX10_readStory_280 krm rfl rfl (fun I516 eI516 => ?_)
                    have hs516 : Sf K len I516 R := hs512.putA7 eI516 krm hb505 hB505 (by omega) (by omega) (j := x506_.toNatClampNeg) (by have h9 := clampI (i := x506_) (by omega); omega) (by omega) (by rw [(show I512 kd505 x506_.toNatClampNeg = x442_ from (Eq.trans (up2_kk eI512 hK505 hk505 (by omega)) (Eq.trans (up2_kk eI510 hk508 hk505 (by omega)) (by rw [eI507]; exact up2_self _ _ _ _)))), cl_eq (show x506_.toInt = x511_.toInt by omega), (show I512 mo505 x511_.toNatClampNeg = x480_ from (by rw [eI512]; exact up2_self _ _ _ _))]; omega)
                    have hF516 := hF512.put eI516 krm rfl
                    have hG3 : I516 rm 3 = G3 := (Eq.trans (up2_at (Or.inr (by decide)) eI516) (Eq.trans (up2_kk eI512 hK505 krm (by omega)) (Eq.trans (up2_kk eI510 hk508 krm (by decide)) (Eq.trans (up2_kk eI507 hk505 krm (by omega)) (Eq.trans (up2_kk eI504 hk502 krm (by decide)) (Eq.trans (hf480.get krm rfl) (Eq.trans (hf450.get krm rfl) (Eq.trans (hf446.get krm rfl) (Eq.trans (hf122.get krm rfl) (Eq.trans (hf65.get krm rfl) (Eq.trans (hf4.get krm rfl) eG3.symm)))))))))))
                    have hG3t : (I516 rm 3).toInt = G3.toInt := congrArg Int32.toInt hG3
                    have hG4 : I516 rm 4 = G4 := (Eq.trans (up2_at (Or.inr (by decide)) eI516) (Eq.trans (up2_kk eI512 hK505 krm (by omega)) (Eq.trans (up2_kk eI510 hk508 krm (by decide)) (Eq.trans (up2_kk eI507 hk505 krm (by omega)) (Eq.trans (up2_kk eI504 hk502 krm (by decide)) (Eq.trans (hf480.get krm rfl) (Eq.trans (hf450.get krm rfl) (Eq.trans (hf446.get krm rfl) (Eq.trans (hf122.get krm rfl) (Eq.trans (hf65.get krm rfl) (Eq.trans (hf4.get krm rfl) eG4.symm)))))))))))
                    have hG4t : (I516 rm 4).toInt = G4.toInt := congrArg Int32.toInt hG4
                    have hG7 : I516 rm 7 = x515_ := (by rw [eI516]; exact up2_self _ _ _ _)
                    have hG7t : (I516 rm 7).toInt = x515_.toInt := congrArg Int32.toInt hG7
                    have hG8 : I516 rm 8 = G8 := (Eq.trans (up2_at (Or.inr (by decide)) eI516) (Eq.trans (up2_kk eI512 hK505 krm (by omega)) (Eq.trans (up2_kk eI510 hk508 krm (by decide)) (Eq.trans (up2_kk eI507 hk505 krm (by omega)) (Eq.trans (up2_kk eI504 hk502 krm (by decide)) (Eq.trans (hf480.get krm rfl) (Eq.trans (hf450.get krm rfl) (Eq.trans (hf446.get krm rfl) (Eq.trans (hf122.get krm rfl) (Eq.trans (hf65.get krm rfl) (Eq.trans (hf4.get krm rfl) eG8.symm)))))))))))
                    have hG8t : (I516 rm 8).toInt = G8.toInt := congrArg Int32.toInt hG8
                    have hG9 : I516 rm 9 = G9 := (Eq.trans (up2_at (Or.inr (by decide)) eI516) (Eq.trans (up2_kk eI512 hK505 krm (by omega)) (Eq.trans (up2_kk eI510 hk508 krm (by decide)) (Eq.trans (up2_kk eI507 hk505 krm (by omega)) (Eq.trans (up2_kk eI504 hk502 krm (by decide)) (Eq.trans (hf480.get krm rfl) (Eq.trans (hf450.get krm rfl) (Eq.trans (hf446.get krm rfl) (Eq.trans (hf122.get krm rfl) (Eq.trans (hf65.get krm rfl) (Eq.trans (hf4.get krm rfl) eG9.symm)))))))))))
                    have hG9t : (I516 rm 9).toInt = G9.toInt := congrArg Int32.toInt hG9
                    have hGN : I516 rm 10 = N1 := (Eq.trans (up2_at (Or.inr (by decide)) eI516) (Eq.trans (up2_kk eI512 hK505 krm (by omega)) (Eq.trans (up2_kk eI510 hk508 krm (by decide)) (Eq.trans (up2_kk eI507 hk505 krm (by omega)) (Eq.trans (up2_kk eI504 hk502 krm (by decide)) (Eq.trans (hf480.get krm rfl) (Eq.trans (hf450.get krm rfl) (Eq.trans (hf446.get krm rfl) (Eq.trans (hf122.get krm rfl) eN1.symm)))))))))
                    have hGNt : (I516 rm 10).toInt = N1.toInt := congrArg Int32.toInt hGN
                    have hv8 : I516 a0 8 = A9 := (Eq.trans (up2_kk eI516 krm ka0 (by decide)) (Eq.trans (up2_kk eI512 hK505 ka0 (by omega)) (Eq.trans (up2_kk eI510 hk508 ka0 (by decide)) (Eq.trans (up2_kk eI507 hk505 ka0 (by omega)) (Eq.trans (up2_kk eI504 hk502 ka0 (by decide)) eA9.symm)))))
                    have hv8t : (I516 a0 8).toInt = A9.toInt := congrArg Int32.toInt hv8
                    have hv9 : I516 a0 9 = x499_ := (Eq.trans (up2_kk eI516 krm ka0 (by decide)) (Eq.trans (up2_kk eI512 hK505 ka0 (by omega)) (Eq.trans (up2_kk eI510 hk508 ka0 (by decide)) (Eq.trans (up2_kk eI507 hk505 ka0 (by omega)) (Eq.trans (up2_kk eI504 hk502 ka0 (by decide)) e499.symm)))))
                    have hv9t : (I516 a0 9).toInt = x499_.toInt := congrArg Int32.toInt hv9
                    exact r_vret hC hQ hlk hr (by decide) (by decide) dX10_readStory_283 ⟨_, _, rfl, rfl, ⟨hs516, hF516, hFJ480, (by first | (left; omega) | (right; omega)), (by omega), (by omega), (by omega)⟩⟩
                  · have hG3 : I480 rm 3 = G3 := (Eq.trans (hf480.get krm rfl) (Eq.trans (hf450.get krm rfl) (Eq.trans (hf446.get krm rfl) (Eq.trans (hf122.get krm rfl) (Eq.trans (hf65.get krm rfl) (Eq.trans (hf4.get krm rfl) eG3.symm))))))
                    have hG3t : (I480 rm 3).toInt = G3.toInt := congrArg Int32.toInt hG3
                    have hG4 : I480 rm 4 = G4 := (Eq.trans (hf480.get krm rfl) (Eq.trans (hf450.get krm rfl) (Eq.trans (hf446.get krm rfl) (Eq.trans (hf122.get krm rfl) (Eq.trans (hf65.get krm rfl) (Eq.trans (hf4.get krm rfl) eG4.symm))))))
                    have hG4t : (I480 rm 4).toInt = G4.toInt := congrArg Int32.toInt hG4
                    have hG7 : I480 rm 7 = x63_ := (Eq.trans (hf480.get krm rfl) (Eq.trans (hf450.get krm rfl) (Eq.trans (hf446.get krm rfl) (Eq.trans (hf122.get krm rfl) (Eq.trans (hf65.get krm rfl) e63.symm)))))
                    have hG7t : (I480 rm 7).toInt = x63_.toInt := congrArg Int32.toInt hG7
                    have hG8 : I480 rm 8 = G8 := (Eq.trans (hf480.get krm rfl) (Eq.trans (hf450.get krm rfl) (Eq.trans (hf446.get krm rfl) (Eq.trans (hf122.get krm rfl) (Eq.trans (hf65.get krm rfl) (Eq.trans (hf4.get krm rfl) eG8.symm))))))
                    have hG8t : (I480 rm 8).toInt = G8.toInt := congrArg Int32.toInt hG8
                    have hG9 : I480 rm 9 = G9 := (Eq.trans (hf480.get krm rfl) (Eq.trans (hf450.get krm rfl) (Eq.trans (hf446.get krm rfl) (Eq.trans (hf122.get krm rfl) (Eq.trans (hf65.get krm rfl) (Eq.trans (hf4.get krm rfl) eG9.symm))))))
                    have hG9t : (I480 rm 9).toInt = G9.toInt := congrArg Int32.toInt hG9
                    have hGN : I480 rm 10 = N1 := (Eq.trans (hf480.get krm rfl) (Eq.trans (hf450.get krm rfl) (Eq.trans (hf446.get krm rfl) (Eq.trans (hf122.get krm rfl) eN1.symm))))
                    have hGNt : (I480 rm 10).toInt = N1.toInt := congrArg Int32.toInt hGN
                    have hv8 : I480 a0 8 = A9 := eA9.symm
                    have hv8t : (I480 a0 8).toInt = A9.toInt := congrArg Int32.toInt hv8
                    have hv9 : I480 a0 9 = x499_ := e499.symm
                    have hv9t : (I480 a0 9).toInt = x499_.toInt := congrArg Int32.toInt hv9
                    exact r_vret hC hQ hlk hr (by decide) (by decide) dX10_readStory_204 ⟨_, _, rfl, rfl, ⟨hs480, hF480, hFJ480, (by first | (left; omega) | (right; omega)), (by omega), (by omega), (by omega)⟩⟩
          · replace k174_2 := k174_2 c175
            refine r_iconst hC (v := (1)) dX10_readStory_57 (by decide) (by decide) (fun x517_ e517 t517 => ?_)
            refine r_goto hC (tgt := 115) dX10_readStory_58 (by decide) ?_
            refine r_istore_n hC (lv' := [(2, .int x517_), (1, .int x122_), (0, .ref a0)]) dX10_readStory_115 (by decide) rfl ?_
            refine r_iload_n hC dX10_readStory_116 0 rfl ?_
            refine r_iconst hC (v := (-1)) dX10_readStory_117 (by decide) (by decide) (fun x518_ e518 t518 => ?_)
            refine r_icmp_ne hC (tgt := 126) dX10_readStory_118 (by decide) (fun c519 => ?_) (fun c519 => ?_)
            rotate_left
            · exfalso; omega
            refine r_aload_n hC dX10_readStory_126 2 rfl ?_
            have md520 : (I122 a0 9).toInt ≠ 5 := by omega
            refine r_callV hC (As := []) (rest := []) (ci := 10) (c_X10_goesOn g (xL X) K len I122 J122 R hs122 a0 ka0) mT_5_199 mT_1_10 mT_5_196 mT_5_198 mP_49 okX10_goesOn ⟨by decide, by decide⟩ rfl (by show kO (K a0) = _; rw [ka0]; rfl) rfl rfl (Nat.le_of_ble_eq_true rfl) ⟨by decide, by decide⟩ dX10_readStory_127 (aV2 (F := fun st M => P g X 5 130 [(2, .int x517_), (1, .int x122_), (0, .ref a0)] st _ _ M) (M := (K, len, I122, J122, R)) fun I521 J521 h521 => ?_)
            obtain ⟨hs521, hf521, hfj521, k521_0, k521_1, k521_2, k521_3⟩ := h521
            show P g X 5 130 [(2, .int x517_), (1, .int x122_), (0, .ref a0)] [] _ _ (K, len, I521, J521, R)
            have hF521 : Fr K [(10, 7), (10, 10), (11, 8), (11, 9), (11, 10), (11, 11), (11, 12), (11, 13), (75, 999), (76, 999), (83, 999), (84, 999), (1000, 999)] I I521 := hF122.trans hf521 rfl rfl
            have hFJ521 : Fr K [(11, 14), (82, 999)] J J521 := hFJ122.trans hfj521 rfl rfl
            clear k122_3
            have sf521 := k521_1 md520
            replace k521_3 := k521_3 md520
            clear k521_0 k521_1 md520 sf122
            refine r_aload_n hC dX10_readStory_130 2 rfl ?_
            refine r_iconst hC (v := (0)) dX10_readStory_131 (by decide) (by decide) (fun x522_ e522 t522 => ?_)
            refine r_bipush hC (v := (99)) dX10_readStory_132 (by decide) (by decide) (fun x523_ e523 t523 => ?_)
            have md524 : (I521 a0 9).toInt ≠ 5 := by omega
            refine r_callV hC (As := [.int x522_, .int x523_]) (rest := []) (ci := 10) (c_X10_readWhole g (xL X) K len I521 J521 R hs521 a0 ka0 x522_ x523_) mT_6_5 mT_1_10 mT_6_2 mT_6_4 mP_57 okX10_readWhole ⟨by decide, by decide⟩ rfl (by show kO (K a0) = _; rw [ka0]; rfl) rfl rfl (Nat.le_of_ble_eq_true rfl) ⟨by decide, by decide⟩ dX10_readStory_134 (aI2 (F := fun st M => P g X 5 137 [(2, .int x517_), (1, .int x122_), (0, .ref a0)] st _ _ M) (M := (K, len, I521, J521, R)) fun x525_ I525 J525 h525 => ?_)
            obtain ⟨hs525, hf525, hfj525, k525_0, k525_1, k525_2, k525_3⟩ := h525
            show P g X 5 137 [(2, .int x517_), (1, .int x122_), (0, .ref a0)] [.int x525_] _ _ (K, len, I525, J525, R)
            have hF525 : Fr K [(10, 7), (10, 10), (11, 8), (11, 9), (11, 10), (11, 11), (11, 12), (11, 13), (75, 999), (76, 999), (83, 999), (84, 999), (1000, 999)] I I525 := hF521.trans hf525 rfl rfl
            have hFJ525 : Fr K [(11, 14), (82, 999)] J J525 := hFJ521.trans hfj525 rfl rfl
            clear k521_3
            by_cases sf525 : (I525 a0 9).toInt = 5
            · clear k525_0 k525_1 k525_3 md524 sf521
              refine r_istore_n hC (lv' := [(3, .int x525_), (2, .int x517_), (1, .int x122_), (0, .ref a0)]) dX10_readStory_137 (by decide) rfl ?_
              refine r_iload_n hC dX10_readStory_138 1 rfl ?_
              refine r_iconst hC (v := (2)) dX10_readStory_139 (by decide) (by decide) (fun x526_ e526 t526 => ?_)
              refine r_icmp_ne hC (tgt := 156) dX10_readStory_140 (by decide) (fun c527 => ?_) (fun c527 => ?_)
              rotate_left
              · exfalso; omega
              refine r_iload_n hC dX10_readStory_156 1 rfl ?_
              refine r_iconst hC (v := (3)) dX10_readStory_157 (by decide) (by decide) (fun x528_ e528 t528 => ?_)
              refine r_icmp_ne hC (tgt := 175) dX10_readStory_158 (by decide) (fun c529 => ?_) (fun c529 => ?_)
              rotate_left
              · exfalso; omega
              refine r_iload_n hC dX10_readStory_175 1 rfl ?_
              refine r_iconst hC (v := (4)) dX10_readStory_176 (by decide) (by decide) (fun x530_ e530 t530 => ?_)
              refine r_icmp_ne hC (tgt := 193) dX10_readStory_177 (by decide) (fun c531 => ?_) (fun c531 => ?_)
              rotate_left
              · exfalso; omega
              refine r_iconst hC (v := (0)) dX10_readStory_193 (by decide) (by decide) (fun x532_ e532 t532 => ?_)
              refine r_istore hC (lv' := [(4, .int x532_), (3, .int x525_), (2, .int x517_), (1, .int x122_), (0, .ref a0)]) dX10_readStory_194 (by decide) rfl ?_
              refine r_aload_n hC dX10_readStory_196 4 rfl ?_
              obtain ⟨A9, eA9⟩ : ∃ z : Int32, z = I525 a0 8 := ⟨_, rfl⟩
              have fA9 : A9.toInt = (I525 a0 8).toInt := by rw [eA9]
              have rA9 := hs525.rng ka0 rfl eA9
              refine r_geti hC 9 (ci := 10) rfl u10_in (by decide) mT_5_4 dX10_readStory_197 ka0 rfl rfl (fun x533_ e533 => ?_)
              have f533 : x533_.toInt = (I525 a0 9).toInt := by rw [e533]
              refine r_iconst hC (v := (5)) dX10_readStory_200 (by decide) (by decide) (fun x534_ e534 t534 => ?_)
              refine r_icmp_ne hC (tgt := 205) dX10_readStory_201 (by decide) (fun c535 => ?_) (fun c535 => ?_)
              · refine r_aload_n hC dX10_readStory_205 4 rfl ?_
                refine r_getr hC 4 (ci := 10) rfl u10_in (by decide) mT_4_239 dX10_readStory_206 ka0 rfl rfl hbr ?_
                obtain ⟨a536_, hb536, hk536, hn536⟩ := hs525.row krm 16 75 6 (by decide) (by decide)
                refine r_getrN hC 16 (ci := 9) rfl u9_in (by decide) nF_16 dX10_readStory_209 krm rfl rfl hb536 ?_
                refine r_aload_n hC dX10_readStory_212 4 rfl ?_
                refine r_getr hC 4 (ci := 10) rfl u10_in (by decide) mT_4_239 dX10_readStory_213 ka0 rfl rfl hbr ?_
                refine r_getiN hC 7 (ci := 9) rfl u9_in (by decide) nF_7 dX10_readStory_216 krm rfl rfl (fun x537_ e537 => ?_)
                have r537 := hs525.rng krm rfl e537
                have f537 : x537_.toInt = (I525 rm 7).toInt := by rw [e537]
                have w537 : x537_ = x63_ := by rw [e537]; exact (Eq.trans (hf525.get krm rfl) (Eq.trans (hf521.get krm rfl) (Eq.trans (hf122.get krm rfl) (Eq.trans (hf65.get krm rfl) e63.symm))))
                have wt537 : x537_.toInt = x63_.toInt := by rw [w537]
                refine r_iload_n hC dX10_readStory_219 3 rfl ?_
                refine x_iastore hC hk536 hn536 (by decide) rfl rfl dX10_readStory_220 (by omega) (by omega) (fun I538 eI538 => ?_)
                have hs538 := hs525.put0 eI538 hk536 (rng_arr (by decide) _) rfl (xF_arr (by decide) _) (by decide)
                have hF538 := hF525.put eI538 hk536 (inS_arr rfl _)
                refine r_aload_n hC dX10_readStory_221 4 rfl ?_
                refine r_getr hC 4 (ci := 10) rfl u10_in (by decide) mT_4_239 dX10_readStory_222 ka0 rfl rfl hbr ?_
                obtain ⟨kd539, mo539, hb539, hk539, hn539, hB539, hK539, hN539⟩ := hs538.2.2.1 rm krm
                refine r_getrN hC 17 (ci := 9) rfl u9_in (by decide) nF_17 dX10_readStory_225 krm rfl rfl hb539 ?_
                refine r_aload_n hC dX10_readStory_228 4 rfl ?_
                refine r_getr hC 4 (ci := 10) rfl u10_in (by decide) mT_4_239 dX10_readStory_229 ka0 rfl rfl hbr ?_
                refine r_getiN hC 7 (ci := 9) rfl u9_in (by decide) nF_7 dX10_readStory_232 krm rfl rfl (fun x540_ e540 => ?_)
                have r540 := hs538.rng krm rfl e540
                have f540 : x540_.toInt = (I538 rm 7).toInt := by rw [e540]
                have w540 : x540_ = x537_ := by rw [e540]; exact (Eq.trans (up2_kk eI538 hk536 krm (by decide)) e537.symm)
                have wt540 : x540_.toInt = x537_.toInt := by rw [w540]
                refine r_iload_n hC dX10_readStory_235 2 rfl ?_
                refine x_iastore hC hk539 hn539 (by omega) (kOb (by omega)) (kAb (by omega)) dX10_readStory_236 (by omega) (by omega) (fun I541 eI541 => ?_)
                have hs541 : Sf K len I541 R := hs538.putK (rm := rm) eI541 (Or.inl hk539) (by have h9 := clampI (i := x540_) (by omega); omega)
                have hF541 := hF538.put eI541 hk539 (inS_big rfl (by omega) _)
                refine r_aload_n hC dX10_readStory_237 4 rfl ?_
                refine r_getr hC 4 (ci := 10) rfl u10_in (by decide) mT_4_239 dX10_readStory_238 ka0 rfl rfl hbr ?_
                obtain ⟨a542_, hb542, hk542, hn542⟩ := hs541.row krm 18 76 6 (by decide) (by decide)
                refine r_getrN hC 18 (ci := 9) rfl u9_in (by decide) nF_18 dX10_readStory_241 krm rfl rfl hb542 ?_
                refine r_aload_n hC dX10_readStory_244 4 rfl ?_
                refine r_getr hC 4 (ci := 10) rfl u10_in (by decide) mT_4_239 dX10_readStory_245 ka0 rfl rfl hbr ?_
                refine r_getiN hC 7 (ci := 9) rfl u9_in (by decide) nF_7 dX10_readStory_248 krm rfl rfl (fun x543_ e543 => ?_)
                have r543 := hs541.rng krm rfl e543
                have f543 : x543_.toInt = (I541 rm 7).toInt := by rw [e543]
                have w543 : x543_ = x540_ := by rw [e543]; exact (Eq.trans (up2_kk eI541 hk539 krm (by omega)) e540.symm)
                have wt543 : x543_.toInt = x540_.toInt := by rw [w543]
                refine r_iload_n hC dX10_readStory_251 1 rfl ?_
                refine x_iastore hC hk542 hn542 (by decide) rfl rfl dX10_readStory_252 (by omega) (by omega) (fun I544 eI544 => ?_)
                have hs544 := hs541.put0 eI544 hk542 (rng_arr (by decide) _) rfl (xF_arr (by decide) _) (by decide)
                have hF544 := hF541.put eI544 hk542 (inS_arr rfl _)
                refine r_aload_n hC dX10_readStory_253 4 rfl ?_
                refine r_getr hC 4 (ci := 10) rfl u10_in (by decide) mT_4_239 dX10_readStory_254 ka0 rfl rfl hbr ?_
                refine r_getrN hC 19 (ci := 9) rfl u9_in (by decide) nF_19 dX10_readStory_257 krm rfl rfl hB539 ?_
                refine r_aload_n hC dX10_readStory_260 4 rfl ?_
                refine r_getr hC 4 (ci := 10) rfl u10_in (by decide) mT_4_239 dX10_readStory_261 ka0 rfl rfl hbr ?_
                refine r_getiN hC 7 (ci := 9) rfl u9_in (by decide) nF_7 dX10_readStory_264 krm rfl rfl (fun x545_ e545 => ?_)
                have r545 := hs544.rng krm rfl e545
                have f545 : x545_.toInt = (I544 rm 7).toInt := by rw [e545]
                have w545 : x545_ = x543_ := by rw [e545]; exact (Eq.trans (up2_kk eI544 hk542 krm (by decide)) e543.symm)
                have wt545 : x545_.toInt = x543_.toInt := by rw [w545]
                refine r_iload hC dX10_readStory_267 0 rfl ?_
                refine x_iastore hC hK539 hN539 (by omega) (kOb (by omega)) (kAb (by omega)) dX10_readStory_269 (by omega) (by omega) (fun I546 eI546 => ?_)
                have hs546 : Sf K len I546 R := hs544.putK (rm := rm) eI546 (Or.inr hK539) (by have h9 := clampI (i := x545_) (by omega); omega)
                have hF546 := hF544.put eI546 hK539 (inS_big rfl (by omega) _)
                refine r_aload_n hC dX10_readStory_270 4 rfl ?_
                refine r_getr hC 4 (ci := 10) rfl u10_in (by decide) mT_4_239 dX10_readStory_271 ka0 rfl rfl hbr ?_
                refine r_dup hC dX10_readStory_274 rfl ?_
                refine r_getiN hC 7 (ci := 9) rfl u9_in (by decide) nF_7 dX10_readStory_275 krm rfl rfl (fun x547_ e547 => ?_)
                have r547 := hs546.rng krm rfl e547
                have f547 : x547_.toInt = (I546 rm 7).toInt := by rw [e547]
                have w547 : x547_ = x545_ := by rw [e547]; exact (Eq.trans (up2_kk eI546 hK539 krm (by omega)) e545.symm)
                have wt547 : x547_.toInt = x545_.toInt := by rw [w547]
                refine r_iconst hC (v := (1)) dX10_readStory_278 (by decide) (by decide) (fun x548_ e548 t548 => ?_)
                refine r_iadd hC dX10_readStory_279 (fun x549_ e549 => ?_)
                try have t549 : x549_.toInt = x547_.toInt + x548_.toInt := by rw [e549]; exact ti_add (by omega) (by omega)
                refine r_putiN hC 7 (ci := 9) rfl u9_in tyX9_ok nmX9 (by decide) nF_7 rfl rfl rfl dX10_readStory_280 krm rfl rfl (fun I550 eI550 => ?_)
                have hs550 : Sf K len I550 R := hs546.putA7 eI550 krm hb539 hB539 (by omega) (by omega) (j := x540_.toNatClampNeg) (by have h9 := clampI (i := x540_) (by omega); omega) (by omega) (by rw [(show I546 kd539 x540_.toNatClampNeg = x517_ from (Eq.trans (up2_kk eI546 hK539 hk539 (by omega)) (Eq.trans (up2_kk eI544 hk542 hk539 (by omega)) (by rw [eI541]; exact up2_self _ _ _ _)))), cl_eq (show x540_.toInt = x545_.toInt by omega), (show I546 mo539 x545_.toNatClampNeg = x532_ from (by rw [eI546]; exact up2_self _ _ _ _))]; omega)
                have hF550 := hF546.put eI550 krm rfl
                have hG3 : I550 rm 3 = G3 := (Eq.trans (up2_at (Or.inr (by decide)) eI550) (Eq.trans (up2_kk eI546 hK539 krm (by omega)) (Eq.trans (up2_kk eI544 hk542 krm (by decide)) (Eq.trans (up2_kk eI541 hk539 krm (by omega)) (Eq.trans (up2_kk eI538 hk536 krm (by decide)) (Eq.trans (hf525.get krm rfl) (Eq.trans (hf521.get krm rfl) (Eq.trans (hf122.get krm rfl) (Eq.trans (hf65.get krm rfl) (Eq.trans (hf4.get krm rfl) eG3.symm))))))))))
                have hG3t : (I550 rm 3).toInt = G3.toInt := congrArg Int32.toInt hG3
                have hG4 : I550 rm 4 = G4 := (Eq.trans (up2_at (Or.inr (by decide)) eI550) (Eq.trans (up2_kk eI546 hK539 krm (by omega)) (Eq.trans (up2_kk eI544 hk542 krm (by decide)) (Eq.trans (up2_kk eI541 hk539 krm (by omega)) (Eq.trans (up2_kk eI538 hk536 krm (by decide)) (Eq.trans (hf525.get krm rfl) (Eq.trans (hf521.get krm rfl) (Eq.trans (hf122.get krm rfl) (Eq.trans (hf65.get krm rfl) (Eq.trans (hf4.get krm rfl) eG4.symm))))))))))
                have hG4t : (I550 rm 4).toInt = G4.toInt := congrArg Int32.toInt hG4
                have hG7 : I550 rm 7 = x549_ := (by rw [eI550]; exact up2_self _ _ _ _)
                have hG7t : (I550 rm 7).toInt = x549_.toInt := congrArg Int32.toInt hG7
                have hG8 : I550 rm 8 = G8 := (Eq.trans (up2_at (Or.inr (by decide)) eI550) (Eq.trans (up2_kk eI546 hK539 krm (by omega)) (Eq.trans (up2_kk eI544 hk542 krm (by decide)) (Eq.trans (up2_kk eI541 hk539 krm (by omega)) (Eq.trans (up2_kk eI538 hk536 krm (by decide)) (Eq.trans (hf525.get krm rfl) (Eq.trans (hf521.get krm rfl) (Eq.trans (hf122.get krm rfl) (Eq.trans (hf65.get krm rfl) (Eq.trans (hf4.get krm rfl) eG8.symm))))))))))
                have hG8t : (I550 rm 8).toInt = G8.toInt := congrArg Int32.toInt hG8
                have hG9 : I550 rm 9 = G9 := (Eq.trans (up2_at (Or.inr (by decide)) eI550) (Eq.trans (up2_kk eI546 hK539 krm (by omega)) (Eq.trans (up2_kk eI544 hk542 krm (by decide)) (Eq.trans (up2_kk eI541 hk539 krm (by omega)) (Eq.trans (up2_kk eI538 hk536 krm (by decide)) (Eq.trans (hf525.get krm rfl) (Eq.trans (hf521.get krm rfl) (Eq.trans (hf122.get krm rfl) (Eq.trans (hf65.get krm rfl) (Eq.trans (hf4.get krm rfl) eG9.symm))))))))))
                have hG9t : (I550 rm 9).toInt = G9.toInt := congrArg Int32.toInt hG9
                have hGN : I550 rm 10 = N1 := (Eq.trans (up2_at (Or.inr (by decide)) eI550) (Eq.trans (up2_kk eI546 hK539 krm (by omega)) (Eq.trans (up2_kk eI544 hk542 krm (by decide)) (Eq.trans (up2_kk eI541 hk539 krm (by omega)) (Eq.trans (up2_kk eI538 hk536 krm (by decide)) (Eq.trans (hf525.get krm rfl) (Eq.trans (hf521.get krm rfl) (Eq.trans (hf122.get krm rfl) eN1.symm))))))))
                have hGNt : (I550 rm 10).toInt = N1.toInt := congrArg Int32.toInt hGN
                have hv8 : I550 a0 8 = A9 := (Eq.trans (up2_kk eI550 krm ka0 (by decide)) (Eq.trans (up2_kk eI546 hK539 ka0 (by omega)) (Eq.trans (up2_kk eI544 hk542 ka0 (by decide)) (Eq.trans (up2_kk eI541 hk539 ka0 (by omega)) (Eq.trans (up2_kk eI538 hk536 ka0 (by decide)) eA9.symm)))))
                have hv8t : (I550 a0 8).toInt = A9.toInt := congrArg Int32.toInt hv8
                have hv9 : I550 a0 9 = x533_ := (Eq.trans (up2_kk eI550 krm ka0 (by decide)) (Eq.trans (up2_kk eI546 hK539 ka0 (by omega)) (Eq.trans (up2_kk eI544 hk542 ka0 (by decide)) (Eq.trans (up2_kk eI541 hk539 ka0 (by omega)) (Eq.trans (up2_kk eI538 hk536 ka0 (by decide)) e533.symm)))))
                have hv9t : (I550 a0 9).toInt = x533_.toInt := congrArg Int32.toInt hv9
                exact r_vret hC hQ hlk hr (by decide) (by decide) dX10_readStory_283 ⟨_, _, rfl, rfl, ⟨hs550, hF550, hFJ525, (by first | (left; omega) | (right; omega)), (by omega), (by omega), (by omega)⟩⟩
              · have hG3 : I525 rm 3 = G3 := (Eq.trans (hf525.get krm rfl) (Eq.trans (hf521.get krm rfl) (Eq.trans (hf122.get krm rfl) (Eq.trans (hf65.get krm rfl) (Eq.trans (hf4.get krm rfl) eG3.symm)))))
                have hG3t : (I525 rm 3).toInt = G3.toInt := congrArg Int32.toInt hG3
                have hG4 : I525 rm 4 = G4 := (Eq.trans (hf525.get krm rfl) (Eq.trans (hf521.get krm rfl) (Eq.trans (hf122.get krm rfl) (Eq.trans (hf65.get krm rfl) (Eq.trans (hf4.get krm rfl) eG4.symm)))))
                have hG4t : (I525 rm 4).toInt = G4.toInt := congrArg Int32.toInt hG4
                have hG7 : I525 rm 7 = x63_ := (Eq.trans (hf525.get krm rfl) (Eq.trans (hf521.get krm rfl) (Eq.trans (hf122.get krm rfl) (Eq.trans (hf65.get krm rfl) e63.symm))))
                have hG7t : (I525 rm 7).toInt = x63_.toInt := congrArg Int32.toInt hG7
                have hG8 : I525 rm 8 = G8 := (Eq.trans (hf525.get krm rfl) (Eq.trans (hf521.get krm rfl) (Eq.trans (hf122.get krm rfl) (Eq.trans (hf65.get krm rfl) (Eq.trans (hf4.get krm rfl) eG8.symm)))))
                have hG8t : (I525 rm 8).toInt = G8.toInt := congrArg Int32.toInt hG8
                have hG9 : I525 rm 9 = G9 := (Eq.trans (hf525.get krm rfl) (Eq.trans (hf521.get krm rfl) (Eq.trans (hf122.get krm rfl) (Eq.trans (hf65.get krm rfl) (Eq.trans (hf4.get krm rfl) eG9.symm)))))
                have hG9t : (I525 rm 9).toInt = G9.toInt := congrArg Int32.toInt hG9
                have hGN : I525 rm 10 = N1 := (Eq.trans (hf525.get krm rfl) (Eq.trans (hf521.get krm rfl) (Eq.trans (hf122.get krm rfl) eN1.symm)))
                have hGNt : (I525 rm 10).toInt = N1.toInt := congrArg Int32.toInt hGN
                have hv8 : I525 a0 8 = A9 := eA9.symm
                have hv8t : (I525 a0 8).toInt = A9.toInt := congrArg Int32.toInt hv8
                have hv9 : I525 a0 9 = x533_ := e533.symm
                have hv9t : (I525 a0 9).toInt = x533_.toInt := congrArg Int32.toInt hv9
                exact r_vret hC hQ hlk hr (by decide) (by decide) dX10_readStory_204 ⟨_, _, rfl, rfl, ⟨hs525, hF525, hFJ525, (by first | (left; omega) | (right; omega)), (by omega), (by omega), (by omega)⟩⟩
            · replace k525_1 := k525_1 sf525
              clear k525_0 md524 sf521
              refine r_istore_n hC (lv' := [(3, .int x525_), (2, .int x517_), (1, .int x122_), (0, .ref a0)]) dX10_readStory_137 (by decide) rfl ?_
              refine r_iload_n hC dX10_readStory_138 1 rfl ?_
              refine r_iconst hC (v := (2)) dX10_readStory_139 (by decide) (by decide) (fun x551_ e551 t551 => ?_)
              refine r_icmp_ne hC (tgt := 156) dX10_readStory_140 (by decide) (fun c552 => ?_) (fun c552 => ?_)
              rotate_left
              · exfalso; omega
              refine r_iload_n hC dX10_readStory_156 1 rfl ?_
              refine r_iconst hC (v := (3)) dX10_readStory_157 (by decide) (by decide) (fun x553_ e553 t553 => ?_)
              refine r_icmp_ne hC (tgt := 175) dX10_readStory_158 (by decide) (fun c554 => ?_) (fun c554 => ?_)
              rotate_left
              · exfalso; omega
              refine r_iload_n hC dX10_readStory_175 1 rfl ?_
              refine r_iconst hC (v := (4)) dX10_readStory_176 (by decide) (by decide) (fun x555_ e555 t555 => ?_)
              refine r_icmp_ne hC (tgt := 193) dX10_readStory_177 (by decide) (fun c556 => ?_) (fun c556 => ?_)
              rotate_left
              · exfalso; omega
              refine r_iconst hC (v := (0)) dX10_readStory_193 (by decide) (by decide) (fun x557_ e557 t557 => ?_)
              refine r_istore hC (lv' := [(4, .int x557_), (3, .int x525_), (2, .int x517_), (1, .int x122_), (0, .ref a0)]) dX10_readStory_194 (by decide) rfl ?_
              refine r_aload_n hC dX10_readStory_196 4 rfl ?_
              obtain ⟨A9, eA9⟩ : ∃ z : Int32, z = I525 a0 8 := ⟨_, rfl⟩
              have fA9 : A9.toInt = (I525 a0 8).toInt := by rw [eA9]
              have rA9 := hs525.rng ka0 rfl eA9
              refine r_geti hC 9 (ci := 10) rfl u10_in (by decide) mT_5_4 dX10_readStory_197 ka0 rfl rfl (fun x558_ e558 => ?_)
              have f558 : x558_.toInt = (I525 a0 9).toInt := by rw [e558]
              refine r_iconst hC (v := (5)) dX10_readStory_200 (by decide) (by decide) (fun x559_ e559 t559 => ?_)
              refine r_icmp_ne hC (tgt := 205) dX10_readStory_201 (by decide) (fun c560 => ?_) (fun c560 => ?_)
              · refine r_aload_n hC dX10_readStory_205 4 rfl ?_
                refine r_getr hC 4 (ci := 10) rfl u10_in (by decide) mT_4_239 dX10_readStory_206 ka0 rfl rfl hbr ?_
                obtain ⟨a561_, hb561, hk561, hn561⟩ := hs525.row krm 16 75 6 (by decide) (by decide)
                refine r_getrN hC 16 (ci := 9) rfl u9_in (by decide) nF_16 dX10_readStory_209 krm rfl rfl hb561 ?_
                refine r_aload_n hC dX10_readStory_212 4 rfl ?_
                refine r_getr hC 4 (ci := 10) rfl u10_in (by decide) mT_4_239 dX10_readStory_213 ka0 rfl rfl hbr ?_
                refine r_getiN hC 7 (ci := 9) rfl u9_in (by decide) nF_7 dX10_readStory_216 krm rfl rfl (fun x562_ e562 => ?_)
                have r562 := hs525.rng krm rfl e562
                have f562 : x562_.toInt = (I525 rm 7).toInt := by rw [e562]
                have w562 : x562_ = x63_ := by rw [e562]; exact (Eq.trans (hf525.get krm rfl) (Eq.trans (hf521.get krm rfl) (Eq.trans (hf122.get krm rfl) (Eq.trans (hf65.get krm rfl) e63.symm))))
                have wt562 : x562_.toInt = x63_.toInt := by rw [w562]
                refine r_iload_n hC dX10_readStory_219 3 rfl ?_
                refine x_iastore hC hk561 hn561 (by decide) rfl rfl dX10_readStory_220 (by omega) (by omega) (fun I563 eI563 => ?_)
                have hs563 := hs525.put0 eI563 hk561 (rng_arr (by decide) _) rfl (xF_arr (by decide) _) (by decide)
                have hF563 := hF525.put eI563 hk561 (inS_arr rfl _)
                refine r_aload_n hC dX10_readStory_221 4 rfl ?_
                refine r_getr hC 4 (ci := 10) rfl u10_in (by decide) mT_4_239 dX10_readStory_222 ka0 rfl rfl hbr ?_
                obtain ⟨kd564, mo564, hb564, hk564, hn564, hB564, hK564, hN564⟩ := hs563.2.2.1 rm krm
                refine r_getrN hC 17 (ci := 9) rfl u9_in (by decide) nF_17 dX10_readStory_225 krm rfl rfl hb564 ?_
                refine r_aload_n hC dX10_readStory_228 4 rfl ?_
                refine r_getr hC 4 (ci := 10) rfl u10_in (by decide) mT_4_239 dX10_readStory_229 ka0 rfl rfl hbr ?_
                refine r_getiN hC 7 (ci := 9) rfl u9_in (by decide) nF_7 dX10_readStory_232 krm rfl rfl (fun x565_ e565 => ?_)
                have r565 := hs563.rng krm rfl e565
                have f565 : x565_.toInt = (I563 rm 7).toInt := by rw [e565]
                have w565 : x565_ = x562_ := by rw [e565]; exact (Eq.trans (up2_kk eI563 hk561 krm (by decide)) e562.symm)
                have wt565 : x565_.toInt = x562_.toInt := by rw [w565]
                refine r_iload_n hC dX10_readStory_235 2 rfl ?_
                refine x_iastore hC hk564 hn564 (by omega) (kOb (by omega)) (kAb (by omega)) dX10_readStory_236 (by omega) (by omega) (fun I566 eI566 => ?_)
                have hs566 : Sf K len I566 R := hs563.putK (rm := rm) eI566 (Or.inl hk564) (by have h9 := clampI (i := x565_) (by omega); omega)
                have hF566 := hF563.put eI566 hk564 (inS_big rfl (by omega) _)
                refine r_aload_n hC dX10_readStory_237 4 rfl ?_
                refine r_getr hC 4 (ci := 10) rfl u10_in (by decide) mT_4_239 dX10_readStory_238 ka0 rfl rfl hbr ?_
                obtain ⟨a567_, hb567, hk567, hn567⟩ := hs566.row krm 18 76 6 (by decide) (by decide)
                refine r_getrN hC 18 (ci := 9) rfl u9_in (by decide) nF_18 dX10_readStory_241 krm rfl rfl hb567 ?_
                refine r_aload_n hC dX10_readStory_244 4 rfl ?_
                refine r_getr hC 4 (ci := 10) rfl u10_in (by decide) mT_4_239 dX10_readStory_245 ka0 rfl rfl hbr ?_
                refine r_getiN hC 7 (ci := 9) rfl u9_in (by decide) nF_7 dX10_readStory_248 krm rfl rfl (fun x568_ e568 => ?_)
                have r568 := hs566.rng krm rfl e568
                have f568 : x568_.toInt = (I566 rm 7).toInt := by rw [e568]
                have w568 : x568_ = x565_ := by rw [e568]; exact (Eq.trans (up2_kk eI566 hk564 krm (by omega)) e565.symm)
                have wt568 : x568_.toInt = x565_.toInt := by rw [w568]
                refine r_iload_n hC dX10_readStory_251 1 rfl ?_
                refine x_iastore hC hk567 hn567 (by decide) rfl rfl dX10_readStory_252 (by omega) (by omega) (fun I569 eI569 => ?_)
                have hs569 := hs566.put0 eI569 hk567 (rng_arr (by decide) _) rfl (xF_arr (by decide) _) (by decide)
                have hF569 := hF566.put eI569 hk567 (inS_arr rfl _)
                refine r_aload_n hC dX10_readStory_253 4 rfl ?_
                refine r_getr hC 4 (ci := 10) rfl u10_in (by decide) mT_4_239 dX10_readStory_254 ka0 rfl rfl hbr ?_
                refine r_getrN hC 19 (ci := 9) rfl u9_in (by decide) nF_19 dX10_readStory_257 krm rfl rfl hB564 ?_
                refine r_aload_n hC dX10_readStory_260 4 rfl ?_
                refine r_getr hC 4 (ci := 10) rfl u10_in (by decide) mT_4_239 dX10_readStory_261 ka0 rfl rfl hbr ?_
                refine r_getiN hC 7 (ci := 9) rfl u9_in (by decide) nF_7 dX10_readStory_264 krm rfl rfl (fun x570_ e570 => ?_)
                have r570 := hs569.rng krm rfl e570
                have f570 : x570_.toInt = (I569 rm 7).toInt := by rw [e570]
                have w570 : x570_ = x568_ := by rw [e570]; exact (Eq.trans (up2_kk eI569 hk567 krm (by decide)) e568.symm)
                have wt570 : x570_.toInt = x568_.toInt := by rw [w570]
                refine r_iload hC dX10_readStory_267 0 rfl ?_
                refine x_iastore hC hK564 hN564 (by omega) (kOb (by omega)) (kAb (by omega)) dX10_readStory_269 (by omega) (by omega) (fun I571 eI571 => ?_)
                have hs571 : Sf K len I571 R := hs569.putK (rm := rm) eI571 (Or.inr hK564) (by have h9 := clampI (i := x570_) (by omega); omega)
                have hF571 := hF569.put eI571 hK564 (inS_big rfl (by omega) _)
                refine r_aload_n hC dX10_readStory_270 4 rfl ?_
                refine r_getr hC 4 (ci := 10) rfl u10_in (by decide) mT_4_239 dX10_readStory_271 ka0 rfl rfl hbr ?_
                refine r_dup hC dX10_readStory_274 rfl ?_
                refine r_getiN hC 7 (ci := 9) rfl u9_in (by decide) nF_7 dX10_readStory_275 krm rfl rfl (fun x572_ e572 => ?_)
                have r572 := hs571.rng krm rfl e572
                have f572 : x572_.toInt = (I571 rm 7).toInt := by rw [e572]
                have w572 : x572_ = x570_ := by rw [e572]; exact (Eq.trans (up2_kk eI571 hK564 krm (by omega)) e570.symm)
                have wt572 : x572_.toInt = x570_.toInt := by rw [w572]
                refine r_iconst hC (v := (1)) dX10_readStory_278 (by decide) (by decide) (fun x573_ e573 t573 => ?_)
                refine r_iadd hC dX10_readStory_279 (fun x574_ e574 => ?_)
                try have t574 : x574_.toInt = x572_.toInt + x573_.toInt := by rw [e574]; exact ti_add (by omega) (by omega)
                refine r_putiN hC 7 (ci := 9) rfl u9_in tyX9_ok nmX9 (by decide) nF_7 rfl rfl rfl dX10_readStory_280 krm rfl rfl (fun I575 eI575 => ?_)
                have hs575 : Sf K len I575 R := hs571.putA7 eI575 krm hb564 hB564 (by omega) (by omega) (j := x565_.toNatClampNeg) (by have h9 := clampI (i := x565_) (by omega); omega) (by omega) (by rw [(show I571 kd564 x565_.toNatClampNeg = x517_ from (Eq.trans (up2_kk eI571 hK564 hk564 (by omega)) (Eq.trans (up2_kk eI569 hk567 hk564 (by omega)) (by rw [eI566]; exact up2_self _ _ _ _)))), cl_eq (show x565_.toInt = x570_.toInt by omega), (show I571 mo564 x570_.toNatClampNeg = x557_ from (by rw [eI571]; exact up2_self _ _ _ _))]; omega)
                have hF575 := hF571.put eI575 krm rfl
                have hG3 : I575 rm 3 = G3 := (Eq.trans (up2_at (Or.inr (by decide)) eI575) (Eq.trans (up2_kk eI571 hK564 krm (by omega)) (Eq.trans (up2_kk eI569 hk567 krm (by decide)) (Eq.trans (up2_kk eI566 hk564 krm (by omega)) (Eq.trans (up2_kk eI563 hk561 krm (by decide)) (Eq.trans (hf525.get krm rfl) (Eq.trans (hf521.get krm rfl) (Eq.trans (hf122.get krm rfl) (Eq.trans (hf65.get krm rfl) (Eq.trans (hf4.get krm rfl) eG3.symm))))))))))
                have hG3t : (I575 rm 3).toInt = G3.toInt := congrArg Int32.toInt hG3
                have hG4 : I575 rm 4 = G4 := (Eq.trans (up2_at (Or.inr (by decide)) eI575) (Eq.trans (up2_kk eI571 hK564 krm (by omega)) (Eq.trans (up2_kk eI569 hk567 krm (by decide)) (Eq.trans (up2_kk eI566 hk564 krm (by omega)) (Eq.trans (up2_kk eI563 hk561 krm (by decide)) (Eq.trans (hf525.get krm rfl) (Eq.trans (hf521.get krm rfl) (Eq.trans (hf122.get krm rfl) (Eq.trans (hf65.get krm rfl) (Eq.trans (hf4.get krm rfl) eG4.symm))))))))))
                have hG4t : (I575 rm 4).toInt = G4.toInt := congrArg Int32.toInt hG4
                have hG7 : I575 rm 7 = x574_ := (by rw [eI575]; exact up2_self _ _ _ _)
                have hG7t : (I575 rm 7).toInt = x574_.toInt := congrArg Int32.toInt hG7
                have hG8 : I575 rm 8 = G8 := (Eq.trans (up2_at (Or.inr (by decide)) eI575) (Eq.trans (up2_kk eI571 hK564 krm (by omega)) (Eq.trans (up2_kk eI569 hk567 krm (by decide)) (Eq.trans (up2_kk eI566 hk564 krm (by omega)) (Eq.trans (up2_kk eI563 hk561 krm (by decide)) (Eq.trans (hf525.get krm rfl) (Eq.trans (hf521.get krm rfl) (Eq.trans (hf122.get krm rfl) (Eq.trans (hf65.get krm rfl) (Eq.trans (hf4.get krm rfl) eG8.symm))))))))))
                have hG8t : (I575 rm 8).toInt = G8.toInt := congrArg Int32.toInt hG8
                have hG9 : I575 rm 9 = G9 := (Eq.trans (up2_at (Or.inr (by decide)) eI575) (Eq.trans (up2_kk eI571 hK564 krm (by omega)) (Eq.trans (up2_kk eI569 hk567 krm (by decide)) (Eq.trans (up2_kk eI566 hk564 krm (by omega)) (Eq.trans (up2_kk eI563 hk561 krm (by decide)) (Eq.trans (hf525.get krm rfl) (Eq.trans (hf521.get krm rfl) (Eq.trans (hf122.get krm rfl) (Eq.trans (hf65.get krm rfl) (Eq.trans (hf4.get krm rfl) eG9.symm))))))))))
                have hG9t : (I575 rm 9).toInt = G9.toInt := congrArg Int32.toInt hG9
                have hGN : I575 rm 10 = N1 := (Eq.trans (up2_at (Or.inr (by decide)) eI575) (Eq.trans (up2_kk eI571 hK564 krm (by omega)) (Eq.trans (up2_kk eI569 hk567 krm (by decide)) (Eq.trans (up2_kk eI566 hk564 krm (by omega)) (Eq.trans (up2_kk eI563 hk561 krm (by decide)) (Eq.trans (hf525.get krm rfl) (Eq.trans (hf521.get krm rfl) (Eq.trans (hf122.get krm rfl) eN1.symm))))))))
                have hGNt : (I575 rm 10).toInt = N1.toInt := congrArg Int32.toInt hGN
                have hv8 : I575 a0 8 = A9 := (Eq.trans (up2_kk eI575 krm ka0 (by decide)) (Eq.trans (up2_kk eI571 hK564 ka0 (by omega)) (Eq.trans (up2_kk eI569 hk567 ka0 (by decide)) (Eq.trans (up2_kk eI566 hk564 ka0 (by omega)) (Eq.trans (up2_kk eI563 hk561 ka0 (by decide)) eA9.symm)))))
                have hv8t : (I575 a0 8).toInt = A9.toInt := congrArg Int32.toInt hv8
                have hv9 : I575 a0 9 = x558_ := (Eq.trans (up2_kk eI575 krm ka0 (by decide)) (Eq.trans (up2_kk eI571 hK564 ka0 (by omega)) (Eq.trans (up2_kk eI569 hk567 ka0 (by decide)) (Eq.trans (up2_kk eI566 hk564 ka0 (by omega)) (Eq.trans (up2_kk eI563 hk561 ka0 (by decide)) e558.symm)))))
                have hv9t : (I575 a0 9).toInt = x558_.toInt := congrArg Int32.toInt hv9
                exact r_vret hC hQ hlk hr (by decide) (by decide) dX10_readStory_283 ⟨_, _, rfl, rfl, ⟨hs575, hF575, hFJ525, (by first | (left; omega) | (right; omega)), (by omega), (by omega), (by omega)⟩⟩
              · have hG3 : I525 rm 3 = G3 := (Eq.trans (hf525.get krm rfl) (Eq.trans (hf521.get krm rfl) (Eq.trans (hf122.get krm rfl) (Eq.trans (hf65.get krm rfl) (Eq.trans (hf4.get krm rfl) eG3.symm)))))
                have hG3t : (I525 rm 3).toInt = G3.toInt := congrArg Int32.toInt hG3
                have hG4 : I525 rm 4 = G4 := (Eq.trans (hf525.get krm rfl) (Eq.trans (hf521.get krm rfl) (Eq.trans (hf122.get krm rfl) (Eq.trans (hf65.get krm rfl) (Eq.trans (hf4.get krm rfl) eG4.symm)))))
                have hG4t : (I525 rm 4).toInt = G4.toInt := congrArg Int32.toInt hG4
                have hG7 : I525 rm 7 = x63_ := (Eq.trans (hf525.get krm rfl) (Eq.trans (hf521.get krm rfl) (Eq.trans (hf122.get krm rfl) (Eq.trans (hf65.get krm rfl) e63.symm))))
                have hG7t : (I525 rm 7).toInt = x63_.toInt := congrArg Int32.toInt hG7
                have hG8 : I525 rm 8 = G8 := (Eq.trans (hf525.get krm rfl) (Eq.trans (hf521.get krm rfl) (Eq.trans (hf122.get krm rfl) (Eq.trans (hf65.get krm rfl) (Eq.trans (hf4.get krm rfl) eG8.symm)))))
                have hG8t : (I525 rm 8).toInt = G8.toInt := congrArg Int32.toInt hG8
                have hG9 : I525 rm 9 = G9 := (Eq.trans (hf525.get krm rfl) (Eq.trans (hf521.get krm rfl) (Eq.trans (hf122.get krm rfl) (Eq.trans (hf65.get krm rfl) (Eq.trans (hf4.get krm rfl) eG9.symm)))))
                have hG9t : (I525 rm 9).toInt = G9.toInt := congrArg Int32.toInt hG9
                have hGN : I525 rm 10 = N1 := (Eq.trans (hf525.get krm rfl) (Eq.trans (hf521.get krm rfl) (Eq.trans (hf122.get krm rfl) eN1.symm)))
                have hGNt : (I525 rm 10).toInt = N1.toInt := congrArg Int32.toInt hGN
                have hv8 : I525 a0 8 = A9 := eA9.symm
                have hv8t : (I525 a0 8).toInt = A9.toInt := congrArg Int32.toInt hv8
                have hv9 : I525 a0 9 = x558_ := e558.symm
                have hv9t : (I525 a0 9).toInt = x558_.toInt := congrArg Int32.toInt hv9
                exact r_vret hC hQ hlk hr (by decide) (by decide) dX10_readStory_204 ⟨_, _, rfl, rfl, ⟨hs525, hF525, hFJ525, (by first | (left; omega) | (right; omega)), (by omega), (by omega), (by omega)⟩⟩
        · replace k172_2 := k172_2 c173
          refine r_iconst hC (v := (0)) dX10_readStory_44 (by decide) (by decide) (fun x576_ e576 t576 => ?_)
          refine r_goto hC (tgt := 115) dX10_readStory_45 (by decide) ?_
          refine r_istore_n hC (lv' := [(2, .int x576_), (1, .int x122_), (0, .ref a0)]) dX10_readStory_115 (by decide) rfl ?_
          refine r_iload_n hC dX10_readStory_116 0 rfl ?_
          refine r_iconst hC (v := (-1)) dX10_readStory_117 (by decide) (by decide) (fun x577_ e577 t577 => ?_)
          refine r_icmp_ne hC (tgt := 126) dX10_readStory_118 (by decide) (fun c578 => ?_) (fun c578 => ?_)
          rotate_left
          · exfalso; omega
          refine r_aload_n hC dX10_readStory_126 2 rfl ?_
          have md579 : (I122 a0 9).toInt ≠ 5 := by omega
          refine r_callV hC (As := []) (rest := []) (ci := 10) (c_X10_goesOn g (xL X) K len I122 J122 R hs122 a0 ka0) mT_5_199 mT_1_10 mT_5_196 mT_5_198 mP_49 okX10_goesOn ⟨by decide, by decide⟩ rfl (by show kO (K a0) = _; rw [ka0]; rfl) rfl rfl (Nat.le_of_ble_eq_true rfl) ⟨by decide, by decide⟩ dX10_readStory_127 (aV2 (F := fun st M => P g X 5 130 [(2, .int x576_), (1, .int x122_), (0, .ref a0)] st _ _ M) (M := (K, len, I122, J122, R)) fun I580 J580 h580 => ?_)
          obtain ⟨hs580, hf580, hfj580, k580_0, k580_1, k580_2, k580_3⟩ := h580
          show P g X 5 130 [(2, .int x576_), (1, .int x122_), (0, .ref a0)] [] _ _ (K, len, I580, J580, R)
          have hF580 : Fr K [(10, 7), (10, 10), (11, 8), (11, 9), (11, 10), (11, 11), (11, 12), (11, 13), (75, 999), (76, 999), (83, 999), (84, 999), (1000, 999)] I I580 := hF122.trans hf580 rfl rfl
          have hFJ580 : Fr K [(11, 14), (82, 999)] J J580 := hFJ122.trans hfj580 rfl rfl
          clear k122_3
          have sf580 := k580_1 md579
          replace k580_3 := k580_3 md579
          clear k580_0 k580_1 md579 sf122
          refine r_aload_n hC dX10_readStory_130 2 rfl ?_
          refine r_iconst hC (v := (0)) dX10_readStory_131 (by decide) (by decide) (fun x581_ e581 t581 => ?_)
          refine r_bipush hC (v := (99)) dX10_readStory_132 (by decide) (by decide) (fun x582_ e582 t582 => ?_)
          have md583 : (I580 a0 9).toInt ≠ 5 := by omega
          refine r_callV hC (As := [.int x581_, .int x582_]) (rest := []) (ci := 10) (c_X10_readWhole g (xL X) K len I580 J580 R hs580 a0 ka0 x581_ x582_) mT_6_5 mT_1_10 mT_6_2 mT_6_4 mP_57 okX10_readWhole ⟨by decide, by decide⟩ rfl (by show kO (K a0) = _; rw [ka0]; rfl) rfl rfl (Nat.le_of_ble_eq_true rfl) ⟨by decide, by decide⟩ dX10_readStory_134 (aI2 (F := fun st M => P g X 5 137 [(2, .int x576_), (1, .int x122_), (0, .ref a0)] st _ _ M) (M := (K, len, I580, J580, R)) fun x584_ I584 J584 h584 => ?_)
          obtain ⟨hs584, hf584, hfj584, k584_0, k584_1, k584_2, k584_3⟩ := h584
          show P g X 5 137 [(2, .int x576_), (1, .int x122_), (0, .ref a0)] [.int x584_] _ _ (K, len, I584, J584, R)
          have hF584 : Fr K [(10, 7), (10, 10), (11, 8), (11, 9), (11, 10), (11, 11), (11, 12), (11, 13), (75, 999), (76, 999), (83, 999), (84, 999), (1000, 999)] I I584 := hF580.trans hf584 rfl rfl
          have hFJ584 : Fr K [(11, 14), (82, 999)] J J584 := hFJ580.trans hfj584 rfl rfl
          clear k580_3
          by_cases sf584 : (I584 a0 9).toInt = 5
          · clear k584_0 k584_1 k584_3 md583 sf580
            refine r_istore_n hC (lv' := [(3, .int x584_), (2, .int x576_), (1, .int x122_), (0, .ref a0)]) dX10_readStory_137 (by decide) rfl ?_
            refine r_iload_n hC dX10_readStory_138 1 rfl ?_
            refine r_iconst hC (v := (2)) dX10_readStory_139 (by decide) (by decide) (fun x585_ e585 t585 => ?_)
            refine r_icmp_ne hC (tgt := 156) dX10_readStory_140 (by decide) (fun c586 => ?_) (fun c586 => ?_)
            rotate_left
            · exfalso; omega
            refine r_iload_n hC dX10_readStory_156 1 rfl ?_
            refine r_iconst hC (v := (3)) dX10_readStory_157 (by decide) (by decide) (fun x587_ e587 t587 => ?_)
            refine r_icmp_ne hC (tgt := 175) dX10_readStory_158 (by decide) (fun c588 => ?_) (fun c588 => ?_)
            rotate_left
            · exfalso; omega
            refine r_iload_n hC dX10_readStory_175 1 rfl ?_
            refine r_iconst hC (v := (4)) dX10_readStory_176 (by decide) (by decide) (fun x589_ e589 t589 => ?_)
            refine r_icmp_ne hC (tgt := 193) dX10_readStory_177 (by decide) (fun c590 => ?_) (fun c590 => ?_)
            rotate_left
            · exfalso; omega
            refine r_iconst hC (v := (0)) dX10_readStory_193 (by decide) (by decide) (fun x591_ e591 t591 => ?_)
            refine r_istore hC (lv' := [(4, .int x591_), (3, .int x584_), (2, .int x576_), (1, .int x122_), (0, .ref a0)]) dX10_readStory_194 (by decide) rfl ?_
            refine r_aload_n hC dX10_readStory_196 4 rfl ?_
            obtain ⟨A9, eA9⟩ : ∃ z : Int32, z = I584 a0 8 := ⟨_, rfl⟩
            have fA9 : A9.toInt = (I584 a0 8).toInt := by rw [eA9]
            have rA9 := hs584.rng ka0 rfl eA9
            refine r_geti hC 9 (ci := 10) rfl u10_in (by decide) mT_5_4 dX10_readStory_197 ka0 rfl rfl (fun x592_ e592 => ?_)
            have f592 : x592_.toInt = (I584 a0 9).toInt := by rw [e592]
            refine r_iconst hC (v := (5)) dX10_readStory_200 (by decide) (by decide) (fun x593_ e593 t593 => ?_)
            refine r_icmp_ne hC (tgt := 205) dX10_readStory_201 (by decide) (fun c594 => ?_) (fun c594 => ?_)
            · refine r_aload_n hC dX10_readStory_205 4 rfl ?_
              refine r_getr hC 4 (ci := 10) rfl u10_in (by decide) mT_4_239 dX10_readStory_206 ka0 rfl rfl hbr ?_
              obtain ⟨a595_, hb595, hk595, hn595⟩ := hs584.row krm 16 75 6 (by decide) (by decide)
              refine r_getrN hC 16 (ci := 9) rfl u9_in (by decide) nF_16 dX10_readStory_209 krm rfl rfl hb595 ?_
              refine r_aload_n hC dX10_readStory_212 4 rfl ?_
              refine r_getr hC 4 (ci := 10) rfl u10_in (by decide) mT_4_239 dX10_readStory_213 ka0 rfl rfl hbr ?_
              refine r_getiN hC 7 (ci := 9) rfl u9_in (by decide) nF_7 dX10_readStory_216 krm rfl rfl (fun x596_ e596 => ?_)
              have r596 := hs584.rng krm rfl e596
              have f596 : x596_.toInt = (I584 rm 7).toInt := by rw [e596]
              have w596 : x596_ = x63_ := by rw [e596]; exact (Eq.trans (hf584.get krm rfl) (Eq.trans (hf580.get krm rfl) (Eq.trans (hf122.get krm rfl) (Eq.trans (hf65.get krm rfl) e63.symm))))
              have wt596 : x596_.toInt = x63_.toInt := by rw [w596]
              refine r_iload_n hC dX10_readStory_219 3 rfl ?_
              refine x_iastore hC hk595 hn595 (by decide) rfl rfl dX10_readStory_220 (by omega) (by omega) (fun I597 eI597 => ?_)
              have hs597 := hs584.put0 eI597 hk595 (rng_arr (by decide) _) rfl (xF_arr (by decide) _) (by decide)
              have hF597 := hF584.put eI597 hk595 (inS_arr rfl _)
              refine r_aload_n hC dX10_readStory_221 4 rfl ?_
              refine r_getr hC 4 (ci := 10) rfl u10_in (by decide) mT_4_239 dX10_readStory_222 ka0 rfl rfl hbr ?_
              obtain ⟨kd598, mo598, hb598, hk598, hn598, hB598, hK598, hN598⟩ := hs597.2.2.1 rm krm
              refine r_getrN hC 17 (ci := 9) rfl u9_in (by decide) nF_17 dX10_readStory_225 krm rfl rfl hb598 ?_
              refine r_aload_n hC dX10_readStory_228 4 rfl ?_
              refine r_getr hC 4 (ci := 10) rfl u10_in (by decide) mT_4_239 dX10_readStory_229 ka0 rfl rfl hbr ?_
              refine r_getiN hC 7 (ci := 9) rfl u9_in (by decide) nF_7 dX10_readStory_232 krm rfl rfl (fun x599_ e599 => ?_)
              have r599 := hs597.rng krm rfl e599
              have f599 : x599_.toInt = (I597 rm 7).toInt := by rw [e599]
              have w599 : x599_ = x596_ := by rw [e599]; exact (Eq.trans (up2_kk eI597 hk595 krm (by decide)) e596.symm)
              have wt599 : x599_.toInt = x596_.toInt := by rw [w599]
              refine r_iload_n hC dX10_readStory_235 2 rfl ?_
              refine x_iastore hC hk598 hn598 (by omega) (kOb (by omega)) (kAb (by omega)) dX10_readStory_236 (by omega) (by omega) (fun I600 eI600 => ?_)
              have hs600 : Sf K len I600 R := hs597.putK (rm := rm) eI600 (Or.inl hk598) (by have h9 := clampI (i := x599_) (by omega); omega)
              have hF600 := hF597.put eI600 hk598 (inS_big rfl (by omega) _)
              refine r_aload_n hC dX10_readStory_237 4 rfl ?_
              refine r_getr hC 4 (ci := 10) rfl u10_in (by decide) mT_4_239 dX10_readStory_238 ka0 rfl rfl hbr ?_
              obtain ⟨a601_, hb601, hk601, hn601⟩ := hs600.row krm 18 76 6 (by decide) (by decide)
              refine r_getrN hC 18 (ci := 9) rfl u9_in (by decide) nF_18 dX10_readStory_241 krm rfl rfl hb601 ?_
              refine r_aload_n hC dX10_readStory_244 4 rfl ?_
              refine r_getr hC 4 (ci := 10) rfl u10_in (by decide) mT_4_239 dX10_readStory_245 ka0 rfl rfl hbr ?_
              refine r_getiN hC 7 (ci := 9) rfl u9_in (by decide) nF_7 dX10_readStory_248 krm rfl rfl (fun x602_ e602 => ?_)
              have r602 := hs600.rng krm rfl e602
              have f602 : x602_.toInt = (I600 rm 7).toInt := by rw [e602]
              have w602 : x602_ = x599_ := by rw [e602]; exact (Eq.trans (up2_kk eI600 hk598 krm (by omega)) e599.symm)
              have wt602 : x602_.toInt = x599_.toInt := by rw [w602]
              refine r_iload_n hC dX10_readStory_251 1 rfl ?_
              refine x_iastore hC hk601 hn601 (by decide) rfl rfl dX10_readStory_252 (by omega) (by omega) (fun I603 eI603 => ?_)
              have hs603 := hs600.put0 eI603 hk601 (rng_arr (by decide) _) rfl (xF_arr (by decide) _) (by decide)
              have hF603 := hF600.put eI603 hk601 (inS_arr rfl _)
              refine r_aload_n hC dX10_readStory_253 4 rfl ?_
              refine r_getr hC 4 (ci := 10) rfl u10_in (by decide) mT_4_239 dX10_readStory_254 ka0 rfl rfl hbr ?_
              refine r_getrN hC 19 (ci := 9) rfl u9_in (by decide) nF_19 dX10_readStory_257 krm rfl rfl hB598 ?_
              refine r_aload_n hC dX10_readStory_260 4 rfl ?_
              refine r_getr hC 4 (ci := 10) rfl u10_in (by decide) mT_4_239 dX10_readStory_261 ka0 rfl rfl hbr ?_
              refine r_getiN hC 7 (ci := 9) rfl u9_in (by decide) nF_7 dX10_readStory_264 krm rfl rfl (fun x604_ e604 => ?_)
              have r604 := hs603.rng krm rfl e604
              have f604 : x604_.toInt = (I603 rm 7).toInt := by rw [e604]
              have w604 : x604_ = x602_ := by rw [e604]; exact (Eq.trans (up2_kk eI603 hk601 krm (by decide)) e602.symm)
              have wt604 : x604_.toInt = x602_.toInt := by rw [w604]
              refine r_iload hC dX10_readStory_267 0 rfl ?_
              refine x_iastore hC hK598 hN598 (by omega) (kOb (by omega)) (kAb (by omega)) dX10_readStory_269 (by omega) (by omega) (fun I605 eI605 => ?_)
              have hs605 : Sf K len I605 R := hs603.putK (rm := rm) eI605 (Or.inr hK598) (by have h9 := clampI (i := x604_) (by omega); omega)
              have hF605 := hF603.put eI605 hK598 (inS_big rfl (by omega) _)
              refine r_aload_n hC dX10_readStory_270 4 rfl ?_
              refine r_getr hC 4 (ci := 10) rfl u10_in (by decide) mT_4_239 dX10_readStory_271 ka0 rfl rfl hbr ?_
              refine r_dup hC dX10_readStory_274 rfl ?_
              refine r_getiN hC 7 (ci := 9) rfl u9_in (by decide) nF_7 dX10_readStory_275 krm rfl rfl (fun x606_ e606 => ?_)
              have r606 := hs605.rng krm rfl e606
              have f606 : x606_.toInt = (I605 rm 7).toInt := by rw [e606]
              have w606 : x606_ = x604_ := by rw [e606]; exact (Eq.trans (up2_kk eI605 hK598 krm (by omega)) e604.symm)
              have wt606 : x606_.toInt = x604_.toInt := by rw [w606]
              refine r_iconst hC (v := (1)) dX10_readStory_278 (by decide) (by decide) (fun x607_ e607 t607 => ?_)
              refine r_iadd hC dX10_readStory_279 (fun x608_ e608 => ?_)
              try have t608 : x608_.toInt = x606_.toInt + x607_.toInt := by rw [e608]; exact ti_add (by omega) (by omega)
              refine r_putiN hC 7 (ci := 9) rfl u9_in tyX9_ok nmX9 (by decide) nF_7 rfl rfl rfl dX10_readStory_280 krm rfl rfl (fun I609 eI609 => ?_)
              have hs609 : Sf K len I609 R := hs605.putA7 eI609 krm hb598 hB598 (by omega) (by omega) (j := x599_.toNatClampNeg) (by have h9 := clampI (i := x599_) (by omega); omega) (by omega) (by rw [(show I605 kd598 x599_.toNatClampNeg = x576_ from (Eq.trans (up2_kk eI605 hK598 hk598 (by omega)) (Eq.trans (up2_kk eI603 hk601 hk598 (by omega)) (by rw [eI600]; exact up2_self _ _ _ _)))), cl_eq (show x599_.toInt = x604_.toInt by omega), (show I605 mo598 x604_.toNatClampNeg = x591_ from (by rw [eI605]; exact up2_self _ _ _ _))]; omega)
              have hF609 := hF605.put eI609 krm rfl
              have hG3 : I609 rm 3 = G3 := (Eq.trans (up2_at (Or.inr (by decide)) eI609) (Eq.trans (up2_kk eI605 hK598 krm (by omega)) (Eq.trans (up2_kk eI603 hk601 krm (by decide)) (Eq.trans (up2_kk eI600 hk598 krm (by omega)) (Eq.trans (up2_kk eI597 hk595 krm (by decide)) (Eq.trans (hf584.get krm rfl) (Eq.trans (hf580.get krm rfl) (Eq.trans (hf122.get krm rfl) (Eq.trans (hf65.get krm rfl) (Eq.trans (hf4.get krm rfl) eG3.symm))))))))))
              have hG3t : (I609 rm 3).toInt = G3.toInt := congrArg Int32.toInt hG3
              have hG4 : I609 rm 4 = G4 := (Eq.trans (up2_at (Or.inr (by decide)) eI609) (Eq.trans (up2_kk eI605 hK598 krm (by omega)) (Eq.trans (up2_kk eI603 hk601 krm (by decide)) (Eq.trans (up2_kk eI600 hk598 krm (by omega)) (Eq.trans (up2_kk eI597 hk595 krm (by decide)) (Eq.trans (hf584.get krm rfl) (Eq.trans (hf580.get krm rfl) (Eq.trans (hf122.get krm rfl) (Eq.trans (hf65.get krm rfl) (Eq.trans (hf4.get krm rfl) eG4.symm))))))))))
              have hG4t : (I609 rm 4).toInt = G4.toInt := congrArg Int32.toInt hG4
              have hG7 : I609 rm 7 = x608_ := (by rw [eI609]; exact up2_self _ _ _ _)
              have hG7t : (I609 rm 7).toInt = x608_.toInt := congrArg Int32.toInt hG7
              have hG8 : I609 rm 8 = G8 := (Eq.trans (up2_at (Or.inr (by decide)) eI609) (Eq.trans (up2_kk eI605 hK598 krm (by omega)) (Eq.trans (up2_kk eI603 hk601 krm (by decide)) (Eq.trans (up2_kk eI600 hk598 krm (by omega)) (Eq.trans (up2_kk eI597 hk595 krm (by decide)) (Eq.trans (hf584.get krm rfl) (Eq.trans (hf580.get krm rfl) (Eq.trans (hf122.get krm rfl) (Eq.trans (hf65.get krm rfl) (Eq.trans (hf4.get krm rfl) eG8.symm))))))))))
              have hG8t : (I609 rm 8).toInt = G8.toInt := congrArg Int32.toInt hG8
              have hG9 : I609 rm 9 = G9 := (Eq.trans (up2_at (Or.inr (by decide)) eI609) (Eq.trans (up2_kk eI605 hK598 krm (by omega)) (Eq.trans (up2_kk eI603 hk601 krm (by decide)) (Eq.trans (up2_kk eI600 hk598 krm (by omega)) (Eq.trans (up2_kk eI597 hk595 krm (by decide)) (Eq.trans (hf584.get krm rfl) (Eq.trans (hf580.get krm rfl) (Eq.trans (hf122.get krm rfl) (Eq.trans (hf65.get krm rfl) (Eq.trans (hf4.get krm rfl) eG9.symm))))))))))
              have hG9t : (I609 rm 9).toInt = G9.toInt := congrArg Int32.toInt hG9
              have hGN : I609 rm 10 = N1 := (Eq.trans (up2_at (Or.inr (by decide)) eI609) (Eq.trans (up2_kk eI605 hK598 krm (by omega)) (Eq.trans (up2_kk eI603 hk601 krm (by decide)) (Eq.trans (up2_kk eI600 hk598 krm (by omega)) (Eq.trans (up2_kk eI597 hk595 krm (by decide)) (Eq.trans (hf584.get krm rfl) (Eq.trans (hf580.get krm rfl) (Eq.trans (hf122.get krm rfl) eN1.symm))))))))
              have hGNt : (I609 rm 10).toInt = N1.toInt := congrArg Int32.toInt hGN
              have hv8 : I609 a0 8 = A9 := (Eq.trans (up2_kk eI609 krm ka0 (by decide)) (Eq.trans (up2_kk eI605 hK598 ka0 (by omega)) (Eq.trans (up2_kk eI603 hk601 ka0 (by decide)) (Eq.trans (up2_kk eI600 hk598 ka0 (by omega)) (Eq.trans (up2_kk eI597 hk595 ka0 (by decide)) eA9.symm)))))
              have hv8t : (I609 a0 8).toInt = A9.toInt := congrArg Int32.toInt hv8
              have hv9 : I609 a0 9 = x592_ := (Eq.trans (up2_kk eI609 krm ka0 (by decide)) (Eq.trans (up2_kk eI605 hK598 ka0 (by omega)) (Eq.trans (up2_kk eI603 hk601 ka0 (by decide)) (Eq.trans (up2_kk eI600 hk598 ka0 (by omega)) (Eq.trans (up2_kk eI597 hk595 ka0 (by decide)) e592.symm)))))
              have hv9t : (I609 a0 9).toInt = x592_.toInt := congrArg Int32.toInt hv9
              exact r_vret hC hQ hlk hr (by decide) (by decide) dX10_readStory_283 ⟨_, _, rfl, rfl, ⟨hs609, hF609, hFJ584, (by first | (left; omega) | (right; omega)), (by omega), (by omega), (by omega)⟩⟩
            · have hG3 : I584 rm 3 = G3 := (Eq.trans (hf584.get krm rfl) (Eq.trans (hf580.get krm rfl) (Eq.trans (hf122.get krm rfl) (Eq.trans (hf65.get krm rfl) (Eq.trans (hf4.get krm rfl) eG3.symm)))))
              have hG3t : (I584 rm 3).toInt = G3.toInt := congrArg Int32.toInt hG3
              have hG4 : I584 rm 4 = G4 := (Eq.trans (hf584.get krm rfl) (Eq.trans (hf580.get krm rfl) (Eq.trans (hf122.get krm rfl) (Eq.trans (hf65.get krm rfl) (Eq.trans (hf4.get krm rfl) eG4.symm)))))
              have hG4t : (I584 rm 4).toInt = G4.toInt := congrArg Int32.toInt hG4
              have hG7 : I584 rm 7 = x63_ := (Eq.trans (hf584.get krm rfl) (Eq.trans (hf580.get krm rfl) (Eq.trans (hf122.get krm rfl) (Eq.trans (hf65.get krm rfl) e63.symm))))
              have hG7t : (I584 rm 7).toInt = x63_.toInt := congrArg Int32.toInt hG7
              have hG8 : I584 rm 8 = G8 := (Eq.trans (hf584.get krm rfl) (Eq.trans (hf580.get krm rfl) (Eq.trans (hf122.get krm rfl) (Eq.trans (hf65.get krm rfl) (Eq.trans (hf4.get krm rfl) eG8.symm)))))
              have hG8t : (I584 rm 8).toInt = G8.toInt := congrArg Int32.toInt hG8
              have hG9 : I584 rm 9 = G9 := (Eq.trans (hf584.get krm rfl) (Eq.trans (hf580.get krm rfl) (Eq.trans (hf122.get krm rfl) (Eq.trans (hf65.get krm rfl) (Eq.trans (hf4.get krm rfl) eG9.symm)))))
              have hG9t : (I584 rm 9).toInt = G9.toInt := congrArg Int32.toInt hG9
              have hGN : I584 rm 10 = N1 := (Eq.trans (hf584.get krm rfl) (Eq.trans (hf580.get krm rfl) (Eq.trans (hf122.get krm rfl) eN1.symm)))
              have hGNt : (I584 rm 10).toInt = N1.toInt := congrArg Int32.toInt hGN
              have hv8 : I584 a0 8 = A9 := eA9.symm
              have hv8t : (I584 a0 8).toInt = A9.toInt := congrArg Int32.toInt hv8
              have hv9 : I584 a0 9 = x592_ := e592.symm
              have hv9t : (I584 a0 9).toInt = x592_.toInt := congrArg Int32.toInt hv9
              exact r_vret hC hQ hlk hr (by decide) (by decide) dX10_readStory_204 ⟨_, _, rfl, rfl, ⟨hs584, hF584, hFJ584, (by first | (left; omega) | (right; omega)), (by omega), (by omega), (by omega)⟩⟩
          · replace k584_1 := k584_1 sf584
            clear k584_0 md583 sf580
            refine r_istore_n hC (lv' := [(3, .int x584_), (2, .int x576_), (1, .int x122_), (0, .ref a0)]) dX10_readStory_137 (by decide) rfl ?_
            refine r_iload_n hC dX10_readStory_138 1 rfl ?_
            refine r_iconst hC (v := (2)) dX10_readStory_139 (by decide) (by decide) (fun x610_ e610 t610 => ?_)
            refine r_icmp_ne hC (tgt := 156) dX10_readStory_140 (by decide) (fun c611 => ?_) (fun c611 => ?_)
            rotate_left
            · exfalso; omega
            refine r_iload_n hC dX10_readStory_156 1 rfl ?_
            refine r_iconst hC (v := (3)) dX10_readStory_157 (by decide) (by decide) (fun x612_ e612 t612 => ?_)
            refine r_icmp_ne hC (tgt := 175) dX10_readStory_158 (by decide) (fun c613 => ?_) (fun c613 => ?_)
            rotate_left
            · exfalso; omega
            refine r_iload_n hC dX10_readStory_175 1 rfl ?_
            refine r_iconst hC (v := (4)) dX10_readStory_176 (by decide) (by decide) (fun x614_ e614 t614 => ?_)
            refine r_icmp_ne hC (tgt := 193) dX10_readStory_177 (by decide) (fun c615 => ?_) (fun c615 => ?_)
            rotate_left
            · exfalso; omega
            refine r_iconst hC (v := (0)) dX10_readStory_193 (by decide) (by decide) (fun x616_ e616 t616 => ?_)
            refine r_istore hC (lv' := [(4, .int x616_), (3, .int x584_), (2, .int x576_), (1, .int x122_), (0, .ref a0)]) dX10_readStory_194 (by decide) rfl ?_
            refine r_aload_n hC dX10_readStory_196 4 rfl ?_
            obtain ⟨A9, eA9⟩ : ∃ z : Int32, z = I584 a0 8 := ⟨_, rfl⟩
            have fA9 : A9.toInt = (I584 a0 8).toInt := by rw [eA9]
            have rA9 := hs584.rng ka0 rfl eA9
            refine r_geti hC 9 (ci := 10) rfl u10_in (by decide) mT_5_4 dX10_readStory_197 ka0 rfl rfl (fun x617_ e617 => ?_)
            have f617 : x617_.toInt = (I584 a0 9).toInt := by rw [e617]
            refine r_iconst hC (v := (5)) dX10_readStory_200 (by decide) (by decide) (fun x618_ e618 t618 => ?_)
            refine r_icmp_ne hC (tgt := 205) dX10_readStory_201 (by decide) (fun c619 => ?_) (fun c619 => ?_)
            · refine r_aload_n hC dX10_readStory_205 4 rfl ?_
              refine r_getr hC 4 (ci := 10) rfl u10_in (by decide) mT_4_239 dX10_readStory_206 ka0 rfl rfl hbr ?_
              obtain ⟨a620_, hb620, hk620, hn620⟩ := hs584.row krm 16 75 6 (by decide) (by decide)
              refine r_getrN hC 16 (ci := 9) rfl u9_in (by decide) nF_16 dX10_readStory_209 krm rfl rfl hb620 ?_
              refine r_aload_n hC dX10_readStory_212 4 rfl ?_
              refine r_getr hC 4 (ci := 10) rfl u10_in (by decide) mT_4_239 dX10_readStory_213 ka0 rfl rfl hbr ?_
              refine r_getiN hC 7 (ci := 9) rfl u9_in (by decide) nF_7 dX10_readStory_216 krm rfl rfl (fun x621_ e621 => ?_)
              have r621 := hs584.rng krm rfl e621
              have f621 : x621_.toInt = (I584 rm 7).toInt := by rw [e621]
              have w621 : x621_ = x63_ := by rw [e621]; exact (Eq.trans (hf584.get krm rfl) (Eq.trans (hf580.get krm rfl) (Eq.trans (hf122.get krm rfl) (Eq.trans (hf65.get krm rfl) e63.symm))))
              have wt621 : x621_.toInt = x63_.toInt := by rw [w621]
              refine r_iload_n hC dX10_readStory_219 3 rfl ?_
              refine x_iastore hC hk620 hn620 (by decide) rfl rfl dX10_readStory_220 (by omega) (by omega) (fun I622 eI622 => ?_)
              have hs622 := hs584.put0 eI622 hk620 (rng_arr (by decide) _) rfl (xF_arr (by decide) _) (by decide)
              have hF622 := hF584.put eI622 hk620 (inS_arr rfl _)
              refine r_aload_n hC dX10_readStory_221 4 rfl ?_
              refine r_getr hC 4 (ci := 10) rfl u10_in (by decide) mT_4_239 dX10_readStory_222 ka0 rfl rfl hbr ?_
              obtain ⟨kd623, mo623, hb623, hk623, hn623, hB623, hK623, hN623⟩ := hs622.2.2.1 rm krm
              refine r_getrN hC 17 (ci := 9) rfl u9_in (by decide) nF_17 dX10_readStory_225 krm rfl rfl hb623 ?_
              refine r_aload_n hC dX10_readStory_228 4 rfl ?_
              refine r_getr hC 4 (ci := 10) rfl u10_in (by decide) mT_4_239 dX10_readStory_229 ka0 rfl rfl hbr ?_
              refine r_getiN hC 7 (ci := 9) rfl u9_in (by decide) nF_7 dX10_readStory_232 krm rfl rfl (fun x624_ e624 => ?_)
              have r624 := hs622.rng krm rfl e624
              have f624 : x624_.toInt = (I622 rm 7).toInt := by rw [e624]
              have w624 : x624_ = x621_ := by rw [e624]; exact (Eq.trans (up2_kk eI622 hk620 krm (by decide)) e621.symm)
              have wt624 : x624_.toInt = x621_.toInt := by rw [w624]
              refine r_iload_n hC dX10_readStory_235 2 rfl ?_
              refine x_iastore hC hk623 hn623 (by omega) (kOb (by omega)) (kAb (by omega)) dX10_readStory_236 (by omega) (by omega) (fun I625 eI625 => ?_)
              have hs625 : Sf K len I625 R := hs622.putK (rm := rm) eI625 (Or.inl hk623) (by have h9 := clampI (i := x624_) (by omega); omega)
              have hF625 := hF622.put eI625 hk623 (inS_big rfl (by omega) _)
              refine r_aload_n hC dX10_readStory_237 4 rfl ?_
              refine r_getr hC 4 (ci := 10) rfl u10_in (by decide) mT_4_239 dX10_readStory_238 ka0 rfl rfl hbr ?_
              obtain ⟨a626_, hb626, hk626, hn626⟩ := hs625.row krm 18 76 6 (by decide) (by decide)
              refine r_getrN hC 18 (ci := 9) rfl u9_in (by decide) nF_18 dX10_readStory_241 krm rfl rfl hb626 ?_
              refine r_aload_n hC dX10_readStory_244 4 rfl ?_
              refine r_getr hC 4 (ci := 10) rfl u10_in (by decide) mT_4_239 dX10_readStory_245 ka0 rfl rfl hbr ?_
              refine r_getiN hC 7 (ci := 9) rfl u9_in (by decide) nF_7 dX10_readStory_248 krm rfl rfl (fun x627_ e627 => ?_)
              have r627 := hs625.rng krm rfl e627
              have f627 : x627_.toInt = (I625 rm 7).toInt := by rw [e627]
              have w627 : x627_ = x624_ := by rw [e627]; exact (Eq.trans (up2_kk eI625 hk623 krm (by omega)) e624.symm)
              have wt627 : x627_.toInt = x624_.toInt := by rw [w627]
              refine r_iload_n hC dX10_readStory_251 1 rfl ?_
              refine x_iastore hC hk626 hn626 (by decide) rfl rfl dX10_readStory_252 (by omega) (by omega) (fun I628 eI628 => ?_)
              have hs628 := hs625.put0 eI628 hk626 (rng_arr (by decide) _) rfl (xF_arr (by decide) _) (by decide)
              have hF628 := hF625.put eI628 hk626 (inS_arr rfl _)
              refine r_aload_n hC dX10_readStory_253 4 rfl ?_
              refine r_getr hC 4 (ci := 10) rfl u10_in (by decide) mT_4_239 dX10_readStory_254 ka0 rfl rfl hbr ?_
              refine r_getrN hC 19 (ci := 9) rfl u9_in (by decide) nF_19 dX10_readStory_257 krm rfl rfl hB623 ?_
              refine r_aload_n hC dX10_readStory_260 4 rfl ?_
              refine r_getr hC 4 (ci := 10) rfl u10_in (by decide) mT_4_239 dX10_readStory_261 ka0 rfl rfl hbr ?_
              refine r_getiN hC 7 (ci := 9) rfl u9_in (by decide) nF_7 dX10_readStory_264 krm rfl rfl (fun x629_ e629 => ?_)
              have r629 := hs628.rng krm rfl e629
              have f629 : x629_.toInt = (I628 rm 7).toInt := by rw [e629]
              have w629 : x629_ = x627_ := by rw [e629]; exact (Eq.trans (up2_kk eI628 hk626 krm (by decide)) e627.symm)
              have wt629 : x629_.toInt = x627_.toInt := by rw [w629]
              refine r_iload hC dX10_readStory_267 0 rfl ?_
              refine x_iastore hC hK623 hN623 (by omega) (kOb (by omega)) (kAb (by omega)) dX10_readStory_269 (by omega) (by omega) (fun I630 eI630 => ?_)
              have hs630 : Sf K len I630 R := hs628.putK (rm := rm) eI630 (Or.inr hK623) (by have h9 := clampI (i := x629_) (by omega); omega)
              have hF630 := hF628.put eI630 hK623 (inS_big rfl (by omega) _)
              refine r_aload_n hC dX10_readStory_270 4 rfl ?_
              refine r_getr hC 4 (ci := 10) rfl u10_in (by decide) mT_4_239 dX10_readStory_271 ka0 rfl rfl hbr ?_
              refine r_dup hC dX10_readStory_274 rfl ?_
              refine r_getiN hC 7 (ci := 9) rfl u9_in (by decide) nF_7 dX10_readStory_275 krm rfl rfl (fun x631_ e631 => ?_)
              have r631 := hs630.rng krm rfl e631
              have f631 : x631_.toInt = (I630 rm 7).toInt := by rw [e631]
              have w631 : x631_ = x629_ := by rw [e631]; exact (Eq.trans (up2_kk eI630 hK623 krm (by omega)) e629.symm)
              have wt631 : x631_.toInt = x629_.toInt := by rw [w631]
              refine r_iconst hC (v := (1)) dX10_readStory_278 (by decide) (by decide) (fun x632_ e632 t632 => ?_)
              refine r_iadd hC dX10_readStory_279 (fun x633_ e633 => ?_)
              try have t633 : x633_.toInt = x631_.toInt + x632_.toInt := by rw [e633]; exact ti_add (by omega) (by omega)
              refine r_putiN hC 7 (ci := 9) rfl u9_in tyX9_ok nmX9 (by decide) nF_7 rfl rfl rfl dX10_readStory_280 krm rfl rfl (fun I634 eI634 => ?_)
              have hs634 : Sf K len I634 R := hs630.putA7 eI634 krm hb623 hB623 (by omega) (by omega) (j := x624_.toNatClampNeg) (by have h9 := clampI (i := x624_) (by omega); omega) (by omega) (by rw [(show I630 kd623 x624_.toNatClampNeg = x576_ from (Eq.trans (up2_kk eI630 hK623 hk623 (by omega)) (Eq.trans (up2_kk eI628 hk626 hk623 (by omega)) (by rw [eI625]; exact up2_self _ _ _ _)))), cl_eq (show x624_.toInt = x629_.toInt by omega), (show I630 mo623 x629_.toNatClampNeg = x616_ from (by rw [eI630]; exact up2_self _ _ _ _))]; omega)
              have hF634 := hF630.put eI634 krm rfl
              have hG3 : I634 rm 3 = G3 := (Eq.trans (up2_at (Or.inr (by decide)) eI634) (Eq.trans (up2_kk eI630 hK623 krm (by omega)) (Eq.trans (up2_kk eI628 hk626 krm (by decide)) (Eq.trans (up2_kk eI625 hk623 krm (by omega)) (Eq.trans (up2_kk eI622 hk620 krm (by decide)) (Eq.trans (hf584.get krm rfl) (Eq.trans (hf580.get krm rfl) (Eq.trans (hf122.get krm rfl) (Eq.trans (hf65.get krm rfl) (Eq.trans (hf4.get krm rfl) eG3.symm))))))))))
              have hG3t : (I634 rm 3).toInt = G3.toInt := congrArg Int32.toInt hG3
              have hG4 : I634 rm 4 = G4 := (Eq.trans (up2_at (Or.inr (by decide)) eI634) (Eq.trans (up2_kk eI630 hK623 krm (by omega)) (Eq.trans (up2_kk eI628 hk626 krm (by decide)) (Eq.trans (up2_kk eI625 hk623 krm (by omega)) (Eq.trans (up2_kk eI622 hk620 krm (by decide)) (Eq.trans (hf584.get krm rfl) (Eq.trans (hf580.get krm rfl) (Eq.trans (hf122.get krm rfl) (Eq.trans (hf65.get krm rfl) (Eq.trans (hf4.get krm rfl) eG4.symm))))))))))
              have hG4t : (I634 rm 4).toInt = G4.toInt := congrArg Int32.toInt hG4
              have hG7 : I634 rm 7 = x633_ := (by rw [eI634]; exact up2_self _ _ _ _)
              have hG7t : (I634 rm 7).toInt = x633_.toInt := congrArg Int32.toInt hG7
              have hG8 : I634 rm 8 = G8 := (Eq.trans (up2_at (Or.inr (by decide)) eI634) (Eq.trans (up2_kk eI630 hK623 krm (by omega)) (Eq.trans (up2_kk eI628 hk626 krm (by decide)) (Eq.trans (up2_kk eI625 hk623 krm (by omega)) (Eq.trans (up2_kk eI622 hk620 krm (by decide)) (Eq.trans (hf584.get krm rfl) (Eq.trans (hf580.get krm rfl) (Eq.trans (hf122.get krm rfl) (Eq.trans (hf65.get krm rfl) (Eq.trans (hf4.get krm rfl) eG8.symm))))))))))
              have hG8t : (I634 rm 8).toInt = G8.toInt := congrArg Int32.toInt hG8
              have hG9 : I634 rm 9 = G9 := (Eq.trans (up2_at (Or.inr (by decide)) eI634) (Eq.trans (up2_kk eI630 hK623 krm (by omega)) (Eq.trans (up2_kk eI628 hk626 krm (by decide)) (Eq.trans (up2_kk eI625 hk623 krm (by omega)) (Eq.trans (up2_kk eI622 hk620 krm (by decide)) (Eq.trans (hf584.get krm rfl) (Eq.trans (hf580.get krm rfl) (Eq.trans (hf122.get krm rfl) (Eq.trans (hf65.get krm rfl) (Eq.trans (hf4.get krm rfl) eG9.symm))))))))))
              have hG9t : (I634 rm 9).toInt = G9.toInt := congrArg Int32.toInt hG9
              have hGN : I634 rm 10 = N1 := (Eq.trans (up2_at (Or.inr (by decide)) eI634) (Eq.trans (up2_kk eI630 hK623 krm (by omega)) (Eq.trans (up2_kk eI628 hk626 krm (by decide)) (Eq.trans (up2_kk eI625 hk623 krm (by omega)) (Eq.trans (up2_kk eI622 hk620 krm (by decide)) (Eq.trans (hf584.get krm rfl) (Eq.trans (hf580.get krm rfl) (Eq.trans (hf122.get krm rfl) eN1.symm))))))))
              have hGNt : (I634 rm 10).toInt = N1.toInt := congrArg Int32.toInt hGN
              have hv8 : I634 a0 8 = A9 := (Eq.trans (up2_kk eI634 krm ka0 (by decide)) (Eq.trans (up2_kk eI630 hK623 ka0 (by omega)) (Eq.trans (up2_kk eI628 hk626 ka0 (by decide)) (Eq.trans (up2_kk eI625 hk623 ka0 (by omega)) (Eq.trans (up2_kk eI622 hk620 ka0 (by decide)) eA9.symm)))))
              have hv8t : (I634 a0 8).toInt = A9.toInt := congrArg Int32.toInt hv8
              have hv9 : I634 a0 9 = x617_ := (Eq.trans (up2_kk eI634 krm ka0 (by decide)) (Eq.trans (up2_kk eI630 hK623 ka0 (by omega)) (Eq.trans (up2_kk eI628 hk626 ka0 (by decide)) (Eq.trans (up2_kk eI625 hk623 ka0 (by omega)) (Eq.trans (up2_kk eI622 hk620 ka0 (by decide)) e617.symm)))))
              have hv9t : (I634 a0 9).toInt = x617_.toInt := congrArg Int32.toInt hv9
              exact r_vret hC hQ hlk hr (by decide) (by decide) dX10_readStory_283 ⟨_, _, rfl, rfl, ⟨hs634, hF634, hFJ584, (by first | (left; omega) | (right; omega)), (by omega), (by omega), (by omega)⟩⟩
            · have hG3 : I584 rm 3 = G3 := (Eq.trans (hf584.get krm rfl) (Eq.trans (hf580.get krm rfl) (Eq.trans (hf122.get krm rfl) (Eq.trans (hf65.get krm rfl) (Eq.trans (hf4.get krm rfl) eG3.symm)))))
              have hG3t : (I584 rm 3).toInt = G3.toInt := congrArg Int32.toInt hG3
              have hG4 : I584 rm 4 = G4 := (Eq.trans (hf584.get krm rfl) (Eq.trans (hf580.get krm rfl) (Eq.trans (hf122.get krm rfl) (Eq.trans (hf65.get krm rfl) (Eq.trans (hf4.get krm rfl) eG4.symm)))))
              have hG4t : (I584 rm 4).toInt = G4.toInt := congrArg Int32.toInt hG4
              have hG7 : I584 rm 7 = x63_ := (Eq.trans (hf584.get krm rfl) (Eq.trans (hf580.get krm rfl) (Eq.trans (hf122.get krm rfl) (Eq.trans (hf65.get krm rfl) e63.symm))))
              have hG7t : (I584 rm 7).toInt = x63_.toInt := congrArg Int32.toInt hG7
              have hG8 : I584 rm 8 = G8 := (Eq.trans (hf584.get krm rfl) (Eq.trans (hf580.get krm rfl) (Eq.trans (hf122.get krm rfl) (Eq.trans (hf65.get krm rfl) (Eq.trans (hf4.get krm rfl) eG8.symm)))))
              have hG8t : (I584 rm 8).toInt = G8.toInt := congrArg Int32.toInt hG8
              have hG9 : I584 rm 9 = G9 := (Eq.trans (hf584.get krm rfl) (Eq.trans (hf580.get krm rfl) (Eq.trans (hf122.get krm rfl) (Eq.trans (hf65.get krm rfl) (Eq.trans (hf4.get krm rfl) eG9.symm)))))
              have hG9t : (I584 rm 9).toInt = G9.toInt := congrArg Int32.toInt hG9
              have hGN : I584 rm 10 = N1 := (Eq.trans (hf584.get krm rfl) (Eq.trans (hf580.get krm rfl) (Eq.trans (hf122.get krm rfl) eN1.symm)))
              have hGNt : (I584 rm 10).toInt = N1.toInt := congrArg Int32.toInt hGN
              have hv8 : I584 a0 8 = A9 := eA9.symm
              have hv8t : (I584 a0 8).toInt = A9.toInt := congrArg Int32.toInt hv8
              have hv9 : I584 a0 9 = x617_ := e617.symm
              have hv9t : (I584 a0 9).toInt = x617_.toInt := congrArg Int32.toInt hv9
              exact r_vret hC hQ hlk hr (by decide) (by decide) dX10_readStory_204 ⟨_, _, rfl, rfl, ⟨hs584, hF584, hFJ584, (by first | (left; omega) | (right; omega)), (by omega), (by omega), (by omega)⟩⟩
