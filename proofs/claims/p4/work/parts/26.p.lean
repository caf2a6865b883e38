abbrev rmX10_readLine : Room := { frames := 9, cells := 0, slots := 0, locals := 195 }
abbrev rmX10_readHill : Room := { frames := 10, cells := 0, slots := 0, locals := 215 }
set_option maxHeartbeats 4000000 in
set_option maxRecDepth 100000 in
theorem c_X10_readLine (g : GG) (l : Launch) (K len : Nat → Nat) (I : Nat → Nat → Int32) (J : Nat → Nat → Int64) (R : Nat → Nat → Option Nat) (hs : Sf K len I R) (a0 : Nat) (ka0 : K a0 = 11) (rm : Nat) (hbr : R a0 4 = some rm) (krm : K rm = 10) (p0 : (I a0 9).toInt = 5 ∨ (I rm 10).toInt ≤ (I rm 3).toInt + (I rm 7).toInt + (I rm 8).toInt + (I rm 9).toInt) (p1 : (I rm 4).toInt ≤ 8) : Ct g l yX10_readLine cX10_readLine 1 (Option.none : Option Jvm.ClassFile.FieldType) rmX10_readLine [.ref a0] (K, len, I, J, R) (pV2 (K, len, I, J, R) (fun I' J' => Sf K len I' R ∧ Fr K [(10, 0), (10, 1), (10, 2), (10, 3), (10, 4), (10, 5), (10, 6), (10, 7), (10, 8), (10, 9), (10, 10), (11, 8), (11, 9), (11, 10), (11, 11), (11, 12), (11, 13), (70, 999), (71, 999), (72, 999), (73, 999), (74, 999), (75, 999), (76, 999), (77, 999), (78, 999), (79, 999), (80, 999), (81, 999), (83, 999), (84, 999), (1000, 999)] I I' ∧ Fr K [(11, 14), (82, 999)] J J' ∧ ((I' a0 9).toInt = 5 ∨ (I' rm 10).toInt ≤ (I' rm 3).toInt + (I' rm 7).toInt + (I' rm 8).toInt + (I' rm 9).toInt) ∧ ((I' rm 4).toInt ≤ 8) ∧ ((I a0 8).toInt ≤ (I' a0 8).toInt) ∧ ((I' a0 9).toInt = 4 → (I a0 8).toInt < (I' a0 8).toInt))) := by
  refine Ct_intro (by decide +kernel) (Nat.le_of_ble_eq_true rfl) (fun X hC hL hKK hNm hr hlk hQ => ?_)
  subst hL
  have hC : Cx g X cX10_readLine "HillTapModel" 1 rmX10_readLine := hC
  show P g X 1 0 [(0, .ref a0)] [] 0 0 (K, len, I, J, R)
  have hF : Fr K [(10, 0), (10, 1), (10, 2), (10, 3), (10, 4), (10, 5), (10, 6), (10, 7), (10, 8), (10, 9), (10, 10), (11, 8), (11, 9), (11, 10), (11, 11), (11, 12), (11, 13), (70, 999), (71, 999), (72, 999), (73, 999), (74, 999), (75, 999), (76, 999), (77, 999), (78, 999), (79, 999), (80, 999), (81, 999), (83, 999), (84, 999), (1000, 999)] I I := Fr.refl
  have hFJ : Fr K [(11, 14), (82, 999)] J J := Fr.refl
  obtain ⟨G3, eG3⟩ : ∃ z : Int32, z = I rm 3 := ⟨_, rfl⟩
  have fG3 : G3.toInt = (I rm 3).toInt := by rw [eG3]
  have rG3 := hs.rng krm rfl eG3
  obtain ⟨G4, eG4⟩ : ∃ z : Int32, z = I rm 4 := ⟨_, rfl⟩
  have fG4 : G4.toInt = (I rm 4).toInt := by rw [eG4]
  have rG4 := hs.rng krm rfl eG4
  obtain ⟨G7, eG7⟩ : ∃ z : Int32, z = I rm 7 := ⟨_, rfl⟩
  have fG7 : G7.toInt = (I rm 7).toInt := by rw [eG7]
  have rG7 := hs.rng krm rfl eG7
  obtain ⟨G8, eG8⟩ : ∃ z : Int32, z = I rm 8 := ⟨_, rfl⟩
  have fG8 : G8.toInt = (I rm 8).toInt := by rw [eG8]
  have rG8 := hs.rng krm rfl eG8
  obtain ⟨G9, eG9⟩ : ∃ z : Int32, z = I rm 9 := ⟨_, rfl⟩
  have fG9 : G9.toInt = (I rm 9).toInt := by rw [eG9]
  have rG9 := hs.rng krm rfl eG9
  obtain ⟨GN, eGN⟩ : ∃ z : Int32, z = I rm 10 := ⟨_, rfl⟩
  have fGN : GN.toInt = (I rm 10).toInt := by rw [eGN]
  have rGN := hs.rng krm rfl eGN
  refine r_aload_n hC dX10_readLine_0 0 rfl ?_
  refine r_ldcS hC (i := 31) (by decide) rfl rfl dX10_readLine_1 ?_
  refine r_callV hC (As := [.ref (g.2.2.1 31)]) (rest := []) (ci := 10) (c_X10_isWord g (xL X) K len I J R hs a0 ka0 31 (by decide)) mT_5_223 mT_1_10 mT_5_220 mT_5_222 mP_53 okX10_isWord ⟨by decide, by decide⟩ rfl (by show kO (K a0) = _; rw [ka0]; rfl) rfl rfl (Nat.le_of_ble_eq_true rfl) ⟨by decide, by decide⟩ dX10_readLine_3 (aI0 (F := fun st M => P g X 1 6 [(0, .ref a0)] st _ _ M) (M := (K, len, I, J, R)) fun x1_ h1 => ?_)
  obtain ⟨k1_0, k1_1, k1_2⟩ := h1
  show P g X 1 6 [(0, .ref a0)] [.int x1_] _ _ (K, len, I, J, R)
  refine r_if_eq hC (tgt := 16) dX10_readLine_6 (by decide) (fun c2 => ?_) (fun c2 => ?_)
  · refine r_aload_n hC dX10_readLine_16 0 rfl ?_
    refine r_ldcS hC (i := 35) (by decide) rfl rfl dX10_readLine_17 ?_
    refine r_callV hC (As := [.ref (g.2.2.1 35)]) (rest := []) (ci := 10) (c_X10_isWord g (xL X) K len I J R hs a0 ka0 35 (by decide)) mT_5_223 mT_1_10 mT_5_220 mT_5_222 mP_53 okX10_isWord ⟨by decide, by decide⟩ rfl (by show kO (K a0) = _; rw [ka0]; rfl) rfl rfl (Nat.le_of_ble_eq_true rfl) ⟨by decide, by decide⟩ dX10_readLine_19 (aI0 (F := fun st M => P g X 1 22 [(0, .ref a0)] st _ _ M) (M := (K, len, I, J, R)) fun x3_ h3 => ?_)
    obtain ⟨k3_0, k3_1, k3_2⟩ := h3
    show P g X 1 22 [(0, .ref a0)] [.int x3_] _ _ (K, len, I, J, R)
    refine r_if_eq hC (tgt := 32) dX10_readLine_22 (by decide) (fun c4 => ?_) (fun c4 => ?_)
    · refine r_aload_n hC dX10_readLine_32 0 rfl ?_
      refine r_ldcS hC (i := 36) (by decide) rfl rfl dX10_readLine_33 ?_
      refine r_callV hC (As := [.ref (g.2.2.1 36)]) (rest := []) (ci := 10) (c_X10_isWord g (xL X) K len I J R hs a0 ka0 36 (by decide)) mT_5_223 mT_1_10 mT_5_220 mT_5_222 mP_53 okX10_isWord ⟨by decide, by decide⟩ rfl (by show kO (K a0) = _; rw [ka0]; rfl) rfl rfl (Nat.le_of_ble_eq_true rfl) ⟨by decide, by decide⟩ dX10_readLine_35 (aI0 (F := fun st M => P g X 1 38 [(0, .ref a0)] st _ _ M) (M := (K, len, I, J, R)) fun x5_ h5 => ?_)
      obtain ⟨k5_0, k5_1, k5_2⟩ := h5
      show P g X 1 38 [(0, .ref a0)] [.int x5_] _ _ (K, len, I, J, R)
      refine r_if_eq hC (tgt := 48) dX10_readLine_38 (by decide) (fun c6 => ?_) (fun c6 => ?_)
      · refine r_aload_n hC dX10_readLine_48 0 rfl ?_
        refine r_ldcS hC (i := 37) (by decide) rfl rfl dX10_readLine_49 ?_
        refine r_callV hC (As := [.ref (g.2.2.1 37)]) (rest := []) (ci := 10) (c_X10_isWord g (xL X) K len I J R hs a0 ka0 37 (by decide)) mT_5_223 mT_1_10 mT_5_220 mT_5_222 mP_53 okX10_isWord ⟨by decide, by decide⟩ rfl (by show kO (K a0) = _; rw [ka0]; rfl) rfl rfl (Nat.le_of_ble_eq_true rfl) ⟨by decide, by decide⟩ dX10_readLine_51 (aI0 (F := fun st M => P g X 1 54 [(0, .ref a0)] st _ _ M) (M := (K, len, I, J, R)) fun x7_ h7 => ?_)
        obtain ⟨k7_0, k7_1, k7_2⟩ := h7
        show P g X 1 54 [(0, .ref a0)] [.int x7_] _ _ (K, len, I, J, R)
        refine r_if_eq hC (tgt := 64) dX10_readLine_54 (by decide) (fun c8 => ?_) (fun c8 => ?_)
        · refine r_aload_n hC dX10_readLine_64 0 rfl ?_
          refine r_ldcS hC (i := 38) (by decide) rfl rfl dX10_readLine_65 ?_
          refine r_callV hC (As := [.ref (g.2.2.1 38)]) (rest := []) (ci := 10) (c_X10_isWord g (xL X) K len I J R hs a0 ka0 38 (by decide)) mT_5_223 mT_1_10 mT_5_220 mT_5_222 mP_53 okX10_isWord ⟨by decide, by decide⟩ rfl (by show kO (K a0) = _; rw [ka0]; rfl) rfl rfl (Nat.le_of_ble_eq_true rfl) ⟨by decide, by decide⟩ dX10_readLine_67 (aI0 (F := fun st M => P g X 1 70 [(0, .ref a0)] st _ _ M) (M := (K, len, I, J, R)) fun x9_ h9 => ?_)
          obtain ⟨k9_0, k9_1, k9_2⟩ := h9
          show P g X 1 70 [(0, .ref a0)] [.int x9_] _ _ (K, len, I, J, R)
          refine r_if_eq hC (tgt := 80) dX10_readLine_70 (by decide) (fun c10 => ?_) (fun c10 => ?_)
          · refine r_aload_n hC dX10_readLine_80 0 rfl ?_
            refine r_ldcS hC (i := 39) (by decide) rfl rfl dX10_readLine_81 ?_
            refine r_callV hC (As := [.ref (g.2.2.1 39)]) (rest := []) (ci := 10) (c_X10_isWord g (xL X) K len I J R hs a0 ka0 39 (by decide)) mT_5_223 mT_1_10 mT_5_220 mT_5_222 mP_53 okX10_isWord ⟨by decide, by decide⟩ rfl (by show kO (K a0) = _; rw [ka0]; rfl) rfl rfl (Nat.le_of_ble_eq_true rfl) ⟨by decide, by decide⟩ dX10_readLine_83 (aI0 (F := fun st M => P g X 1 86 [(0, .ref a0)] st _ _ M) (M := (K, len, I, J, R)) fun x11_ h11 => ?_)
            obtain ⟨k11_0, k11_1, k11_2⟩ := h11
            show P g X 1 86 [(0, .ref a0)] [.int x11_] _ _ (K, len, I, J, R)
            refine r_if_eq hC (tgt := 96) dX10_readLine_86 (by decide) (fun c12 => ?_) (fun c12 => ?_)
            · refine r_aload_n hC dX10_readLine_96 0 rfl ?_
              refine r_ldcS hC (i := 40) (by decide) rfl rfl dX10_readLine_97 ?_
              refine r_callV hC (As := [.ref (g.2.2.1 40)]) (rest := []) (ci := 10) (c_X10_isWord g (xL X) K len I J R hs a0 ka0 40 (by decide)) mT_5_223 mT_1_10 mT_5_220 mT_5_222 mP_53 okX10_isWord ⟨by decide, by decide⟩ rfl (by show kO (K a0) = _; rw [ka0]; rfl) rfl rfl (Nat.le_of_ble_eq_true rfl) ⟨by decide, by decide⟩ dX10_readLine_99 (aI0 (F := fun st M => P g X 1 102 [(0, .ref a0)] st _ _ M) (M := (K, len, I, J, R)) fun x13_ h13 => ?_)
              obtain ⟨k13_0, k13_1, k13_2⟩ := h13
              show P g X 1 102 [(0, .ref a0)] [.int x13_] _ _ (K, len, I, J, R)
              refine r_if_eq hC (tgt := 112) dX10_readLine_102 (by decide) (fun c14 => ?_) (fun c14 => ?_)
              · refine r_aload_n hC dX10_readLine_112 0 rfl ?_
                refine r_iconst hC (v := (1)) dX10_readLine_113 (by decide) (by decide) (fun x15_ e15 t15 => ?_)
                refine r_callV hC (As := [.int x15_]) (rest := []) (ci := 10) (c_X10_wrong g (xL X) K len I J R hs a0 ka0 x15_) mT_5_236 mT_1_10 mT_5_233 mT_5_235 mP_55 okX10_wrong ⟨by decide, by decide⟩ rfl (by show kO (K a0) = _; rw [ka0]; rfl) rfl rfl (Nat.le_of_ble_eq_true rfl) ⟨by decide, by decide⟩ dX10_readLine_114 (aV1 (F := fun st M => P g X 1 117 [(0, .ref a0)] st _ _ M) (M := (K, len, I, J, R)) fun I16 h16 => ?_)
                obtain ⟨hs16, hf16, k16_0, k16_1⟩ := h16
                show P g X 1 117 [(0, .ref a0)] [] _ _ (K, len, I16, J, R)
                have hF16 : Fr K [(10, 0), (10, 1), (10, 2), (10, 3), (10, 4), (10, 5), (10, 6), (10, 7), (10, 8), (10, 9), (10, 10), (11, 8), (11, 9), (11, 10), (11, 11), (11, 12), (11, 13), (70, 999), (71, 999), (72, 999), (73, 999), (74, 999), (75, 999), (76, 999), (77, 999), (78, 999), (79, 999), (80, 999), (81, 999), (83, 999), (84, 999), (1000, 999)] I I16 := hF.trans hf16 rfl rfl
                have hG3 : I16 rm 3 = G3 := (Eq.trans (hf16.get krm rfl) eG3.symm)
                have hG3t : (I16 rm 3).toInt = G3.toInt := congrArg Int32.toInt hG3
                have hG4 : I16 rm 4 = G4 := (Eq.trans (hf16.get krm rfl) eG4.symm)
                have hG4t : (I16 rm 4).toInt = G4.toInt := congrArg Int32.toInt hG4
                have hG7 : I16 rm 7 = G7 := (Eq.trans (hf16.get krm rfl) eG7.symm)
                have hG7t : (I16 rm 7).toInt = G7.toInt := congrArg Int32.toInt hG7
                have hG8 : I16 rm 8 = G8 := (Eq.trans (hf16.get krm rfl) eG8.symm)
                have hG8t : (I16 rm 8).toInt = G8.toInt := congrArg Int32.toInt hG8
                have hG9 : I16 rm 9 = G9 := (Eq.trans (hf16.get krm rfl) eG9.symm)
                have hG9t : (I16 rm 9).toInt = G9.toInt := congrArg Int32.toInt hG9
                have hGN : I16 rm 10 = GN := (Eq.trans (hf16.get krm rfl) eGN.symm)
                have hGNt : (I16 rm 10).toInt = GN.toInt := congrArg Int32.toInt hGN
                exact r_vret hC hQ hlk hr (by decide) (by decide) dX10_readLine_117 ⟨_, _, rfl, rfl, ⟨hs16, hF16, hFJ, (by first | (left; omega) | (right; omega) | assumption), (by omega), (by omega), (by omega)⟩⟩
              · refine r_aload_n hC dX10_readLine_105 0 rfl ?_
                refine r_callV hC (As := []) (rest := []) (ci := 10) (c_X10_readKnower g (xL X) K len I J R hs a0 ka0 rm hbr krm (by omega) (by omega) (by omega)) mT_6_73 mT_1_10 mT_6_70 mT_6_72 mP_66 okX10_readKnower ⟨by decide, by decide⟩ rfl (by show kO (K a0) = _; rw [ka0]; rfl) rfl rfl (Nat.le_of_ble_eq_true rfl) ⟨by decide, by decide⟩ dX10_readLine_106 (aV2 (F := fun st M => P g X 1 109 [(0, .ref a0)] st _ _ M) (M := (K, len, I, J, R)) fun I17 J17 h17 => ?_)
                obtain ⟨hs17, hf17, hfj17, k17_0, k17_1, k17_2, k17_3⟩ := h17
                show P g X 1 109 [(0, .ref a0)] [] _ _ (K, len, I17, J17, R)
                have hF17 : Fr K [(10, 0), (10, 1), (10, 2), (10, 3), (10, 4), (10, 5), (10, 6), (10, 7), (10, 8), (10, 9), (10, 10), (11, 8), (11, 9), (11, 10), (11, 11), (11, 12), (11, 13), (70, 999), (71, 999), (72, 999), (73, 999), (74, 999), (75, 999), (76, 999), (77, 999), (78, 999), (79, 999), (80, 999), (81, 999), (83, 999), (84, 999), (1000, 999)] I I17 := hF.trans hf17 rfl rfl
                have hFJ17 : Fr K [(11, 14), (82, 999)] J J17 := hFJ.trans hfj17 rfl rfl
                refine r_goto hC (tgt := 117) dX10_readLine_109 (by decide) ?_
                have hG3 : I17 rm 3 = G3 := (Eq.trans (hf17.get krm rfl) eG3.symm)
                have hG3t : (I17 rm 3).toInt = G3.toInt := congrArg Int32.toInt hG3
                have hG4 : I17 rm 4 = G4 := (Eq.trans (hf17.get krm rfl) eG4.symm)
                have hG4t : (I17 rm 4).toInt = G4.toInt := congrArg Int32.toInt hG4
                have hG7 : I17 rm 7 = G7 := (Eq.trans (hf17.get krm rfl) eG7.symm)
                have hG7t : (I17 rm 7).toInt = G7.toInt := congrArg Int32.toInt hG7
                have hG8 : I17 rm 8 = G8 := (Eq.trans (hf17.get krm rfl) eG8.symm)
                have hG8t : (I17 rm 8).toInt = G8.toInt := congrArg Int32.toInt hG8
                exact r_vret hC hQ hlk hr (by decide) (by decide) dX10_readLine_117 ⟨_, _, rfl, rfl, ⟨hs17, hF17, hFJ17, (by first | (left; omega) | (right; omega) | assumption), (by omega), (by omega), (by omega)⟩⟩
            · refine r_aload_n hC dX10_readLine_89 0 rfl ?_
              refine r_callV hC (As := []) (rest := []) (ci := 10) (c_X10_readVillage g (xL X) K len I J R hs a0 ka0 rm hbr krm (by omega) (by omega) (by omega)) mT_6_66 mT_1_10 mT_6_63 mT_6_65 mP_65 okX10_readVillage ⟨by decide, by decide⟩ rfl (by show kO (K a0) = _; rw [ka0]; rfl) rfl rfl (Nat.le_of_ble_eq_true rfl) ⟨by decide, by decide⟩ dX10_readLine_90 (aV2 (F := fun st M => P g X 1 93 [(0, .ref a0)] st _ _ M) (M := (K, len, I, J, R)) fun I18 J18 h18 => ?_)
              obtain ⟨hs18, hf18, hfj18, k18_0, k18_1, k18_2, k18_3⟩ := h18
              show P g X 1 93 [(0, .ref a0)] [] _ _ (K, len, I18, J18, R)
              have hF18 : Fr K [(10, 0), (10, 1), (10, 2), (10, 3), (10, 4), (10, 5), (10, 6), (10, 7), (10, 8), (10, 9), (10, 10), (11, 8), (11, 9), (11, 10), (11, 11), (11, 12), (11, 13), (70, 999), (71, 999), (72, 999), (73, 999), (74, 999), (75, 999), (76, 999), (77, 999), (78, 999), (79, 999), (80, 999), (81, 999), (83, 999), (84, 999), (1000, 999)] I I18 := hF.trans hf18 rfl rfl
              have hFJ18 : Fr K [(11, 14), (82, 999)] J J18 := hFJ.trans hfj18 rfl rfl
              refine r_goto hC (tgt := 117) dX10_readLine_93 (by decide) ?_
              have hG3 : I18 rm 3 = G3 := (Eq.trans (hf18.get krm rfl) eG3.symm)
              have hG3t : (I18 rm 3).toInt = G3.toInt := congrArg Int32.toInt hG3
              have hG4 : I18 rm 4 = G4 := (Eq.trans (hf18.get krm rfl) eG4.symm)
              have hG4t : (I18 rm 4).toInt = G4.toInt := congrArg Int32.toInt hG4
              have hG7 : I18 rm 7 = G7 := (Eq.trans (hf18.get krm rfl) eG7.symm)
              have hG7t : (I18 rm 7).toInt = G7.toInt := congrArg Int32.toInt hG7
              have hG9 : I18 rm 9 = G9 := (Eq.trans (hf18.get krm rfl) eG9.symm)
              have hG9t : (I18 rm 9).toInt = G9.toInt := congrArg Int32.toInt hG9
              exact r_vret hC hQ hlk hr (by decide) (by decide) dX10_readLine_117 ⟨_, _, rfl, rfl, ⟨hs18, hF18, hFJ18, (by first | (left; omega) | (right; omega) | assumption), (by omega), (by omega), (by omega)⟩⟩
          · refine r_aload_n hC dX10_readLine_73 0 rfl ?_
            refine r_callV hC (As := []) (rest := []) (ci := 10) (c_X10_readStory g (xL X) K len I J R hs a0 ka0 rm hbr krm (by omega) (by omega) (by omega)) mT_6_52 mT_1_10 mT_6_49 mT_6_51 mP_64 okX10_readStory ⟨by decide, by decide⟩ rfl (by show kO (K a0) = _; rw [ka0]; rfl) rfl rfl (Nat.le_of_ble_eq_true rfl) ⟨by decide, by decide⟩ dX10_readLine_74 (aV2 (F := fun st M => P g X 1 77 [(0, .ref a0)] st _ _ M) (M := (K, len, I, J, R)) fun I19 J19 h19 => ?_)
            obtain ⟨hs19, hf19, hfj19, k19_0, k19_1, k19_2, k19_3⟩ := h19
            show P g X 1 77 [(0, .ref a0)] [] _ _ (K, len, I19, J19, R)
            have hF19 : Fr K [(10, 0), (10, 1), (10, 2), (10, 3), (10, 4), (10, 5), (10, 6), (10, 7), (10, 8), (10, 9), (10, 10), (11, 8), (11, 9), (11, 10), (11, 11), (11, 12), (11, 13), (70, 999), (71, 999), (72, 999), (73, 999), (74, 999), (75, 999), (76, 999), (77, 999), (78, 999), (79, 999), (80, 999), (81, 999), (83, 999), (84, 999), (1000, 999)] I I19 := hF.trans hf19 rfl rfl
            have hFJ19 : Fr K [(11, 14), (82, 999)] J J19 := hFJ.trans hfj19 rfl rfl
            refine r_goto hC (tgt := 117) dX10_readLine_77 (by decide) ?_
            have hG3 : I19 rm 3 = G3 := (Eq.trans (hf19.get krm rfl) eG3.symm)
            have hG3t : (I19 rm 3).toInt = G3.toInt := congrArg Int32.toInt hG3
            have hG4 : I19 rm 4 = G4 := (Eq.trans (hf19.get krm rfl) eG4.symm)
            have hG4t : (I19 rm 4).toInt = G4.toInt := congrArg Int32.toInt hG4
            have hG8 : I19 rm 8 = G8 := (Eq.trans (hf19.get krm rfl) eG8.symm)
            have hG8t : (I19 rm 8).toInt = G8.toInt := congrArg Int32.toInt hG8
            have hG9 : I19 rm 9 = G9 := (Eq.trans (hf19.get krm rfl) eG9.symm)
            have hG9t : (I19 rm 9).toInt = G9.toInt := congrArg Int32.toInt hG9
            exact r_vret hC hQ hlk hr (by decide) (by decide) dX10_readLine_117 ⟨_, _, rfl, rfl, ⟨hs19, hF19, hFJ19, (by first | (left; omega) | (right; omega) | assumption), (by omega), (by omega), (by omega)⟩⟩
        · refine r_aload_n hC dX10_readLine_57 0 rfl ?_
          refine r_callV hC (As := []) (rest := []) (ci := 10) (c_X10_readRain g (xL X) K len I J R hs a0 ka0 rm hbr krm (by omega) (by omega) (by omega)) mT_6_47 mT_1_10 mT_6_44 mT_6_46 mP_63 okX10_readRain ⟨by decide, by decide⟩ rfl (by show kO (K a0) = _; rw [ka0]; rfl) rfl rfl (Nat.le_of_ble_eq_true rfl) ⟨by decide, by decide⟩ dX10_readLine_58 (aV2 (F := fun st M => P g X 1 61 [(0, .ref a0)] st _ _ M) (M := (K, len, I, J, R)) fun I20 J20 h20 => ?_)
          obtain ⟨hs20, hf20, hfj20, k20_0, k20_1, k20_2, k20_3⟩ := h20
          show P g X 1 61 [(0, .ref a0)] [] _ _ (K, len, I20, J20, R)
          have hF20 : Fr K [(10, 0), (10, 1), (10, 2), (10, 3), (10, 4), (10, 5), (10, 6), (10, 7), (10, 8), (10, 9), (10, 10), (11, 8), (11, 9), (11, 10), (11, 11), (11, 12), (11, 13), (70, 999), (71, 999), (72, 999), (73, 999), (74, 999), (75, 999), (76, 999), (77, 999), (78, 999), (79, 999), (80, 999), (81, 999), (83, 999), (84, 999), (1000, 999)] I I20 := hF.trans hf20 rfl rfl
          have hFJ20 : Fr K [(11, 14), (82, 999)] J J20 := hFJ.trans hfj20 rfl rfl
          refine r_goto hC (tgt := 117) dX10_readLine_61 (by decide) ?_
          have hG3 : I20 rm 3 = G3 := (Eq.trans (hf20.get krm rfl) eG3.symm)
          have hG3t : (I20 rm 3).toInt = G3.toInt := congrArg Int32.toInt hG3
          have hG4 : I20 rm 4 = G4 := (Eq.trans (hf20.get krm rfl) eG4.symm)
          have hG4t : (I20 rm 4).toInt = G4.toInt := congrArg Int32.toInt hG4
          have hG7 : I20 rm 7 = G7 := (Eq.trans (hf20.get krm rfl) eG7.symm)
          have hG7t : (I20 rm 7).toInt = G7.toInt := congrArg Int32.toInt hG7
          have hG8 : I20 rm 8 = G8 := (Eq.trans (hf20.get krm rfl) eG8.symm)
          have hG8t : (I20 rm 8).toInt = G8.toInt := congrArg Int32.toInt hG8
          have hG9 : I20 rm 9 = G9 := (Eq.trans (hf20.get krm rfl) eG9.symm)
          have hG9t : (I20 rm 9).toInt = G9.toInt := congrArg Int32.toInt hG9
          have hGN : I20 rm 10 = GN := (Eq.trans (hf20.get krm rfl) eGN.symm)
          have hGNt : (I20 rm 10).toInt = GN.toInt := congrArg Int32.toInt hGN
          exact r_vret hC hQ hlk hr (by decide) (by decide) dX10_readLine_117 ⟨_, _, rfl, rfl, ⟨hs20, hF20, hFJ20, (by first | (left; omega) | (right; omega) | assumption), (by omega), (by omega), (by omega)⟩⟩
      · refine r_aload_n hC dX10_readLine_41 0 rfl ?_
        refine r_callV hC (As := []) (rest := []) (ci := 10) (c_X10_readFrom g (xL X) K len I J R hs a0 ka0 rm hbr krm (by omega) (by omega) (by omega)) mT_6_42 mT_1_10 mT_6_39 mT_6_41 mP_62 okX10_readFrom ⟨by decide, by decide⟩ rfl (by show kO (K a0) = _; rw [ka0]; rfl) rfl rfl (Nat.le_of_ble_eq_true rfl) ⟨by decide, by decide⟩ dX10_readLine_42 (aV2 (F := fun st M => P g X 1 45 [(0, .ref a0)] st _ _ M) (M := (K, len, I, J, R)) fun I21 J21 h21 => ?_)
        obtain ⟨hs21, hf21, hfj21, k21_0, k21_1, k21_2, k21_3⟩ := h21
        show P g X 1 45 [(0, .ref a0)] [] _ _ (K, len, I21, J21, R)
        have hF21 : Fr K [(10, 0), (10, 1), (10, 2), (10, 3), (10, 4), (10, 5), (10, 6), (10, 7), (10, 8), (10, 9), (10, 10), (11, 8), (11, 9), (11, 10), (11, 11), (11, 12), (11, 13), (70, 999), (71, 999), (72, 999), (73, 999), (74, 999), (75, 999), (76, 999), (77, 999), (78, 999), (79, 999), (80, 999), (81, 999), (83, 999), (84, 999), (1000, 999)] I I21 := hF.trans hf21 rfl rfl
        have hFJ21 : Fr K [(11, 14), (82, 999)] J J21 := hFJ.trans hfj21 rfl rfl
        refine r_goto hC (tgt := 117) dX10_readLine_45 (by decide) ?_
        have hG3 : I21 rm 3 = G3 := (Eq.trans (hf21.get krm rfl) eG3.symm)
        have hG3t : (I21 rm 3).toInt = G3.toInt := congrArg Int32.toInt hG3
        have hG7 : I21 rm 7 = G7 := (Eq.trans (hf21.get krm rfl) eG7.symm)
        have hG7t : (I21 rm 7).toInt = G7.toInt := congrArg Int32.toInt hG7
        have hG8 : I21 rm 8 = G8 := (Eq.trans (hf21.get krm rfl) eG8.symm)
        have hG8t : (I21 rm 8).toInt = G8.toInt := congrArg Int32.toInt hG8
        have hG9 : I21 rm 9 = G9 := (Eq.trans (hf21.get krm rfl) eG9.symm)
        have hG9t : (I21 rm 9).toInt = G9.toInt := congrArg Int32.toInt hG9
        have hGN : I21 rm 10 = GN := (Eq.trans (hf21.get krm rfl) eGN.symm)
        have hGNt : (I21 rm 10).toInt = GN.toInt := congrArg Int32.toInt hGN
        exact r_vret hC hQ hlk hr (by decide) (by decide) dX10_readLine_117 ⟨_, _, rfl, rfl, ⟨hs21, hF21, hFJ21, (by first | (left; omega) | (right; omega) | assumption), (by omega), (by omega), (by omega)⟩⟩
    · refine r_aload_n hC dX10_readLine_25 0 rfl ?_
      refine r_callV hC (As := []) (rest := []) (ci := 10) (c_X10_readPeg g (xL X) K len I J R hs a0 ka0 rm hbr krm (by omega) (by omega) (by omega)) mT_6_15 mT_1_10 mT_6_12 mT_6_14 mP_58 okX10_readPeg ⟨by decide, by decide⟩ rfl (by show kO (K a0) = _; rw [ka0]; rfl) rfl rfl (Nat.le_of_ble_eq_true rfl) ⟨by decide, by decide⟩ dX10_readLine_26 (aV2 (F := fun st M => P g X 1 29 [(0, .ref a0)] st _ _ M) (M := (K, len, I, J, R)) fun I22 J22 h22 => ?_)
      obtain ⟨hs22, hf22, hfj22, k22_0, k22_1, k22_2, k22_3⟩ := h22
      show P g X 1 29 [(0, .ref a0)] [] _ _ (K, len, I22, J22, R)
      have hF22 : Fr K [(10, 0), (10, 1), (10, 2), (10, 3), (10, 4), (10, 5), (10, 6), (10, 7), (10, 8), (10, 9), (10, 10), (11, 8), (11, 9), (11, 10), (11, 11), (11, 12), (11, 13), (70, 999), (71, 999), (72, 999), (73, 999), (74, 999), (75, 999), (76, 999), (77, 999), (78, 999), (79, 999), (80, 999), (81, 999), (83, 999), (84, 999), (1000, 999)] I I22 := hF.trans hf22 rfl rfl
      have hFJ22 : Fr K [(11, 14), (82, 999)] J J22 := hFJ.trans hfj22 rfl rfl
      refine r_goto hC (tgt := 117) dX10_readLine_29 (by decide) ?_
      have hG4 : I22 rm 4 = G4 := (Eq.trans (hf22.get krm rfl) eG4.symm)
      have hG4t : (I22 rm 4).toInt = G4.toInt := congrArg Int32.toInt hG4
      have hG7 : I22 rm 7 = G7 := (Eq.trans (hf22.get krm rfl) eG7.symm)
      have hG7t : (I22 rm 7).toInt = G7.toInt := congrArg Int32.toInt hG7
      have hG8 : I22 rm 8 = G8 := (Eq.trans (hf22.get krm rfl) eG8.symm)
      have hG8t : (I22 rm 8).toInt = G8.toInt := congrArg Int32.toInt hG8
      have hG9 : I22 rm 9 = G9 := (Eq.trans (hf22.get krm rfl) eG9.symm)
      have hG9t : (I22 rm 9).toInt = G9.toInt := congrArg Int32.toInt hG9
      exact r_vret hC hQ hlk hr (by decide) (by decide) dX10_readLine_117 ⟨_, _, rfl, rfl, ⟨hs22, hF22, hFJ22, (by first | (left; omega) | (right; omega) | assumption), (by omega), (by omega), (by omega)⟩⟩
  · refine r_aload_n hC dX10_readLine_9 0 rfl ?_
    refine r_callV hC (As := []) (rest := []) (ci := 10) (c_X10_readLake g (xL X) K len I J R hs a0 ka0 rm hbr krm (by omega) (by omega) (by omega)) mT_5_232 mT_1_10 mT_5_229 mT_5_231 mP_54 okX10_readLake ⟨by decide, by decide⟩ rfl (by show kO (K a0) = _; rw [ka0]; rfl) rfl rfl (Nat.le_of_ble_eq_true rfl) ⟨by decide, by decide⟩ dX10_readLine_10 (aV2 (F := fun st M => P g X 1 13 [(0, .ref a0)] st _ _ M) (M := (K, len, I, J, R)) fun I23 J23 h23 => ?_)
    obtain ⟨hs23, hf23, hfj23, k23_0, k23_1, k23_2, k23_3⟩ := h23
    show P g X 1 13 [(0, .ref a0)] [] _ _ (K, len, I23, J23, R)
    have hF23 : Fr K [(10, 0), (10, 1), (10, 2), (10, 3), (10, 4), (10, 5), (10, 6), (10, 7), (10, 8), (10, 9), (10, 10), (11, 8), (11, 9), (11, 10), (11, 11), (11, 12), (11, 13), (70, 999), (71, 999), (72, 999), (73, 999), (74, 999), (75, 999), (76, 999), (77, 999), (78, 999), (79, 999), (80, 999), (81, 999), (83, 999), (84, 999), (1000, 999)] I I23 := hF.trans hf23 rfl rfl
    have hFJ23 : Fr K [(11, 14), (82, 999)] J J23 := hFJ.trans hfj23 rfl rfl
    refine r_goto hC (tgt := 117) dX10_readLine_13 (by decide) ?_
    have hG3 : I23 rm 3 = G3 := (Eq.trans (hf23.get krm rfl) eG3.symm)
    have hG3t : (I23 rm 3).toInt = G3.toInt := congrArg Int32.toInt hG3
    have hG4 : I23 rm 4 = G4 := (Eq.trans (hf23.get krm rfl) eG4.symm)
    have hG4t : (I23 rm 4).toInt = G4.toInt := congrArg Int32.toInt hG4
    have hG7 : I23 rm 7 = G7 := (Eq.trans (hf23.get krm rfl) eG7.symm)
    have hG7t : (I23 rm 7).toInt = G7.toInt := congrArg Int32.toInt hG7
    have hG8 : I23 rm 8 = G8 := (Eq.trans (hf23.get krm rfl) eG8.symm)
    have hG8t : (I23 rm 8).toInt = G8.toInt := congrArg Int32.toInt hG8
    have hG9 : I23 rm 9 = G9 := (Eq.trans (hf23.get krm rfl) eG9.symm)
    have hG9t : (I23 rm 9).toInt = G9.toInt := congrArg Int32.toInt hG9
    have hGN : I23 rm 10 = GN := (Eq.trans (hf23.get krm rfl) eGN.symm)
    have hGNt : (I23 rm 10).toInt = GN.toInt := congrArg Int32.toInt hGN
    exact r_vret hC hQ hlk hr (by decide) (by decide) dX10_readLine_117 ⟨_, _, rfl, rfl, ⟨hs23, hF23, hFJ23, (by first | (left; omega) | (right; omega) | assumption), (by omega), (by omega), (by omega)⟩⟩
set_option maxHeartbeats 4000000 in
set_option maxRecDepth 100000 in
theorem c_X10_readHill (g : GG) (l : Launch) (K len : Nat → Nat) (I : Nat → Nat → Int32) (J : Nat → Nat → Int64) (R : Nat → Nat → Option Nat) (hs : Sf K len I R) (a0 : Nat) (ka0 : K a0 = 11) (rm : Nat) (hbr : R a0 4 = some rm) (krm : K rm = 10) (p0 : (I a0 9).toInt = 5 ∨ (I rm 10).toInt ≤ (I rm 3).toInt + (I rm 7).toInt + (I rm 8).toInt + (I rm 9).toInt) (p1 : (I rm 4).toInt ≤ 8) : Ct g l yX10_readHill cX10_readHill 2 (Option.none : Option Jvm.ClassFile.FieldType) rmX10_readHill [.ref a0] (K, len, I, J, R) (pV2 (K, len, I, J, R) (fun I' J' => Sf K len I' R ∧ Fr K [(10, 0), (10, 1), (10, 2), (10, 3), (10, 4), (10, 5), (10, 6), (10, 7), (10, 8), (10, 9), (10, 10), (11, 8), (11, 9), (11, 10), (11, 11), (11, 12), (11, 13), (70, 999), (71, 999), (72, 999), (73, 999), (74, 999), (75, 999), (76, 999), (77, 999), (78, 999), (79, 999), (80, 999), (81, 999), (83, 999), (84, 999), (1000, 999)] I I' ∧ Fr K [(11, 14), (82, 999)] J J')) := by
  refine Ct_intro (by decide +kernel) (Nat.le_of_ble_eq_true rfl) (fun X hC hL hKK hNm hr hlk hQ => ?_)
  subst hL
  have hC : Cx g X cX10_readHill "HillTapModel" 2 rmX10_readHill := hC
  show P g X 2 0 [(0, .ref a0)] [] 0 0 (K, len, I, J, R)
  have hF : Fr K [(10, 0), (10, 1), (10, 2), (10, 3), (10, 4), (10, 5), (10, 6), (10, 7), (10, 8), (10, 9), (10, 10), (11, 8), (11, 9), (11, 10), (11, 11), (11, 12), (11, 13), (70, 999), (71, 999), (72, 999), (73, 999), (74, 999), (75, 999), (76, 999), (77, 999), (78, 999), (79, 999), (80, 999), (81, 999), (83, 999), (84, 999), (1000, 999)] I I := Fr.refl
  have hFJ : Fr K [(11, 14), (82, 999)] J J := Fr.refl
  refine r_iconst hC (v := (1)) dX10_readHill_0 (by decide) (by decide) (fun x1_ e1 t1 => ?_)
  refine r_istore_n hC (lv' := [(1, .int x1_), (0, .ref a0)]) dX10_readHill_1 (by decide) rfl ?_
  have LP2 : ∀ (mu : Nat) (x2_1 : Int32) (I2 : Nat → Nat → Int32) (J2 : Nat → Nat → Int64) (hs2 : Sf K len I2 R) (hF2 : Fr K [(10, 0), (10, 1), (10, 2), (10, 3), (10, 4), (10, 5), (10, 6), (10, 7), (10, 8), (10, 9), (10, 10), (11, 8), (11, 9), (11, 10), (11, 11), (11, 12), (11, 13), (70, 999), (71, 999), (72, 999), (73, 999), (74, 999), (75, 999), (76, 999), (77, 999), (78, 999), (79, 999), (80, 999), (81, 999), (83, 999), (84, 999), (1000, 999)] I I2) (hFJ2 : Fr K [(11, 14), (82, 999)] J J2) (v2_0 : 0 ≤ x2_1.toInt) (v2_1 : x2_1.toInt ≤ 1) (v2_2 : (I2 a0 9).toInt = 5 ∨ (I2 rm 10).toInt ≤ (I2 rm 3).toInt + (I2 rm 7).toInt + (I2 rm 8).toInt + (I2 rm 9).toInt) (v2_3 : (I2 rm 4).toInt ≤ 8), (2 * (900 - (I2 a0 8).toInt) + x2_1.toInt).toNat = mu → P g X 2 2 [(0, .ref a0), (1, .int x2_1)] [] 0 0 (K, len, I2, J2, R) := by
    intro mu; induction mu using Nat.strongRecOn with | ind mu ih => ?_
    intro x2_1 I2 J2 hs2 hF2 hFJ2 v2_0 v2_1 v2_2 v2_3 hmu
    have ih2 := ih
    clear ih
    have hmu2 := hmu
    clear hmu
    refine r_iload_n hC dX10_readHill_2 1 rfl ?_
    refine r_if_eq hC (tgt := 35) dX10_readHill_3 (by decide) (fun c3 => ?_) (fun c3 => ?_)
    · refine r_aload_n hC dX10_readHill_35 0 rfl ?_
      refine r_geti hC 9 (ci := 10) rfl u10_in (by decide) mT_5_4 dX10_readHill_36 ka0 rfl rfl (fun x4_ e4 => ?_)
      have f4 : x4_.toInt = (I2 a0 9).toInt := by rw [e4]
      refine r_iconst hC (v := (1)) dX10_readHill_39 (by decide) (by decide) (fun x5_ e5 t5 => ?_)
      refine r_icmp_eq hC (tgt := 48) dX10_readHill_40 (by decide) (fun c6 => ?_) (fun c6 => ?_)
      · refine r_aload_n hC dX10_readHill_48 0 rfl ?_
        refine r_getr hC 4 (ci := 10) rfl u10_in (by decide) mT_4_239 dX10_readHill_49 ka0 rfl rfl hbr ?_
        refine r_getiN hC 0 (ci := 9) rfl u9_in (by decide) nF_0 dX10_readHill_52 krm rfl rfl (fun x7_ e7 => ?_)
        have f7 : x7_.toInt = (I2 rm 0).toInt := by rw [e7]
        refine r_iconst hC (v := (-1)) dX10_readHill_55 (by decide) (by decide) (fun x8_ e8 t8 => ?_)
        refine r_icmp_eq hC (tgt := 79) dX10_readHill_56 (by decide) (fun c9 => ?_) (fun c9 => ?_)
        · refine r_aload_n hC dX10_readHill_79 0 rfl ?_
          refine r_bipush hC (v := (6)) dX10_readHill_80 (by decide) (by decide) (fun x10_ e10 t10 => ?_)
          refine r_callV hC (As := [.int x10_]) (rest := []) (ci := 10) (c_X10_wrong g (xL X) K len I2 J2 R hs2 a0 ka0 x10_) mT_5_236 mT_1_10 mT_5_233 mT_5_235 mP_55 okX10_wrong ⟨by decide, by decide⟩ rfl (by show kO (K a0) = _; rw [ka0]; rfl) rfl rfl (Nat.le_of_ble_eq_true rfl) ⟨by decide, by decide⟩ dX10_readHill_82 (aV1 (F := fun st M => P g X 2 85 [(0, .ref a0), (1, .int x2_1)] st _ _ M) (M := (K, len, I2, J2, R)) fun I11 h11 => ?_)
          obtain ⟨hs11, hf11, k11_0, k11_1⟩ := h11
          show P g X 2 85 [(0, .ref a0), (1, .int x2_1)] [] _ _ (K, len, I11, J2, R)
          have hF11 : Fr K [(10, 0), (10, 1), (10, 2), (10, 3), (10, 4), (10, 5), (10, 6), (10, 7), (10, 8), (10, 9), (10, 10), (11, 8), (11, 9), (11, 10), (11, 11), (11, 12), (11, 13), (70, 999), (71, 999), (72, 999), (73, 999), (74, 999), (75, 999), (76, 999), (77, 999), (78, 999), (79, 999), (80, 999), (81, 999), (83, 999), (84, 999), (1000, 999)] I I11 := hF2.trans hf11 rfl rfl
          exact r_vret hC hQ hlk hr (by decide) (by decide) dX10_readHill_85 ⟨_, _, rfl, rfl, ⟨hs11, hF11, hFJ2⟩⟩
        · refine r_aload_n hC dX10_readHill_59 0 rfl ?_
          refine r_getr hC 4 (ci := 10) rfl u10_in (by decide) mT_4_239 dX10_readHill_60 ka0 rfl rfl hbr ?_
          refine r_getiN hC 3 (ci := 9) rfl u9_in (by decide) nF_3 dX10_readHill_63 krm rfl rfl (fun x12_ e12 => ?_)
          have r12 := hs2.rng krm rfl e12
          have f12 : x12_.toInt = (I2 rm 3).toInt := by rw [e12]
          refine r_if_eq hC (tgt := 79) dX10_readHill_66 (by decide) (fun c13 => ?_) (fun c13 => ?_)
          · refine r_aload_n hC dX10_readHill_79 0 rfl ?_
            refine r_bipush hC (v := (6)) dX10_readHill_80 (by decide) (by decide) (fun x14_ e14 t14 => ?_)
            refine r_callV hC (As := [.int x14_]) (rest := []) (ci := 10) (c_X10_wrong g (xL X) K len I2 J2 R hs2 a0 ka0 x14_) mT_5_236 mT_1_10 mT_5_233 mT_5_235 mP_55 okX10_wrong ⟨by decide, by decide⟩ rfl (by show kO (K a0) = _; rw [ka0]; rfl) rfl rfl (Nat.le_of_ble_eq_true rfl) ⟨by decide, by decide⟩ dX10_readHill_82 (aV1 (F := fun st M => P g X 2 85 [(0, .ref a0), (1, .int x2_1)] st _ _ M) (M := (K, len, I2, J2, R)) fun I15 h15 => ?_)
            obtain ⟨hs15, hf15, k15_0, k15_1⟩ := h15
            show P g X 2 85 [(0, .ref a0), (1, .int x2_1)] [] _ _ (K, len, I15, J2, R)
            have hF15 : Fr K [(10, 0), (10, 1), (10, 2), (10, 3), (10, 4), (10, 5), (10, 6), (10, 7), (10, 8), (10, 9), (10, 10), (11, 8), (11, 9), (11, 10), (11, 11), (11, 12), (11, 13), (70, 999), (71, 999), (72, 999), (73, 999), (74, 999), (75, 999), (76, 999), (77, 999), (78, 999), (79, 999), (80, 999), (81, 999), (83, 999), (84, 999), (1000, 999)] I I15 := hF2.trans hf15 rfl rfl
            exact r_vret hC hQ hlk hr (by decide) (by decide) dX10_readHill_85 ⟨_, _, rfl, rfl, ⟨hs15, hF15, hFJ2⟩⟩
          · refine r_aload_n hC dX10_readHill_69 0 rfl ?_
            refine r_getr hC 4 (ci := 10) rfl u10_in (by decide) mT_4_239 dX10_readHill_70 ka0 rfl rfl hbr ?_
            refine r_getiN hC 7 (ci := 9) rfl u9_in (by decide) nF_7 dX10_readHill_73 krm rfl rfl (fun x16_ e16 => ?_)
            have r16 := hs2.rng krm rfl e16
            have f16 : x16_.toInt = (I2 rm 7).toInt := by rw [e16]
            refine r_if_ne hC (tgt := 85) dX10_readHill_76 (by decide) (fun c17 => ?_) (fun c17 => ?_)
            · exact r_vret hC hQ hlk hr (by decide) (by decide) dX10_readHill_85 ⟨_, _, rfl, rfl, ⟨hs2, hF2, hFJ2⟩⟩
            · refine r_aload_n hC dX10_readHill_79 0 rfl ?_
              refine r_bipush hC (v := (6)) dX10_readHill_80 (by decide) (by decide) (fun x18_ e18 t18 => ?_)
              refine r_callV hC (As := [.int x18_]) (rest := []) (ci := 10) (c_X10_wrong g (xL X) K len I2 J2 R hs2 a0 ka0 x18_) mT_5_236 mT_1_10 mT_5_233 mT_5_235 mP_55 okX10_wrong ⟨by decide, by decide⟩ rfl (by show kO (K a0) = _; rw [ka0]; rfl) rfl rfl (Nat.le_of_ble_eq_true rfl) ⟨by decide, by decide⟩ dX10_readHill_82 (aV1 (F := fun st M => P g X 2 85 [(0, .ref a0), (1, .int x2_1)] st _ _ M) (M := (K, len, I2, J2, R)) fun I19 h19 => ?_)
              obtain ⟨hs19, hf19, k19_0, k19_1⟩ := h19
              show P g X 2 85 [(0, .ref a0), (1, .int x2_1)] [] _ _ (K, len, I19, J2, R)
              have hF19 : Fr K [(10, 0), (10, 1), (10, 2), (10, 3), (10, 4), (10, 5), (10, 6), (10, 7), (10, 8), (10, 9), (10, 10), (11, 8), (11, 9), (11, 10), (11, 11), (11, 12), (11, 13), (70, 999), (71, 999), (72, 999), (73, 999), (74, 999), (75, 999), (76, 999), (77, 999), (78, 999), (79, 999), (80, 999), (81, 999), (83, 999), (84, 999), (1000, 999)] I I19 := hF2.trans hf19 rfl rfl
              exact r_vret hC hQ hlk hr (by decide) (by decide) dX10_readHill_85 ⟨_, _, rfl, rfl, ⟨hs19, hF19, hFJ2⟩⟩
      · refine r_aload_n hC dX10_readHill_43 0 rfl ?_
        refine r_iconst hC (v := (1)) dX10_readHill_44 (by decide) (by decide) (fun x20_ e20 t20 => ?_)
        refine r_callV hC (As := [.int x20_]) (rest := []) (ci := 10) (c_X10_wrong g (xL X) K len I2 J2 R hs2 a0 ka0 x20_) mT_5_236 mT_1_10 mT_5_233 mT_5_235 mP_55 okX10_wrong ⟨by decide, by decide⟩ rfl (by show kO (K a0) = _; rw [ka0]; rfl) rfl rfl (Nat.le_of_ble_eq_true rfl) ⟨by decide, by decide⟩ dX10_readHill_45 (aV1 (F := fun st M => P g X 2 48 [(0, .ref a0), (1, .int x2_1)] st _ _ M) (M := (K, len, I2, J2, R)) fun I21 h21 => ?_)
        obtain ⟨hs21, hf21, k21_0, k21_1⟩ := h21
        show P g X 2 48 [(0, .ref a0), (1, .int x2_1)] [] _ _ (K, len, I21, J2, R)
        have hF21 : Fr K [(10, 0), (10, 1), (10, 2), (10, 3), (10, 4), (10, 5), (10, 6), (10, 7), (10, 8), (10, 9), (10, 10), (11, 8), (11, 9), (11, 10), (11, 11), (11, 12), (11, 13), (70, 999), (71, 999), (72, 999), (73, 999), (74, 999), (75, 999), (76, 999), (77, 999), (78, 999), (79, 999), (80, 999), (81, 999), (83, 999), (84, 999), (1000, 999)] I I21 := hF2.trans hf21 rfl rfl
        refine r_aload_n hC dX10_readHill_48 0 rfl ?_
        refine r_getr hC 4 (ci := 10) rfl u10_in (by decide) mT_4_239 dX10_readHill_49 ka0 rfl rfl hbr ?_
        refine r_getiN hC 0 (ci := 9) rfl u9_in (by decide) nF_0 dX10_readHill_52 krm rfl rfl (fun x22_ e22 => ?_)
        have f22 : x22_.toInt = (I21 rm 0).toInt := by rw [e22]
        refine r_iconst hC (v := (-1)) dX10_readHill_55 (by decide) (by decide) (fun x23_ e23 t23 => ?_)
        refine r_icmp_eq hC (tgt := 79) dX10_readHill_56 (by decide) (fun c24 => ?_) (fun c24 => ?_)
        · refine r_aload_n hC dX10_readHill_79 0 rfl ?_
          refine r_bipush hC (v := (6)) dX10_readHill_80 (by decide) (by decide) (fun x25_ e25 t25 => ?_)
          refine r_callV hC (As := [.int x25_]) (rest := []) (ci := 10) (c_X10_wrong g (xL X) K len I21 J2 R hs21 a0 ka0 x25_) mT_5_236 mT_1_10 mT_5_233 mT_5_235 mP_55 okX10_wrong ⟨by decide, by decide⟩ rfl (by show kO (K a0) = _; rw [ka0]; rfl) rfl rfl (Nat.le_of_ble_eq_true rfl) ⟨by decide, by decide⟩ dX10_readHill_82 (aV1 (F := fun st M => P g X 2 85 [(0, .ref a0), (1, .int x2_1)] st _ _ M) (M := (K, len, I21, J2, R)) fun I26 h26 => ?_)
          obtain ⟨hs26, hf26, k26_0, k26_1⟩ := h26
          show P g X 2 85 [(0, .ref a0), (1, .int x2_1)] [] _ _ (K, len, I26, J2, R)
          have hF26 : Fr K [(10, 0), (10, 1), (10, 2), (10, 3), (10, 4), (10, 5), (10, 6), (10, 7), (10, 8), (10, 9), (10, 10), (11, 8), (11, 9), (11, 10), (11, 11), (11, 12), (11, 13), (70, 999), (71, 999), (72, 999), (73, 999), (74, 999), (75, 999), (76, 999), (77, 999), (78, 999), (79, 999), (80, 999), (81, 999), (83, 999), (84, 999), (1000, 999)] I I26 := hF21.trans hf26 rfl rfl
          exact r_vret hC hQ hlk hr (by decide) (by decide) dX10_readHill_85 ⟨_, _, rfl, rfl, ⟨hs26, hF26, hFJ2⟩⟩
        · refine r_aload_n hC dX10_readHill_59 0 rfl ?_
          refine r_getr hC 4 (ci := 10) rfl u10_in (by decide) mT_4_239 dX10_readHill_60 ka0 rfl rfl hbr ?_
          refine r_getiN hC 3 (ci := 9) rfl u9_in (by decide) nF_3 dX10_readHill_63 krm rfl rfl (fun x27_ e27 => ?_)
          have r27 := hs21.rng krm rfl e27
          have f27 : x27_.toInt = (I21 rm 3).toInt := by rw [e27]
          refine r_if_eq hC (tgt := 79) dX10_readHill_66 (by decide) (fun c28 => ?_) (fun c28 => ?_)
          · refine r_aload_n hC dX10_readHill_79 0 rfl ?_
            refine r_bipush hC (v := (6)) dX10_readHill_80 (by decide) (by decide) (fun x29_ e29 t29 => ?_)
            refine r_callV hC (As := [.int x29_]) (rest := []) (ci := 10) (c_X10_wrong g (xL X) K len I21 J2 R hs21 a0 ka0 x29_) mT_5_236 mT_1_10 mT_5_233 mT_5_235 mP_55 okX10_wrong ⟨by decide, by decide⟩ rfl (by show kO (K a0) = _; rw [ka0]; rfl) rfl rfl (Nat.le_of_ble_eq_true rfl) ⟨by decide, by decide⟩ dX10_readHill_82 (aV1 (F := fun st M => P g X 2 85 [(0, .ref a0), (1, .int x2_1)] st _ _ M) (M := (K, len, I21, J2, R)) fun I30 h30 => ?_)
            obtain ⟨hs30, hf30, k30_0, k30_1⟩ := h30
            show P g X 2 85 [(0, .ref a0), (1, .int x2_1)] [] _ _ (K, len, I30, J2, R)
            have hF30 : Fr K [(10, 0), (10, 1), (10, 2), (10, 3), (10, 4), (10, 5), (10, 6), (10, 7), (10, 8), (10, 9), (10, 10), (11, 8), (11, 9), (11, 10), (11, 11), (11, 12), (11, 13), (70, 999), (71, 999), (72, 999), (73, 999), (74, 999), (75, 999), (76, 999), (77, 999), (78, 999), (79, 999), (80, 999), (81, 999), (83, 999), (84, 999), (1000, 999)] I I30 := hF21.trans hf30 rfl rfl
            exact r_vret hC hQ hlk hr (by decide) (by decide) dX10_readHill_85 ⟨_, _, rfl, rfl, ⟨hs30, hF30, hFJ2⟩⟩
          · refine r_aload_n hC dX10_readHill_69 0 rfl ?_
            refine r_getr hC 4 (ci := 10) rfl u10_in (by decide) mT_4_239 dX10_readHill_70 ka0 rfl rfl hbr ?_
            refine r_getiN hC 7 (ci := 9) rfl u9_in (by decide) nF_7 dX10_readHill_73 krm rfl rfl (fun x31_ e31 => ?_)
            have r31 := hs21.rng krm rfl e31
            have f31 : x31_.toInt = (I21 rm 7).toInt := by rw [e31]
            refine r_if_ne hC (tgt := 85) dX10_readHill_76 (by decide) (fun c32 => ?_) (fun c32 => ?_)
            · exact r_vret hC hQ hlk hr (by decide) (by decide) dX10_readHill_85 ⟨_, _, rfl, rfl, ⟨hs21, hF21, hFJ2⟩⟩
            · refine r_aload_n hC dX10_readHill_79 0 rfl ?_
              refine r_bipush hC (v := (6)) dX10_readHill_80 (by decide) (by decide) (fun x33_ e33 t33 => ?_)
              refine r_callV hC (As := [.int x33_]) (rest := []) (ci := 10) (c_X10_wrong g (xL X) K len I21 J2 R hs21 a0 ka0 x33_) mT_5_236 mT_1_10 mT_5_233 mT_5_235 mP_55 okX10_wrong ⟨by decide, by decide⟩ rfl (by show kO (K a0) = _; rw [ka0]; rfl) rfl rfl (Nat.le_of_ble_eq_true rfl) ⟨by decide, by decide⟩ dX10_readHill_82 (aV1 (F := fun st M => P g X 2 85 [(0, .ref a0), (1, .int x2_1)] st _ _ M) (M := (K, len, I21, J2, R)) fun I34 h34 => ?_)
              obtain ⟨hs34, hf34, k34_0, k34_1⟩ := h34
              show P g X 2 85 [(0, .ref a0), (1, .int x2_1)] [] _ _ (K, len, I34, J2, R)
              have hF34 : Fr K [(10, 0), (10, 1), (10, 2), (10, 3), (10, 4), (10, 5), (10, 6), (10, 7), (10, 8), (10, 9), (10, 10), (11, 8), (11, 9), (11, 10), (11, 11), (11, 12), (11, 13), (70, 999), (71, 999), (72, 999), (73, 999), (74, 999), (75, 999), (76, 999), (77, 999), (78, 999), (79, 999), (80, 999), (81, 999), (83, 999), (84, 999), (1000, 999)] I I34 := hF21.trans hf34 rfl rfl
              exact r_vret hC hQ hlk hr (by decide) (by decide) dX10_readHill_85 ⟨_, _, rfl, rfl, ⟨hs34, hF34, hFJ2⟩⟩
    · have hat := hs2.rng ka0 (k := 8) rfl (x := I2 a0 8) rfl
      refine r_aload_n hC dX10_readHill_6 0 rfl ?_
      refine r_callV hC (As := []) (rest := []) (ci := 10) (c_X10_readLine g (xL X) K len I2 J2 R hs2 a0 ka0 rm hbr krm (by omega) (by omega)) mT_5_218 mT_1_10 mT_5_215 mT_5_217 mP_52 okX10_readLine ⟨by decide, by decide⟩ rfl (by show kO (K a0) = _; rw [ka0]; rfl) rfl rfl (Nat.le_of_ble_eq_true rfl) ⟨by decide, by decide⟩ dX10_readHill_7 (aV2 (F := fun st M => P g X 2 10 [(0, .ref a0), (1, .int x2_1)] st _ _ M) (M := (K, len, I2, J2, R)) fun I35 J35 h35 => ?_)
      obtain ⟨hs35, hf35, hfj35, k35_0, k35_1, k35_2, k35_3⟩ := h35
      show P g X 2 10 [(0, .ref a0), (1, .int x2_1)] [] _ _ (K, len, I35, J35, R)
      have hF35 : Fr K [(10, 0), (10, 1), (10, 2), (10, 3), (10, 4), (10, 5), (10, 6), (10, 7), (10, 8), (10, 9), (10, 10), (11, 8), (11, 9), (11, 10), (11, 11), (11, 12), (11, 13), (70, 999), (71, 999), (72, 999), (73, 999), (74, 999), (75, 999), (76, 999), (77, 999), (78, 999), (79, 999), (80, 999), (81, 999), (83, 999), (84, 999), (1000, 999)] I I35 := hF2.trans hf35 rfl rfl
      have hFJ35 : Fr K [(11, 14), (82, 999)] J J35 := hFJ2.trans hfj35 rfl rfl
      obtain ⟨zG3, ezG3⟩ : ∃ z : Int32, z = I35 rm 3 := ⟨_, rfl⟩
      have fzG3 : zG3.toInt = (I35 rm 3).toInt := by rw [ezG3]
      have rzG3 := hs35.rng krm rfl ezG3
      obtain ⟨zG4, ezG4⟩ : ∃ z : Int32, z = I35 rm 4 := ⟨_, rfl⟩
      have fzG4 : zG4.toInt = (I35 rm 4).toInt := by rw [ezG4]
      have rzG4 := hs35.rng krm rfl ezG4
      obtain ⟨zG7, ezG7⟩ : ∃ z : Int32, z = I35 rm 7 := ⟨_, rfl⟩
      have fzG7 : zG7.toInt = (I35 rm 7).toInt := by rw [ezG7]
      have rzG7 := hs35.rng krm rfl ezG7
      obtain ⟨zG8, ezG8⟩ : ∃ z : Int32, z = I35 rm 8 := ⟨_, rfl⟩
      have fzG8 : zG8.toInt = (I35 rm 8).toInt := by rw [ezG8]
      have rzG8 := hs35.rng krm rfl ezG8
      obtain ⟨zG9, ezG9⟩ : ∃ z : Int32, z = I35 rm 9 := ⟨_, rfl⟩
      have fzG9 : zG9.toInt = (I35 rm 9).toInt := by rw [ezG9]
      have rzG9 := hs35.rng krm rfl ezG9
      obtain ⟨zGN, ezGN⟩ : ∃ z : Int32, z = I35 rm 10 := ⟨_, rfl⟩
      have fzGN : zGN.toInt = (I35 rm 10).toInt := by rw [ezGN]
      have rzGN := hs35.rng krm rfl ezGN
      have hat2 := hs35.rng ka0 (k := 8) rfl (x := I35 a0 8) rfl
      refine r_aload_n hC dX10_readHill_10 0 rfl ?_
      refine r_geti hC 9 (ci := 10) rfl u10_in (by decide) mT_5_4 dX10_readHill_11 ka0 rfl rfl (fun x36_ e36 => ?_)
      have f36 : x36_.toInt = (I35 a0 9).toInt := by rw [e36]
      refine r_iconst hC (v := (4)) dX10_readHill_14 (by decide) (by decide) (fun x37_ e37 t37 => ?_)
      refine r_icmp_ne hC (tgt := 22) dX10_readHill_15 (by decide) (fun c38 => ?_) (fun c38 => ?_)
      · refine r_iconst hC (v := (0)) dX10_readHill_22 (by decide) (by decide) (fun x39_ e39 t39 => ?_)
        refine r_istore_n hC (lv' := [(1, .int x39_), (0, .ref a0)]) dX10_readHill_23 (by decide) rfl ?_
        refine r_iload_n hC dX10_readHill_24 0 rfl ?_
        refine r_if_eq hC (tgt := 2) dX10_readHill_25 (by decide) (fun c40 => ?_) (fun c40 => ?_)
        rotate_left
        · exfalso; omega
        have hG3 : I35 rm 3 = zG3 := ezG3.symm
        have hG3t : (I35 rm 3).toInt = zG3.toInt := congrArg Int32.toInt hG3
        have hG4 : I35 rm 4 = zG4 := ezG4.symm
        have hG4t : (I35 rm 4).toInt = zG4.toInt := congrArg Int32.toInt hG4
        have hG7 : I35 rm 7 = zG7 := ezG7.symm
        have hG7t : (I35 rm 7).toInt = zG7.toInt := congrArg Int32.toInt hG7
        have hG8 : I35 rm 8 = zG8 := ezG8.symm
        have hG8t : (I35 rm 8).toInt = zG8.toInt := congrArg Int32.toInt hG8
        have hG9 : I35 rm 9 = zG9 := ezG9.symm
        have hG9t : (I35 rm 9).toInt = zG9.toInt := congrArg Int32.toInt hG9
        have hGN : I35 rm 10 = zGN := ezGN.symm
        have hGNt : (I35 rm 10).toInt = zGN.toInt := congrArg Int32.toInt hGN
        refine r_sub [1, 0] rfl ?_
        exact ih2 ((2 * (900 - (I35 a0 8).toInt) + x39_.toInt).toNat) (by omega) x39_ I35 J35 hs35 hF35 hFJ35 (by omega) (by omega) (by first | (left; omega) | (right; omega) | omega) (by omega) rfl
      · refine r_iconst hC (v := (1)) dX10_readHill_18 (by decide) (by decide) (fun x41_ e41 t41 => ?_)
        refine r_goto hC (tgt := 23) dX10_readHill_19 (by decide) ?_
        refine r_istore_n hC (lv' := [(1, .int x41_), (0, .ref a0)]) dX10_readHill_23 (by decide) rfl ?_
        refine r_iload_n hC dX10_readHill_24 0 rfl ?_
        refine r_if_eq hC (tgt := 2) dX10_readHill_25 (by decide) (fun c42 => ?_) (fun c42 => ?_)
        · exfalso; omega
        have hat3 := hs35.rng ka0 (k := 8) rfl (x := I35 a0 8) rfl
        refine r_aload_n hC dX10_readHill_28 1 rfl ?_
        refine r_callV hC (As := []) (rest := []) (ci := 10) (c_X10_goesOn g (xL X) K len I35 J35 R hs35 a0 ka0) mT_5_199 mT_1_10 mT_5_196 mT_5_198 mP_49 okX10_goesOn ⟨by decide, by decide⟩ rfl (by show kO (K a0) = _; rw [ka0]; rfl) rfl rfl (Nat.le_of_ble_eq_true rfl) ⟨by decide, by decide⟩ dX10_readHill_29 (aV2 (F := fun st M => P g X 2 32 [(1, .int x41_), (0, .ref a0)] st _ _ M) (M := (K, len, I35, J35, R)) fun I43 J43 h43 => ?_)
        obtain ⟨hs43, hf43, hfj43, k43_0, k43_1, k43_2, k43_3⟩ := h43
        show P g X 2 32 [(1, .int x41_), (0, .ref a0)] [] _ _ (K, len, I43, J43, R)
        have hF43 : Fr K [(10, 0), (10, 1), (10, 2), (10, 3), (10, 4), (10, 5), (10, 6), (10, 7), (10, 8), (10, 9), (10, 10), (11, 8), (11, 9), (11, 10), (11, 11), (11, 12), (11, 13), (70, 999), (71, 999), (72, 999), (73, 999), (74, 999), (75, 999), (76, 999), (77, 999), (78, 999), (79, 999), (80, 999), (81, 999), (83, 999), (84, 999), (1000, 999)] I I43 := hF35.trans hf43 rfl rfl
        have hFJ43 : Fr K [(11, 14), (82, 999)] J J43 := hFJ35.trans hfj43 rfl rfl
        refine r_goto hC (tgt := 2) dX10_readHill_32 (by decide) ?_
        have hG3 : I43 rm 3 = zG3 := (Eq.trans (hf43.get krm rfl) ezG3.symm)
        have hG3t : (I43 rm 3).toInt = zG3.toInt := congrArg Int32.toInt hG3
        have hG4 : I43 rm 4 = zG4 := (Eq.trans (hf43.get krm rfl) ezG4.symm)
        have hG4t : (I43 rm 4).toInt = zG4.toInt := congrArg Int32.toInt hG4
        have hG7 : I43 rm 7 = zG7 := (Eq.trans (hf43.get krm rfl) ezG7.symm)
        have hG7t : (I43 rm 7).toInt = zG7.toInt := congrArg Int32.toInt hG7
        have hG8 : I43 rm 8 = zG8 := (Eq.trans (hf43.get krm rfl) ezG8.symm)
        have hG8t : (I43 rm 8).toInt = zG8.toInt := congrArg Int32.toInt hG8
        have hG9 : I43 rm 9 = zG9 := (Eq.trans (hf43.get krm rfl) ezG9.symm)
        have hG9t : (I43 rm 9).toInt = zG9.toInt := congrArg Int32.toInt hG9
        have hGN : I43 rm 10 = zGN := (Eq.trans (hf43.get krm rfl) ezGN.symm)
        have hGNt : (I43 rm 10).toInt = zGN.toInt := congrArg Int32.toInt hGN
        refine r_sub [1, 0] rfl ?_
        exact ih2 ((2 * (900 - (I43 a0 8).toInt) + x41_.toInt).toNat) (by omega) x41_ I43 J43 hs43 hF43 hFJ43 (by omega) (by omega) (by first | (left; omega) | (right; omega) | omega) (by omega) rfl
  refine r_sub [1, 0] rfl ?_
  exact LP2 _ x1_ I J hs hF hFJ (by omega) (by omega) (by first | (left; omega) | (right; omega) | omega) (by omega) rfl
