abbrev rmX10_readVillage : Room := { frames := 8, cells := 0, slots := 0, locals := 171 }
abbrev rmX10_readKnower : Room := { frames := 8, cells := 0, slots := 0, locals := 171 }
set_option maxHeartbeats 4000000 in
set_option maxRecDepth 100000 in
theorem c_X10_readVillage (g : GG) (l : Launch) (K len : Nat → Nat) (I : Nat → Nat → Int32) (J : Nat → Nat → Int64) (R : Nat → Nat → Option Nat) (hs : Sf K len I R) (a0 : Nat) (ka0 : K a0 = 11) (rm : Nat) (hbr : R a0 4 = some rm) (krm : K rm = 10) (p0 : (I a0 9).toInt = 2) (p1 : (I rm 10).toInt ≤ (I rm 3).toInt + (I rm 7).toInt + (I rm 8).toInt + (I rm 9).toInt) (p2 : (I rm 4).toInt ≤ 8) : Ct g l yX10_readVillage cX10_readVillage 4 (Option.none : Option Jvm.ClassFile.FieldType) rmX10_readVillage [.ref a0] (K, len, I, J, R) (pV2 (K, len, I, J, R) (fun I' J' => Sf K len I' R ∧ Fr K [(10, 8), (10, 10), (11, 8), (11, 9), (11, 10), (11, 11), (11, 12), (11, 13), (77, 999), (78, 999), (79, 999), (83, 999), (84, 999)] I I' ∧ Fr K [(11, 14), (82, 999)] J J' ∧ ((I' a0 9).toInt = 5 ∨ (I' rm 10).toInt ≤ (I' rm 3).toInt + (I' rm 7).toInt + (I' rm 8).toInt + (I' rm 9).toInt) ∧ ((I' rm 4).toInt ≤ 8) ∧ ((I a0 8).toInt ≤ (I' a0 8).toInt) ∧ ((I' a0 9).toInt = 4 → (I a0 8).toInt < (I' a0 8).toInt))) := by
  refine Ct_intro (by decide +kernel) (Nat.le_of_ble_eq_true rfl) (fun X hC hL hKK hNm hr hlk hQ => ?_)
  subst hL
  have hC : Cx g X cX10_readVillage "HillTapModel" 4 rmX10_readVillage := hC
  show P g X 4 0 [(0, .ref a0)] [] 0 0 (K, len, I, J, R)
  have hF : Fr K [(10, 8), (10, 10), (11, 8), (11, 9), (11, 10), (11, 11), (11, 12), (11, 13), (77, 999), (78, 999), (79, 999), (83, 999), (84, 999)] I I := Fr.refl
  have hFJ : Fr K [(11, 14), (82, 999)] J J := Fr.refl
  obtain ⟨G3, eG3⟩ : ∃ z : Int32, z = I rm 3 := ⟨_, rfl⟩
  have fG3 : G3.toInt = (I rm 3).toInt := by rw [eG3]
  have rG3 := hs.rng krm rfl eG3
  obtain ⟨G4, eG4⟩ : ∃ z : Int32, z = I rm 4 := ⟨_, rfl⟩
  have fG4 : G4.toInt = (I rm 4).toInt := by rw [eG4]
  have rG4 := hs.rng krm rfl eG4
  obtain ⟨G7, eG7⟩ : ∃ z : Int32, z = I rm 7 := ⟨_, rfl⟩
  have fG7 : G7.toInt = (I rm 7).toInt := by rw [eG7]
  have rG7 := hs.rng krm rfl eG7
  obtain ⟨G8, eG8⟩ : ∃ z : Int32, z = I rm 8 := ⟨_, rfl⟩
  have fG8 : G8.toInt = (I rm 8).toInt := by rw [eG8]
  have rG8 := hs.rng krm rfl eG8
  obtain ⟨G9, eG9⟩ : ∃ z : Int32, z = I rm 9 := ⟨_, rfl⟩
  have fG9 : G9.toInt = (I rm 9).toInt := by rw [eG9]
  have rG9 := hs.rng krm rfl eG9
  obtain ⟨GN, eGN⟩ : ∃ z : Int32, z = I rm 10 := ⟨_, rfl⟩
  have fGN : GN.toInt = (I rm 10).toInt := by rw [eGN]
  have rGN := hs.rng krm rfl eGN
  obtain ⟨A0, eA0⟩ : ∃ z : Int32, z = I a0 8 := ⟨_, rfl⟩
  have fA0 : A0.toInt = (I a0 8).toInt := by rw [eA0]
  have rA0 := hs.rng ka0 rfl eA0
  obtain ⟨T0, eT0⟩ : ∃ z : Int32, z = I a0 9 := ⟨_, rfl⟩
  have fT0 : T0.toInt = (I a0 9).toInt := by rw [eT0]
  refine r_aload_n hC dX10_readVillage_0 0 rfl ?_
  refine r_aload_n hC dX10_readVillage_1 0 rfl ?_
  refine r_getr hC 4 (ci := 10) rfl u10_in (by decide) mT_4_239 dX10_readVillage_2 ka0 rfl rfl hbr ?_
  refine r_getiN hC 8 (ci := 9) rfl u9_in (by decide) nF_8 dX10_readVillage_5 krm rfl rfl (fun x1_ e1 => ?_)
  have r1 := hs.rng krm rfl e1
  have f1 : x1_.toInt = (I rm 8).toInt := by rw [e1]
  have w1 : x1_ = G8 := by rw [e1]; exact eG8.symm
  have wt1 : x1_.toInt = G8.toInt := by rw [w1]
  refine r_iconst hC (v := (4)) dX10_readVillage_8 (by decide) (by decide) (fun x2_ e2 t2 => ?_)
  have md3 : (I a0 9).toInt ≠ 5 := by omega
  refine r_callV hC (As := [.int x1_, .int x2_]) (rest := []) (ci := 10) (c_X10_begins g (xL X) K len I J R hs a0 ka0 x1_ x2_) mT_6_19 mT_1_10 mT_6_16 mT_6_18 mP_59 okX10_begins ⟨by decide, by decide⟩ rfl (by show kO (K a0) = _; rw [ka0]; rfl) rfl rfl (Nat.le_of_ble_eq_true rfl) ⟨by decide, by decide⟩ dX10_readVillage_9 (aV2 (F := fun st M => P g X 4 12 [(0, .ref a0)] st _ _ M) (M := (K, len, I, J, R)) fun I4 J4 h4 => ?_)
  obtain ⟨hs4, hf4, hfj4, k4_0, k4_1, k4_2, k4_3⟩ := h4
  show P g X 4 12 [(0, .ref a0)] [] _ _ (K, len, I4, J4, R)
  have hF4 : Fr K [(10, 8), (10, 10), (11, 8), (11, 9), (11, 10), (11, 11), (11, 12), (11, 13), (77, 999), (78, 999), (79, 999), (83, 999), (84, 999)] I I4 := hF.trans hf4 rfl rfl
  have hFJ4 : Fr K [(11, 14), (82, 999)] J J4 := hFJ.trans hfj4 rfl rfl
  by_cases sf4 : (I4 a0 9).toInt = 5
  · clear k4_0 k4_1 k4_3 md3
    refine r_aload_n hC dX10_readVillage_12 0 rfl ?_
    refine r_iconst hC (v := (1)) dX10_readVillage_13 (by decide) (by decide) (fun x5_ e5 t5 => ?_)
    refine r_aload_n hC dX10_readVillage_14 0 rfl ?_
    refine r_getr hC 4 (ci := 10) rfl u10_in (by decide) mT_4_239 dX10_readVillage_15 ka0 rfl rfl hbr ?_
    refine r_getiN hC 8 (ci := 9) rfl u9_in (by decide) nF_8 dX10_readVillage_18 krm rfl rfl (fun x6_ e6 => ?_)
    have r6 := hs4.rng krm rfl e6
    have f6 : x6_.toInt = (I4 rm 8).toInt := by rw [e6]
    have w6 : x6_ = x1_ := by rw [e6]; exact (Eq.trans (hf4.get krm rfl) e1.symm)
    have wt6 : x6_.toInt = x1_.toInt := by rw [w6]
    have qG3 : I4 rm 3 = G3 := (Eq.trans (hf4.get krm rfl) eG3.symm)
    have qG3t : (I4 rm 3).toInt = G3.toInt := congrArg Int32.toInt qG3
    have qG4 : I4 rm 4 = G4 := (Eq.trans (hf4.get krm rfl) eG4.symm)
    have qG4t : (I4 rm 4).toInt = G4.toInt := congrArg Int32.toInt qG4
    have qG7 : I4 rm 7 = G7 := (Eq.trans (hf4.get krm rfl) eG7.symm)
    have qG7t : (I4 rm 7).toInt = G7.toInt := congrArg Int32.toInt qG7
    have qG8 : I4 rm 8 = x6_ := e6.symm
    have qG8t : (I4 rm 8).toInt = x6_.toInt := congrArg Int32.toInt qG8
    have qG9 : I4 rm 9 = G9 := (Eq.trans (hf4.get krm rfl) eG9.symm)
    have qG9t : (I4 rm 9).toInt = G9.toInt := congrArg Int32.toInt qG9
    have qGN : I4 rm 10 = GN := (Eq.trans (hf4.get krm rfl) eGN.symm)
    have qGNt : (I4 rm 10).toInt = GN.toInt := congrArg Int32.toInt qGN
    have md7 : (I4 a0 9).toInt = 5 := by omega
    refine r_callV hC (As := [.int x5_, .int x6_]) (rest := []) (ci := 10) (c_X10_readFresh g (xL X) K len I4 J4 R hs4 a0 ka0 x5_ x6_ rm hbr krm (by first | (left; omega) | (right; omega))) mT_6_23 mT_1_10 mT_6_20 mT_6_22 mP_60 okX10_readFresh ⟨by decide, by decide⟩ rfl (by show kO (K a0) = _; rw [ka0]; rfl) rfl rfl (Nat.le_of_ble_eq_true rfl) ⟨by decide, by decide⟩ dX10_readVillage_21 (aV2 (F := fun st M => P g X 4 24 [(0, .ref a0)] st _ _ M) (M := (K, len, I4, J4, R)) fun I8 J8 h8 => ?_)
    obtain ⟨hs8, hf8, hfj8, k8_0, k8_1, k8_2, k8_3⟩ := h8
    show P g X 4 24 [(0, .ref a0)] [] _ _ (K, len, I8, J8, R)
    have hF8 : Fr K [(10, 8), (10, 10), (11, 8), (11, 9), (11, 10), (11, 11), (11, 12), (11, 13), (77, 999), (78, 999), (79, 999), (83, 999), (84, 999)] I I8 := hF4.trans hf8 rfl rfl
    have hFJ8 : Fr K [(11, 14), (82, 999)] J J8 := hFJ4.trans hfj8 rfl rfl
    have sf8 := k8_0 md7
    clear k8_0 k8_2 md7 sf4
    obtain ⟨N1, eN1⟩ : ∃ z : Int32, z = I8 rm 10 := ⟨_, rfl⟩
    have fN1 : N1.toInt = (I8 rm 10).toInt := by rw [eN1]
    have rN1 := hs8.rng krm rfl eN1
    refine r_aload_n hC dX10_readVillage_24 0 rfl ?_
    refine r_ldcwS hC (i := 55) (by decide) rfl rfl dX10_readVillage_25 ?_
    refine r_iconst hC (v := (0)) dX10_readVillage_28 (by decide) (by decide) (fun x9_ e9 t9 => ?_)
    refine r_sipush hC (v := (999)) dX10_readVillage_29 (by decide) (by decide) (fun x10_ e10 t10 => ?_)
    have md11 : (I8 a0 9).toInt = 5 := by omega
    refine r_callV hC (As := [.ref (g.2.2.1 55), .int x9_, .int x10_]) (rest := []) (ci := 10) (c_X10_readPart g (xL X) K len I8 J8 R hs8 a0 ka0 55 (by decide) x9_ x10_) mT_6_1 mT_1_10 mT_5_238 mT_6_0 mP_56 okX10_readPart ⟨by decide, by decide⟩ rfl (by show kO (K a0) = _; rw [ka0]; rfl) rfl rfl (Nat.le_of_ble_eq_true rfl) ⟨by decide, by decide⟩ dX10_readVillage_32 (aI2 (F := fun st M => P g X 4 35 [(0, .ref a0)] st _ _ M) (M := (K, len, I8, J8, R)) fun x12_ I12 J12 h12 => ?_)
    obtain ⟨hs12, hf12, hfj12, k12_0, k12_1, k12_2, k12_3⟩ := h12
    show P g X 4 35 [(0, .ref a0)] [.int x12_] _ _ (K, len, I12, J12, R)
    have hF12 : Fr K [(10, 8), (10, 10), (11, 8), (11, 9), (11, 10), (11, 11), (11, 12), (11, 13), (77, 999), (78, 999), (79, 999), (83, 999), (84, 999)] I I12 := hF8.trans hf12 rfl rfl
    have hFJ12 : Fr K [(11, 14), (82, 999)] J J12 := hFJ8.trans hfj12 rfl rfl
    have sf12 := k12_0 md11
    clear k12_0 k12_1 k12_3 md11 sf8
    refine r_istore_n hC (lv' := [(1, .int x12_), (0, .ref a0)]) dX10_readVillage_35 (by decide) rfl ?_
    refine r_aload_n hC dX10_readVillage_36 1 rfl ?_
    refine r_ldcwS hC (i := 56) (by decide) rfl rfl dX10_readVillage_37 ?_
    refine r_iconst hC (v := (1)) dX10_readVillage_40 (by decide) (by decide) (fun x13_ e13 t13 => ?_)
    refine r_sipush hC (v := (999)) dX10_readVillage_41 (by decide) (by decide) (fun x14_ e14 t14 => ?_)
    have md15 : (I12 a0 9).toInt = 5 := by omega
    refine r_callV hC (As := [.ref (g.2.2.1 56), .int x13_, .int x14_]) (rest := []) (ci := 10) (c_X10_readPart g (xL X) K len I12 J12 R hs12 a0 ka0 56 (by decide) x13_ x14_) mT_6_1 mT_1_10 mT_5_238 mT_6_0 mP_56 okX10_readPart ⟨by decide, by decide⟩ rfl (by show kO (K a0) = _; rw [ka0]; rfl) rfl rfl (Nat.le_of_ble_eq_true rfl) ⟨by decide, by decide⟩ dX10_readVillage_44 (aI2 (F := fun st M => P g X 4 47 [(1, .int x12_), (0, .ref a0)] st _ _ M) (M := (K, len, I12, J12, R)) fun x16_ I16 J16 h16 => ?_)
    obtain ⟨hs16, hf16, hfj16, k16_0, k16_1, k16_2, k16_3⟩ := h16
    show P g X 4 47 [(1, .int x12_), (0, .ref a0)] [.int x16_] _ _ (K, len, I16, J16, R)
    have hF16 : Fr K [(10, 8), (10, 10), (11, 8), (11, 9), (11, 10), (11, 11), (11, 12), (11, 13), (77, 999), (78, 999), (79, 999), (83, 999), (84, 999)] I I16 := hF12.trans hf16 rfl rfl
    have hFJ16 : Fr K [(11, 14), (82, 999)] J J16 := hFJ12.trans hfj16 rfl rfl
    have sf16 := k16_0 md15
    clear k16_0 k16_1 k16_3 md15 sf12
    refine r_istore_n hC (lv' := [(2, .int x16_), (1, .int x12_), (0, .ref a0)]) dX10_readVillage_47 (by decide) rfl ?_
    refine r_aload_n hC dX10_readVillage_48 2 rfl ?_
    refine r_ldcwS hC (i := 57) (by decide) rfl rfl dX10_readVillage_49 ?_
    refine r_iconst hC (v := (0)) dX10_readVillage_52 (by decide) (by decide) (fun x17_ e17 t17 => ?_)
    refine r_bipush hC (v := (30)) dX10_readVillage_53 (by decide) (by decide) (fun x18_ e18 t18 => ?_)
    have md19 : (I16 a0 9).toInt = 5 := by omega
    refine r_callV hC (As := [.ref (g.2.2.1 57), .int x17_, .int x18_]) (rest := []) (ci := 10) (c_X10_readPart g (xL X) K len I16 J16 R hs16 a0 ka0 57 (by decide) x17_ x18_) mT_6_1 mT_1_10 mT_5_238 mT_6_0 mP_56 okX10_readPart ⟨by decide, by decide⟩ rfl (by show kO (K a0) = _; rw [ka0]; rfl) rfl rfl (Nat.le_of_ble_eq_true rfl) ⟨by decide, by decide⟩ dX10_readVillage_55 (aI2 (F := fun st M => P g X 4 58 [(2, .int x16_), (1, .int x12_), (0, .ref a0)] st _ _ M) (M := (K, len, I16, J16, R)) fun x20_ I20 J20 h20 => ?_)
    obtain ⟨hs20, hf20, hfj20, k20_0, k20_1, k20_2, k20_3⟩ := h20
    show P g X 4 58 [(2, .int x16_), (1, .int x12_), (0, .ref a0)] [.int x20_] _ _ (K, len, I20, J20, R)
    have hF20 : Fr K [(10, 8), (10, 10), (11, 8), (11, 9), (11, 10), (11, 11), (11, 12), (11, 13), (77, 999), (78, 999), (79, 999), (83, 999), (84, 999)] I I20 := hF16.trans hf20 rfl rfl
    have hFJ20 : Fr K [(11, 14), (82, 999)] J J20 := hFJ16.trans hfj20 rfl rfl
    have sf20 := k20_0 md19
    clear k20_0 k20_1 k20_3 md19 sf16
    refine r_istore_n hC (lv' := [(3, .int x20_), (2, .int x16_), (1, .int x12_), (0, .ref a0)]) dX10_readVillage_58 (by decide) rfl ?_
    refine r_aload_n hC dX10_readVillage_59 3 rfl ?_
    obtain ⟨A9, eA9⟩ : ∃ z : Int32, z = I20 a0 8 := ⟨_, rfl⟩
    have fA9 : A9.toInt = (I20 a0 8).toInt := by rw [eA9]
    have rA9 := hs20.rng ka0 rfl eA9
    refine r_geti hC 9 (ci := 10) rfl u10_in (by decide) mT_5_4 dX10_readVillage_60 ka0 rfl rfl (fun x21_ e21 => ?_)
    have f21 : x21_.toInt = (I20 a0 9).toInt := by rw [e21]
    refine r_iconst hC (v := (5)) dX10_readVillage_63 (by decide) (by decide) (fun x22_ e22 t22 => ?_)
    refine r_icmp_ne hC (tgt := 68) dX10_readVillage_64 (by decide) (fun c23 => ?_) (fun c23 => ?_)
    · refine r_aload_n hC dX10_readVillage_68 3 rfl ?_
      refine r_getr hC 4 (ci := 10) rfl u10_in (by decide) mT_4_239 dX10_readVillage_69 ka0 rfl rfl hbr ?_
      obtain ⟨a24_, hb24, hk24, hn24⟩ := hs20.row krm 20 77 4 (by decide) (by decide)
      refine r_getrN hC 20 (ci := 9) rfl u9_in (by decide) nF_20 dX10_readVillage_72 krm rfl rfl hb24 ?_
      refine r_aload_n hC dX10_readVillage_75 3 rfl ?_
      refine r_getr hC 4 (ci := 10) rfl u10_in (by decide) mT_4_239 dX10_readVillage_76 ka0 rfl rfl hbr ?_
      refine r_getiN hC 8 (ci := 9) rfl u9_in (by decide) nF_8 dX10_readVillage_79 krm rfl rfl (fun x25_ e25 => ?_)
      have r25 := hs20.rng krm rfl e25
      have f25 : x25_.toInt = (I20 rm 8).toInt := by rw [e25]
      have w25 : x25_ = x6_ := by rw [e25]; exact (Eq.trans (hf20.get krm rfl) (Eq.trans (hf16.get krm rfl) (Eq.trans (hf12.get krm rfl) (Eq.trans (hf8.get krm rfl) e6.symm))))
      have wt25 : x25_.toInt = x6_.toInt := by rw [w25]
      refine r_iload_n hC dX10_readVillage_82 2 rfl ?_
      refine x_iastore hC hk24 hn24 (by decide) rfl rfl dX10_readVillage_83 (by omega) (by omega) (fun I26 eI26 => ?_)
      have hs26 := hs20.put0 eI26 hk24 (rng_arr (by decide) _) rfl (xF_arr (by decide) _) (by decide)
      have hF26 := hF20.put eI26 hk24 (inS_arr rfl _)
      refine r_aload_n hC dX10_readVillage_84 3 rfl ?_
      refine r_getr hC 4 (ci := 10) rfl u10_in (by decide) mT_4_239 dX10_readVillage_85 ka0 rfl rfl hbr ?_
      obtain ⟨a27_, hb27, hk27, hn27⟩ := hs26.row krm 21 78 4 (by decide) (by decide)
      refine r_getrN hC 21 (ci := 9) rfl u9_in (by decide) nF_21 dX10_readVillage_88 krm rfl rfl hb27 ?_
      refine r_aload_n hC dX10_readVillage_91 3 rfl ?_
      refine r_getr hC 4 (ci := 10) rfl u10_in (by decide) mT_4_239 dX10_readVillage_92 ka0 rfl rfl hbr ?_
      refine r_getiN hC 8 (ci := 9) rfl u9_in (by decide) nF_8 dX10_readVillage_95 krm rfl rfl (fun x28_ e28 => ?_)
      have r28 := hs26.rng krm rfl e28
      have f28 : x28_.toInt = (I26 rm 8).toInt := by rw [e28]
      have w28 : x28_ = x25_ := by rw [e28]; exact (Eq.trans (up2_kk eI26 hk24 krm (by decide)) e25.symm)
      have wt28 : x28_.toInt = x25_.toInt := by rw [w28]
      refine r_iload_n hC dX10_readVillage_98 1 rfl ?_
      refine x_iastore hC hk27 hn27 (by decide) rfl rfl dX10_readVillage_99 (by omega) (by omega) (fun I29 eI29 => ?_)
      have hs29 := hs26.put0 eI29 hk27 (rng_arr (by decide) _) rfl (xF_arr (by decide) _) (by decide)
      have hF29 := hF26.put eI29 hk27 (inS_arr rfl _)
      refine r_aload_n hC dX10_readVillage_100 3 rfl ?_
      refine r_getr hC 4 (ci := 10) rfl u10_in (by decide) mT_4_239 dX10_readVillage_101 ka0 rfl rfl hbr ?_
      obtain ⟨a30_, hb30, hk30, hn30⟩ := hs29.row krm 22 79 4 (by decide) (by decide)
      refine r_getrN hC 22 (ci := 9) rfl u9_in (by decide) nF_22 dX10_readVillage_104 krm rfl rfl hb30 ?_
      refine r_aload_n hC dX10_readVillage_107 3 rfl ?_
      refine r_getr hC 4 (ci := 10) rfl u10_in (by decide) mT_4_239 dX10_readVillage_108 ka0 rfl rfl hbr ?_
      refine r_getiN hC 8 (ci := 9) rfl u9_in (by decide) nF_8 dX10_readVillage_111 krm rfl rfl (fun x31_ e31 => ?_)
      have r31 := hs29.rng krm rfl e31
      have f31 : x31_.toInt = (I29 rm 8).toInt := by rw [e31]
      have w31 : x31_ = x28_ := by rw [e31]; exact (Eq.trans (up2_kk eI29 hk27 krm (by decide)) e28.symm)
      have wt31 : x31_.toInt = x28_.toInt := by rw [w31]
      refine r_iload_n hC dX10_readVillage_114 0 rfl ?_
      refine x_iastore hC hk30 hn30 (by decide) rfl rfl dX10_readVillage_115 (by omega) (by omega) (fun I32 eI32 => ?_)
      have hs32 := hs29.put0 eI32 hk30 (rng_arr (by decide) _) rfl (xF_arr (by decide) _) (by decide)
      have hF32 := hF29.put eI32 hk30 (inS_arr rfl _)
      refine r_aload_n hC dX10_readVillage_116 3 rfl ?_
      refine r_getr hC 4 (ci := 10) rfl u10_in (by decide) mT_4_239 dX10_readVillage_117 ka0 rfl rfl hbr ?_
      refine r_dup hC dX10_readVillage_120 rfl ?_
      refine r_getiN hC 8 (ci := 9) rfl u9_in (by decide) nF_8 dX10_readVillage_121 krm rfl rfl (fun x33_ e33 => ?_)
      have r33 := hs32.rng krm rfl e33
      have f33 : x33_.toInt = (I32 rm 8).toInt := by rw [e33]
      have w33 : x33_ = x31_ := by rw [e33]; exact (Eq.trans (up2_kk eI32 hk30 krm (by decide)) e31.symm)
      have wt33 : x33_.toInt = x31_.toInt := by rw [w33]
      refine r_iconst hC (v := (1)) dX10_readVillage_124 (by decide) (by decide) (fun x34_ e34 t34 => ?_)
      refine r_iadd hC dX10_readVillage_125 (fun x35_ e35 => ?_)
      try have t35 : x35_.toInt = x33_.toInt + x34_.toInt := by rw [e35]; exact ti_add (by omega) (by omega)
      refine r_putiN hC 8 (ci := 9) rfl u9_in tyX9_ok nmX9 (by decide) nF_8 rfl rfl rfl dX10_readVillage_126 krm rfl rfl (fun I36 eI36 => ?_)
      have hs36 := hs32.put1 eI36 krm rfl (by omega) (by omega) rfl rfl (by decide)
      have hF36 := hF32.put eI36 krm rfl
      have hG3 : I36 rm 3 = G3 := (Eq.trans (up2_at (Or.inr (by decide)) eI36) (Eq.trans (up2_kk eI32 hk30 krm (by decide)) (Eq.trans (up2_kk eI29 hk27 krm (by decide)) (Eq.trans (up2_kk eI26 hk24 krm (by decide)) (Eq.trans (hf20.get krm rfl) (Eq.trans (hf16.get krm rfl) (Eq.trans (hf12.get krm rfl) (Eq.trans (hf8.get krm rfl) (Eq.trans (hf4.get krm rfl) eG3.symm)))))))))
      have hG3t : (I36 rm 3).toInt = G3.toInt := congrArg Int32.toInt hG3
      have hG4 : I36 rm 4 = G4 := (Eq.trans (up2_at (Or.inr (by decide)) eI36) (Eq.trans (up2_kk eI32 hk30 krm (by decide)) (Eq.trans (up2_kk eI29 hk27 krm (by decide)) (Eq.trans (up2_kk eI26 hk24 krm (by decide)) (Eq.trans (hf20.get krm rfl) (Eq.trans (hf16.get krm rfl) (Eq.trans (hf12.get krm rfl) (Eq.trans (hf8.get krm rfl) (Eq.trans (hf4.get krm rfl) eG4.symm)))))))))
      have hG4t : (I36 rm 4).toInt = G4.toInt := congrArg Int32.toInt hG4
      have hG7 : I36 rm 7 = G7 := (Eq.trans (up2_at (Or.inr (by decide)) eI36) (Eq.trans (up2_kk eI32 hk30 krm (by decide)) (Eq.trans (up2_kk eI29 hk27 krm (by decide)) (Eq.trans (up2_kk eI26 hk24 krm (by decide)) (Eq.trans (hf20.get krm rfl) (Eq.trans (hf16.get krm rfl) (Eq.trans (hf12.get krm rfl) (Eq.trans (hf8.get krm rfl) (Eq.trans (hf4.get krm rfl) eG7.symm)))))))))
      have hG7t : (I36 rm 7).toInt = G7.toInt := congrArg Int32.toInt hG7
      have hG8 : I36 rm 8 = x35_ := (by rw [eI36]; exact up2_self _ _ _ _)
      have hG8t : (I36 rm 8).toInt = x35_.toInt := congrArg Int32.toInt hG8
      have hG9 : I36 rm 9 = G9 := (Eq.trans (up2_at (Or.inr (by decide)) eI36) (Eq.trans (up2_kk eI32 hk30 krm (by decide)) (Eq.trans (up2_kk eI29 hk27 krm (by decide)) (Eq.trans (up2_kk eI26 hk24 krm (by decide)) (Eq.trans (hf20.get krm rfl) (Eq.trans (hf16.get krm rfl) (Eq.trans (hf12.get krm rfl) (Eq.trans (hf8.get krm rfl) (Eq.trans (hf4.get krm rfl) eG9.symm)))))))))
      have hG9t : (I36 rm 9).toInt = G9.toInt := congrArg Int32.toInt hG9
      have hGN : I36 rm 10 = N1 := (Eq.trans (up2_at (Or.inr (by decide)) eI36) (Eq.trans (up2_kk eI32 hk30 krm (by decide)) (Eq.trans (up2_kk eI29 hk27 krm (by decide)) (Eq.trans (up2_kk eI26 hk24 krm (by decide)) (Eq.trans (hf20.get krm rfl) (Eq.trans (hf16.get krm rfl) (Eq.trans (hf12.get krm rfl) eN1.symm)))))))
      have hGNt : (I36 rm 10).toInt = N1.toInt := congrArg Int32.toInt hGN
      have hv8 : I36 a0 8 = A9 := (Eq.trans (up2_kk eI36 krm ka0 (by decide)) (Eq.trans (up2_kk eI32 hk30 ka0 (by decide)) (Eq.trans (up2_kk eI29 hk27 ka0 (by decide)) (Eq.trans (up2_kk eI26 hk24 ka0 (by decide)) eA9.symm))))
      have hv8t : (I36 a0 8).toInt = A9.toInt := congrArg Int32.toInt hv8
      have hv9 : I36 a0 9 = x21_ := (Eq.trans (up2_kk eI36 krm ka0 (by decide)) (Eq.trans (up2_kk eI32 hk30 ka0 (by decide)) (Eq.trans (up2_kk eI29 hk27 ka0 (by decide)) (Eq.trans (up2_kk eI26 hk24 ka0 (by decide)) e21.symm))))
      have hv9t : (I36 a0 9).toInt = x21_.toInt := congrArg Int32.toInt hv9
      exact r_vret hC hQ hlk hr (by decide) (by decide) dX10_readVillage_129 ⟨_, _, rfl, rfl, ⟨hs36, hF36, hFJ20, (by first | (left; omega) | (right; omega)), (by omega), (by omega), (by omega)⟩⟩
    · have hG3 : I20 rm 3 = G3 := (Eq.trans (hf20.get krm rfl) (Eq.trans (hf16.get krm rfl) (Eq.trans (hf12.get krm rfl) (Eq.trans (hf8.get krm rfl) (Eq.trans (hf4.get krm rfl) eG3.symm)))))
      have hG3t : (I20 rm 3).toInt = G3.toInt := congrArg Int32.toInt hG3
      have hG4 : I20 rm 4 = G4 := (Eq.trans (hf20.get krm rfl) (Eq.trans (hf16.get krm rfl) (Eq.trans (hf12.get krm rfl) (Eq.trans (hf8.get krm rfl) (Eq.trans (hf4.get krm rfl) eG4.symm)))))
      have hG4t : (I20 rm 4).toInt = G4.toInt := congrArg Int32.toInt hG4
      have hG7 : I20 rm 7 = G7 := (Eq.trans (hf20.get krm rfl) (Eq.trans (hf16.get krm rfl) (Eq.trans (hf12.get krm rfl) (Eq.trans (hf8.get krm rfl) (Eq.trans (hf4.get krm rfl) eG7.symm)))))
      have hG7t : (I20 rm 7).toInt = G7.toInt := congrArg Int32.toInt hG7
      have hG8 : I20 rm 8 = x6_ := (Eq.trans (hf20.get krm rfl) (Eq.trans (hf16.get krm rfl) (Eq.trans (hf12.get krm rfl) (Eq.trans (hf8.get krm rfl) e6.symm))))
      have hG8t : (I20 rm 8).toInt = x6_.toInt := congrArg Int32.toInt hG8
      have hG9 : I20 rm 9 = G9 := (Eq.trans (hf20.get krm rfl) (Eq.trans (hf16.get krm rfl) (Eq.trans (hf12.get krm rfl) (Eq.trans (hf8.get krm rfl) (Eq.trans (hf4.get krm rfl) eG9.symm)))))
      have hG9t : (I20 rm 9).toInt = G9.toInt := congrArg Int32.toInt hG9
      have hGN : I20 rm 10 = N1 := (Eq.trans (hf20.get krm rfl) (Eq.trans (hf16.get krm rfl) (Eq.trans (hf12.get krm rfl) eN1.symm)))
      have hGNt : (I20 rm 10).toInt = N1.toInt := congrArg Int32.toInt hGN
      have hv8 : I20 a0 8 = A9 := eA9.symm
      have hv8t : (I20 a0 8).toInt = A9.toInt := congrArg Int32.toInt hv8
      have hv9 : I20 a0 9 = x21_ := e21.symm
      have hv9t : (I20 a0 9).toInt = x21_.toInt := congrArg Int32.toInt hv9
      exact r_vret hC hQ hlk hr (by decide) (by decide) dX10_readVillage_67 ⟨_, _, rfl, rfl, ⟨hs20, hF20, hFJ20, (by first | (left; omega) | (right; omega)), (by omega), (by omega), (by omega)⟩⟩
  · replace k4_1 := mt k4_1 sf4
    clear k4_0 md3
    refine r_aload_n hC dX10_readVillage_12 0 rfl ?_
    refine r_iconst hC (v := (1)) dX10_readVillage_13 (by decide) (by decide) (fun x37_ e37 t37 => ?_)
    refine r_aload_n hC dX10_readVillage_14 0 rfl ?_
    refine r_getr hC 4 (ci := 10) rfl u10_in (by decide) mT_4_239 dX10_readVillage_15 ka0 rfl rfl hbr ?_
    refine r_getiN hC 8 (ci := 9) rfl u9_in (by decide) nF_8 dX10_readVillage_18 krm rfl rfl (fun x38_ e38 => ?_)
    have r38 := hs4.rng krm rfl e38
    have f38 : x38_.toInt = (I4 rm 8).toInt := by rw [e38]
    have w38 : x38_ = x1_ := by rw [e38]; exact (Eq.trans (hf4.get krm rfl) e1.symm)
    have wt38 : x38_.toInt = x1_.toInt := by rw [w38]
    have qG3 : I4 rm 3 = G3 := (Eq.trans (hf4.get krm rfl) eG3.symm)
    have qG3t : (I4 rm 3).toInt = G3.toInt := congrArg Int32.toInt qG3
    have qG4 : I4 rm 4 = G4 := (Eq.trans (hf4.get krm rfl) eG4.symm)
    have qG4t : (I4 rm 4).toInt = G4.toInt := congrArg Int32.toInt qG4
    have qG7 : I4 rm 7 = G7 := (Eq.trans (hf4.get krm rfl) eG7.symm)
    have qG7t : (I4 rm 7).toInt = G7.toInt := congrArg Int32.toInt qG7
    have qG8 : I4 rm 8 = x38_ := e38.symm
    have qG8t : (I4 rm 8).toInt = x38_.toInt := congrArg Int32.toInt qG8
    have qG9 : I4 rm 9 = G9 := (Eq.trans (hf4.get krm rfl) eG9.symm)
    have qG9t : (I4 rm 9).toInt = G9.toInt := congrArg Int32.toInt qG9
    have qGN : I4 rm 10 = GN := (Eq.trans (hf4.get krm rfl) eGN.symm)
    have qGNt : (I4 rm 10).toInt = GN.toInt := congrArg Int32.toInt qGN
    have md39 : (I4 a0 9).toInt ≠ 5 := by omega
    refine r_callV hC (As := [.int x37_, .int x38_]) (rest := []) (ci := 10) (c_X10_readFresh g (xL X) K len I4 J4 R hs4 a0 ka0 x37_ x38_ rm hbr krm (by first | (left; omega) | (right; omega))) mT_6_23 mT_1_10 mT_6_20 mT_6_22 mP_60 okX10_readFresh ⟨by decide, by decide⟩ rfl (by show kO (K a0) = _; rw [ka0]; rfl) rfl rfl (Nat.le_of_ble_eq_true rfl) ⟨by decide, by decide⟩ dX10_readVillage_21 (aV2 (F := fun st M => P g X 4 24 [(0, .ref a0)] st _ _ M) (M := (K, len, I4, J4, R)) fun I40 J40 h40 => ?_)
    obtain ⟨hs40, hf40, hfj40, k40_0, k40_1, k40_2, k40_3⟩ := h40
    show P g X 4 24 [(0, .ref a0)] [] _ _ (K, len, I40, J40, R)
    have hF40 : Fr K [(10, 8), (10, 10), (11, 8), (11, 9), (11, 10), (11, 11), (11, 12), (11, 13), (77, 999), (78, 999), (79, 999), (83, 999), (84, 999)] I I40 := hF4.trans hf40 rfl rfl
    have hFJ40 : Fr K [(11, 14), (82, 999)] J J40 := hFJ4.trans hfj40 rfl rfl
    clear k4_3
    by_cases sf40 : (I40 a0 9).toInt = 5
    · clear k40_0 k40_2 md39 sf4
      obtain ⟨N1, eN1⟩ : ∃ z : Int32, z = I40 rm 10 := ⟨_, rfl⟩
      have fN1 : N1.toInt = (I40 rm 10).toInt := by rw [eN1]
      have rN1 := hs40.rng krm rfl eN1
      refine r_aload_n hC dX10_readVillage_24 0 rfl ?_
      refine r_ldcwS hC (i := 55) (by decide) rfl rfl dX10_readVillage_25 ?_
      refine r_iconst hC (v := (0)) dX10_readVillage_28 (by decide) (by decide) (fun x41_ e41 t41 => ?_)
      refine r_sipush hC (v := (999)) dX10_readVillage_29 (by decide) (by decide) (fun x42_ e42 t42 => ?_)
      have md43 : (I40 a0 9).toInt = 5 := by omega
      refine r_callV hC (As := [.ref (g.2.2.1 55), .int x41_, .int x42_]) (rest := []) (ci := 10) (c_X10_readPart g (xL X) K len I40 J40 R hs40 a0 ka0 55 (by decide) x41_ x42_) mT_6_1 mT_1_10 mT_5_238 mT_6_0 mP_56 okX10_readPart ⟨by decide, by decide⟩ rfl (by show kO (K a0) = _; rw [ka0]; rfl) rfl rfl (Nat.le_of_ble_eq_true rfl) ⟨by decide, by decide⟩ dX10_readVillage_32 (aI2 (F := fun st M => P g X 4 35 [(0, .ref a0)] st _ _ M) (M := (K, len, I40, J40, R)) fun x44_ I44 J44 h44 => ?_)
      obtain ⟨hs44, hf44, hfj44, k44_0, k44_1, k44_2, k44_3⟩ := h44
      show P g X 4 35 [(0, .ref a0)] [.int x44_] _ _ (K, len, I44, J44, R)
      have hF44 : Fr K [(10, 8), (10, 10), (11, 8), (11, 9), (11, 10), (11, 11), (11, 12), (11, 13), (77, 999), (78, 999), (79, 999), (83, 999), (84, 999)] I I44 := hF40.trans hf44 rfl rfl
      have hFJ44 : Fr K [(11, 14), (82, 999)] J J44 := hFJ40.trans hfj44 rfl rfl
      have sf44 := k44_0 md43
      clear k44_0 k44_1 k44_3 md43 sf40
      refine r_istore_n hC (lv' := [(1, .int x44_), (0, .ref a0)]) dX10_readVillage_35 (by decide) rfl ?_
      refine r_aload_n hC dX10_readVillage_36 1 rfl ?_
      refine r_ldcwS hC (i := 56) (by decide) rfl rfl dX10_readVillage_37 ?_
      refine r_iconst hC (v := (1)) dX10_readVillage_40 (by decide) (by decide) (fun x45_ e45 t45 => ?_)
      refine r_sipush hC (v := (999)) dX10_readVillage_41 (by decide) (by decide) (fun x46_ e46 t46 => ?_)
      have md47 : (I44 a0 9).toInt = 5 := by omega
      refine r_callV hC (As := [.ref (g.2.2.1 56), .int x45_, .int x46_]) (rest := []) (ci := 10) (c_X10_readPart g (xL X) K len I44 J44 R hs44 a0 ka0 56 (by decide) x45_ x46_) mT_6_1 mT_1_10 mT_5_238 mT_6_0 mP_56 okX10_readPart ⟨by decide, by decide⟩ rfl (by show kO (K a0) = _; rw [ka0]; rfl) rfl rfl (Nat.le_of_ble_eq_true rfl) ⟨by decide, by decide⟩ dX10_readVillage_44 (aI2 (F := fun st M => P g X 4 47 [(1, .int x44_), (0, .ref a0)] st _ _ M) (M := (K, len, I44, J44, R)) fun x48_ I48 J48 h48 => ?_)
      obtain ⟨hs48, hf48, hfj48, k48_0, k48_1, k48_2, k48_3⟩ := h48
      show P g X 4 47 [(1, .int x44_), (0, .ref a0)] [.int x48_] _ _ (K, len, I48, J48, R)
      have hF48 : Fr K [(10, 8), (10, 10), (11, 8), (11, 9), (11, 10), (11, 11), (11, 12), (11, 13), (77, 999), (78, 999), (79, 999), (83, 999), (84, 999)] I I48 := hF44.trans hf48 rfl rfl
      have hFJ48 : Fr K [(11, 14), (82, 999)] J J48 := hFJ44.trans hfj48 rfl rfl
      have sf48 := k48_0 md47
      clear k48_0 k48_1 k48_3 md47 sf44
      refine r_istore_n hC (lv' := [(2, .int x48_), (1, .int x44_), (0, .ref a0)]) dX10_readVillage_47 (by decide) rfl ?_
      refine r_aload_n hC dX10_readVillage_48 2 rfl ?_
      refine r_ldcwS hC (i := 57) (by decide) rfl rfl dX10_readVillage_49 ?_
      refine r_iconst hC (v := (0)) dX10_readVillage_52 (by decide) (by decide) (fun x49_ e49 t49 => ?_)
      refine r_bipush hC (v := (30)) dX10_readVillage_53 (by decide) (by decide) (fun x50_ e50 t50 => ?_)
      have md51 : (I48 a0 9).toInt = 5 := by omega
      refine r_callV hC (As := [.ref (g.2.2.1 57), .int x49_, .int x50_]) (rest := []) (ci := 10) (c_X10_readPart g (xL X) K len I48 J48 R hs48 a0 ka0 57 (by decide) x49_ x50_) mT_6_1 mT_1_10 mT_5_238 mT_6_0 mP_56 okX10_readPart ⟨by decide, by decide⟩ rfl (by show kO (K a0) = _; rw [ka0]; rfl) rfl rfl (Nat.le_of_ble_eq_true rfl) ⟨by decide, by decide⟩ dX10_readVillage_55 (aI2 (F := fun st M => P g X 4 58 [(2, .int x48_), (1, .int x44_), (0, .ref a0)] st _ _ M) (M := (K, len, I48, J48, R)) fun x52_ I52 J52 h52 => ?_)
      obtain ⟨hs52, hf52, hfj52, k52_0, k52_1, k52_2, k52_3⟩ := h52
      show P g X 4 58 [(2, .int x48_), (1, .int x44_), (0, .ref a0)] [.int x52_] _ _ (K, len, I52, J52, R)
      have hF52 : Fr K [(10, 8), (10, 10), (11, 8), (11, 9), (11, 10), (11, 11), (11, 12), (11, 13), (77, 999), (78, 999), (79, 999), (83, 999), (84, 999)] I I52 := hF48.trans hf52 rfl rfl
      have hFJ52 : Fr K [(11, 14), (82, 999)] J J52 := hFJ48.trans hfj52 rfl rfl
      have sf52 := k52_0 md51
      clear k52_0 k52_1 k52_3 md51 sf48
      refine r_istore_n hC (lv' := [(3, .int x52_), (2, .int x48_), (1, .int x44_), (0, .ref a0)]) dX10_readVillage_58 (by decide) rfl ?_
      refine r_aload_n hC dX10_readVillage_59 3 rfl ?_
      obtain ⟨A9, eA9⟩ : ∃ z : Int32, z = I52 a0 8 := ⟨_, rfl⟩
      have fA9 : A9.toInt = (I52 a0 8).toInt := by rw [eA9]
      have rA9 := hs52.rng ka0 rfl eA9
      refine r_geti hC 9 (ci := 10) rfl u10_in (by decide) mT_5_4 dX10_readVillage_60 ka0 rfl rfl (fun x53_ e53 => ?_)
      have f53 : x53_.toInt = (I52 a0 9).toInt := by rw [e53]
      refine r_iconst hC (v := (5)) dX10_readVillage_63 (by decide) (by decide) (fun x54_ e54 t54 => ?_)
      refine r_icmp_ne hC (tgt := 68) dX10_readVillage_64 (by decide) (fun c55 => ?_) (fun c55 => ?_)
      · refine r_aload_n hC dX10_readVillage_68 3 rfl ?_
        refine r_getr hC 4 (ci := 10) rfl u10_in (by decide) mT_4_239 dX10_readVillage_69 ka0 rfl rfl hbr ?_
        obtain ⟨a56_, hb56, hk56, hn56⟩ := hs52.row krm 20 77 4 (by decide) (by decide)
        refine r_getrN hC 20 (ci := 9) rfl u9_in (by decide) nF_20 dX10_readVillage_72 krm rfl rfl hb56 ?_
        refine r_aload_n hC dX10_readVillage_75 3 rfl ?_
        refine r_getr hC 4 (ci := 10) rfl u10_in (by decide) mT_4_239 dX10_readVillage_76 ka0 rfl rfl hbr ?_
        refine r_getiN hC 8 (ci := 9) rfl u9_in (by decide) nF_8 dX10_readVillage_79 krm rfl rfl (fun x57_ e57 => ?_)
        have r57 := hs52.rng krm rfl e57
        have f57 : x57_.toInt = (I52 rm 8).toInt := by rw [e57]
        have w57 : x57_ = x38_ := by rw [e57]; exact (Eq.trans (hf52.get krm rfl) (Eq.trans (hf48.get krm rfl) (Eq.trans (hf44.get krm rfl) (Eq.trans (hf40.get krm rfl) e38.symm))))
        have wt57 : x57_.toInt = x38_.toInt := by rw [w57]
        refine r_iload_n hC dX10_readVillage_82 2 rfl ?_
        refine x_iastore hC hk56 hn56 (by decide) rfl rfl dX10_readVillage_83 (by omega) (by omega) (fun I58 eI58 => ?_)
        have hs58 := hs52.put0 eI58 hk56 (rng_arr (by decide) _) rfl (xF_arr (by decide) _) (by decide)
        have hF58 := hF52.put eI58 hk56 (inS_arr rfl _)
        refine r_aload_n hC dX10_readVillage_84 3 rfl ?_
        refine r_getr hC 4 (ci := 10) rfl u10_in (by decide) mT_4_239 dX10_readVillage_85 ka0 rfl rfl hbr ?_
        obtain ⟨a59_, hb59, hk59, hn59⟩ := hs58.row krm 21 78 4 (by decide) (by decide)
        refine r_getrN hC 21 (ci := 9) rfl u9_in (by decide) nF_21 dX10_readVillage_88 krm rfl rfl hb59 ?_
        refine r_aload_n hC dX10_readVillage_91 3 rfl ?_
        refine r_getr hC 4 (ci := 10) rfl u10_in (by decide) mT_4_239 dX10_readVillage_92 ka0 rfl rfl hbr ?_
        refine r_getiN hC 8 (ci := 9) rfl u9_in (by decide) nF_8 dX10_readVillage_95 krm rfl rfl (fun x60_ e60 => ?_)
        have r60 := hs58.rng krm rfl e60
        have f60 : x60_.toInt = (I58 rm 8).toInt := by rw [e60]
        have w60 : x60_ = x57_ := by rw [e60]; exact (Eq.trans (up2_kk eI58 hk56 krm (by decide)) e57.symm)
        have wt60 : x60_.toInt = x57_.toInt := by rw [w60]
        refine r_iload_n hC dX10_readVillage_98 1 rfl ?_
        refine x_iastore hC hk59 hn59 (by decide) rfl rfl dX10_readVillage_99 (by omega) (by omega) (fun I61 eI61 => ?_)
        have hs61 := hs58.put0 eI61 hk59 (rng_arr (by decide) _) rfl (xF_arr (by decide) _) (by decide)
        have hF61 := hF58.put eI61 hk59 (inS_arr rfl _)
        refine r_aload_n hC dX10_readVillage_100 3 rfl ?_
        refine r_getr hC 4 (ci := 10) rfl u10_in (by decide) mT_4_239 dX10_readVillage_101 ka0 rfl rfl hbr ?_
        obtain ⟨a62_, hb62, hk62, hn62⟩ := hs61.row krm 22 79 4 (by decide) (by decide)
        refine r_getrN hC 22 (ci := 9) rfl u9_in (by decide) nF_22 dX10_readVillage_104 krm rfl rfl hb62 ?_
        refine r_aload_n hC dX10_readVillage_107 3 rfl ?_
        refine r_getr hC 4 (ci := 10) rfl u10_in (by decide) mT_4_239 dX10_readVillage_108 ka0 rfl rfl hbr ?_
        refine r_getiN hC 8 (ci := 9) rfl u9_in (by decide) nF_8 dX10_readVillage_111 krm rfl rfl (fun x63_ e63 => ?_)
        have r63 := hs61.rng krm rfl e63
        have f63 : x63_.toInt = (I61 rm 8).toInt := by rw [e63]
        have w63 : x63_ = x60_ := by rw [e63]; exact (Eq.trans (up2_kk eI61 hk59 krm (by decide)) e60.symm)
        have wt63 : x63_.toInt = x60_.toInt := by rw [w63]
        refine r_iload_n hC dX10_readVillage_114 0 rfl ?_
        refine x_iastore hC hk62 hn62 (by decide) rfl rfl dX10_readVillage_115 (by omega) (by omega) (fun I64 eI64 => ?_)
        have hs64 := hs61.put0 eI64 hk62 (rng_arr (by decide) _) rfl (xF_arr (by decide) _) (by decide)
        have hF64 := hF61.put eI64 hk62 (inS_arr rfl _)
        refine r_aload_n hC dX10_readVillage_116 3 rfl ?_
        refine r_getr hC 4 (ci := 10) rfl u10_in (by decide) mT_4_239 dX10_readVillage_117 ka0 rfl rfl hbr ?_
        refine r_dup hC dX10_readVillage_120 rfl ?_
        refine r_getiN hC 8 (ci := 9) rfl u9_in (by decide) nF_8 dX10_readVillage_121 krm rfl rfl (fun x65_ e65 => ?_)
        have r65 := hs64.rng krm rfl e65
        have f65 : x65_.toInt = (I64 rm 8).toInt := by rw [e65]
        have w65 : x65_ = x63_ := by rw [e65]; exact (Eq.trans (up2_kk eI64 hk62 krm (by decide)) e63.symm)
        have wt65 : x65_.toInt = x63_.toInt := by rw [w65]
        refine r_iconst hC (v := (1)) dX10_readVillage_124 (by decide) (by decide) (fun x66_ e66 t66 => ?_)
        refine r_iadd hC dX10_readVillage_125 (fun x67_ e67 => ?_)
        try have t67 : x67_.toInt = x65_.toInt + x66_.toInt := by rw [e67]; exact ti_add (by omega) (by omega)
        refine r_putiN hC 8 (ci := 9) rfl u9_in tyX9_ok nmX9 (by decide) nF_8 rfl rfl rfl dX10_readVillage_126 krm rfl rfl (fun I68 eI68 => ?_)
        have hs68 := hs64.put1 eI68 krm rfl (by omega) (by omega) rfl rfl (by decide)
        have hF68 := hF64.put eI68 krm rfl
        have hG3 : I68 rm 3 = G3 := (Eq.trans (up2_at (Or.inr (by decide)) eI68) (Eq.trans (up2_kk eI64 hk62 krm (by decide)) (Eq.trans (up2_kk eI61 hk59 krm (by decide)) (Eq.trans (up2_kk eI58 hk56 krm (by decide)) (Eq.trans (hf52.get krm rfl) (Eq.trans (hf48.get krm rfl) (Eq.trans (hf44.get krm rfl) (Eq.trans (hf40.get krm rfl) (Eq.trans (hf4.get krm rfl) eG3.symm)))))))))
        have hG3t : (I68 rm 3).toInt = G3.toInt := congrArg Int32.toInt hG3
        have hG4 : I68 rm 4 = G4 := (Eq.trans (up2_at (Or.inr (by decide)) eI68) (Eq.trans (up2_kk eI64 hk62 krm (by decide)) (Eq.trans (up2_kk eI61 hk59 krm (by decide)) (Eq.trans (up2_kk eI58 hk56 krm (by decide)) (Eq.trans (hf52.get krm rfl) (Eq.trans (hf48.get krm rfl) (Eq.trans (hf44.get krm rfl) (Eq.trans (hf40.get krm rfl) (Eq.trans (hf4.get krm rfl) eG4.symm)))))))))
        have hG4t : (I68 rm 4).toInt = G4.toInt := congrArg Int32.toInt hG4
        have hG7 : I68 rm 7 = G7 := (Eq.trans (up2_at (Or.inr (by decide)) eI68) (Eq.trans (up2_kk eI64 hk62 krm (by decide)) (Eq.trans (up2_kk eI61 hk59 krm (by decide)) (Eq.trans (up2_kk eI58 hk56 krm (by decide)) (Eq.trans (hf52.get krm rfl) (Eq.trans (hf48.get krm rfl) (Eq.trans (hf44.get krm rfl) (Eq.trans (hf40.get krm rfl) (Eq.trans (hf4.get krm rfl) eG7.symm)))))))))
        have hG7t : (I68 rm 7).toInt = G7.toInt := congrArg Int32.toInt hG7
        have hG8 : I68 rm 8 = x67_ := (by rw [eI68]; exact up2_self _ _ _ _)
        have hG8t : (I68 rm 8).toInt = x67_.toInt := congrArg Int32.toInt hG8
        have hG9 : I68 rm 9 = G9 := (Eq.trans (up2_at (Or.inr (by decide)) eI68) (Eq.trans (up2_kk eI64 hk62 krm (by decide)) (Eq.trans (up2_kk eI61 hk59 krm (by decide)) (Eq.trans (up2_kk eI58 hk56 krm (by decide)) (Eq.trans (hf52.get krm rfl) (Eq.trans (hf48.get krm rfl) (Eq.trans (hf44.get krm rfl) (Eq.trans (hf40.get krm rfl) (Eq.trans (hf4.get krm rfl) eG9.symm)))))))))
        have hG9t : (I68 rm 9).toInt = G9.toInt := congrArg Int32.toInt hG9
        have hGN : I68 rm 10 = N1 := (Eq.trans (up2_at (Or.inr (by decide)) eI68) (Eq.trans (up2_kk eI64 hk62 krm (by decide)) (Eq.trans (up2_kk eI61 hk59 krm (by decide)) (Eq.trans (up2_kk eI58 hk56 krm (by decide)) (Eq.trans (hf52.get krm rfl) (Eq.trans (hf48.get krm rfl) (Eq.trans (hf44.get krm rfl) eN1.symm)))))))
        have hGNt : (I68 rm 10).toInt = N1.toInt := congrArg Int32.toInt hGN
        have hv8 : I68 a0 8 = A9 := (Eq.trans (up2_kk eI68 krm ka0 (by decide)) (Eq.trans (up2_kk eI64 hk62 ka0 (by decide)) (Eq.trans (up2_kk eI61 hk59 ka0 (by decide)) (Eq.trans (up2_kk eI58 hk56 ka0 (by decide)) eA9.symm))))
        have hv8t : (I68 a0 8).toInt = A9.toInt := congrArg Int32.toInt hv8
        have hv9 : I68 a0 9 = x53_ := (Eq.trans (up2_kk eI68 krm ka0 (by decide)) (Eq.trans (up2_kk eI64 hk62 ka0 (by decide)) (Eq.trans (up2_kk eI61 hk59 ka0 (by decide)) (Eq.trans (up2_kk eI58 hk56 ka0 (by decide)) e53.symm))))
        have hv9t : (I68 a0 9).toInt = x53_.toInt := congrArg Int32.toInt hv9
        exact r_vret hC hQ hlk hr (by decide) (by decide) dX10_readVillage_129 ⟨_, _, rfl, rfl, ⟨hs68, hF68, hFJ52, (by first | (left; omega) | (right; omega)), (by omega), (by omega), (by omega)⟩⟩
      · have hG3 : I52 rm 3 = G3 := (Eq.trans (hf52.get krm rfl) (Eq.trans (hf48.get krm rfl) (Eq.trans (hf44.get krm rfl) (Eq.trans (hf40.get krm rfl) (Eq.trans (hf4.get krm rfl) eG3.symm)))))
        have hG3t : (I52 rm 3).toInt = G3.toInt := congrArg Int32.toInt hG3
        have hG4 : I52 rm 4 = G4 := (Eq.trans (hf52.get krm rfl) (Eq.trans (hf48.get krm rfl) (Eq.trans (hf44.get krm rfl) (Eq.trans (hf40.get krm rfl) (Eq.trans (hf4.get krm rfl) eG4.symm)))))
        have hG4t : (I52 rm 4).toInt = G4.toInt := congrArg Int32.toInt hG4
        have hG7 : I52 rm 7 = G7 := (Eq.trans (hf52.get krm rfl) (Eq.trans (hf48.get krm rfl) (Eq.trans (hf44.get krm rfl) (Eq.trans (hf40.get krm rfl) (Eq.trans (hf4.get krm rfl) eG7.symm)))))
        have hG7t : (I52 rm 7).toInt = G7.toInt := congrArg Int32.toInt hG7
        have hG8 : I52 rm 8 = x38_ := (Eq.trans (hf52.get krm rfl) (Eq.trans (hf48.get krm rfl) (Eq.trans (hf44.get krm rfl) (Eq.trans (hf40.get krm rfl) e38.symm))))
        have hG8t : (I52 rm 8).toInt = x38_.toInt := congrArg Int32.toInt hG8
        have hG9 : I52 rm 9 = G9 := (Eq.trans (hf52.get krm rfl) (Eq.trans (hf48.get krm rfl) (Eq.trans (hf44.get krm rfl) (Eq.trans (hf40.get krm rfl) (Eq.trans (hf4.get krm rfl) eG9.symm)))))
        have hG9t : (I52 rm 9).toInt = G9.toInt := congrArg Int32.toInt hG9
        have hGN : I52 rm 10 = N1 := (Eq.trans (hf52.get krm rfl) (Eq.trans (hf48.get krm rfl) (Eq.trans (hf44.get krm rfl) eN1.symm)))
        have hGNt : (I52 rm 10).toInt = N1.toInt := congrArg Int32.toInt hGN
        have hv8 : I52 a0 8 = A9 := eA9.symm
        have hv8t : (I52 a0 8).toInt = A9.toInt := congrArg Int32.toInt hv8
        have hv9 : I52 a0 9 = x53_ := e53.symm
        have hv9t : (I52 a0 9).toInt = x53_.toInt := congrArg Int32.toInt hv9
        exact r_vret hC hQ hlk hr (by decide) (by decide) dX10_readVillage_67 ⟨_, _, rfl, rfl, ⟨hs52, hF52, hFJ52, (by first | (left; omega) | (right; omega)), (by omega), (by omega), (by omega)⟩⟩
    · clear k40_0 md39 sf4
      obtain ⟨N1, eN1⟩ : ∃ z : Int32, z = I40 rm 10 := ⟨_, rfl⟩
      have fN1 : N1.toInt = (I40 rm 10).toInt := by rw [eN1]
      have rN1 := hs40.rng krm rfl eN1
      refine r_aload_n hC dX10_readVillage_24 0 rfl ?_
      refine r_ldcwS hC (i := 55) (by decide) rfl rfl dX10_readVillage_25 ?_
      refine r_iconst hC (v := (0)) dX10_readVillage_28 (by decide) (by decide) (fun x69_ e69 t69 => ?_)
      refine r_sipush hC (v := (999)) dX10_readVillage_29 (by decide) (by decide) (fun x70_ e70 t70 => ?_)
      have md71 : (I40 a0 9).toInt ≠ 5 := by omega
      refine r_callV hC (As := [.ref (g.2.2.1 55), .int x69_, .int x70_]) (rest := []) (ci := 10) (c_X10_readPart g (xL X) K len I40 J40 R hs40 a0 ka0 55 (by decide) x69_ x70_) mT_6_1 mT_1_10 mT_5_238 mT_6_0 mP_56 okX10_readPart ⟨by decide, by decide⟩ rfl (by show kO (K a0) = _; rw [ka0]; rfl) rfl rfl (Nat.le_of_ble_eq_true rfl) ⟨by decide, by decide⟩ dX10_readVillage_32 (aI2 (F := fun st M => P g X 4 35 [(0, .ref a0)] st _ _ M) (M := (K, len, I40, J40, R)) fun x72_ I72 J72 h72 => ?_)
      obtain ⟨hs72, hf72, hfj72, k72_0, k72_1, k72_2, k72_3⟩ := h72
      show P g X 4 35 [(0, .ref a0)] [.int x72_] _ _ (K, len, I72, J72, R)
      have hF72 : Fr K [(10, 8), (10, 10), (11, 8), (11, 9), (11, 10), (11, 11), (11, 12), (11, 13), (77, 999), (78, 999), (79, 999), (83, 999), (84, 999)] I I72 := hF40.trans hf72 rfl rfl
      have hFJ72 : Fr K [(11, 14), (82, 999)] J J72 := hFJ40.trans hfj72 rfl rfl
      clear k40_2
      by_cases sf72 : (I72 a0 9).toInt = 5
      · clear k72_0 k72_1 k72_3 md71 sf40
        refine r_istore_n hC (lv' := [(1, .int x72_), (0, .ref a0)]) dX10_readVillage_35 (by decide) rfl ?_
        refine r_aload_n hC dX10_readVillage_36 1 rfl ?_
        refine r_ldcwS hC (i := 56) (by decide) rfl rfl dX10_readVillage_37 ?_
        refine r_iconst hC (v := (1)) dX10_readVillage_40 (by decide) (by decide) (fun x73_ e73 t73 => ?_)
        refine r_sipush hC (v := (999)) dX10_readVillage_41 (by decide) (by decide) (fun x74_ e74 t74 => ?_)
        have md75 : (I72 a0 9).toInt = 5 := by omega
        refine r_callV hC (As := [.ref (g.2.2.1 56), .int x73_, .int x74_]) (rest := []) (ci := 10) (c_X10_readPart g (xL X) K len I72 J72 R hs72 a0 ka0 56 (by decide) x73_ x74_) mT_6_1 mT_1_10 mT_5_238 mT_6_0 mP_56 okX10_readPart ⟨by decide, by decide⟩ rfl (by show kO (K a0) = _; rw [ka0]; rfl) rfl rfl (Nat.le_of_ble_eq_true rfl) ⟨by decide, by decide⟩ dX10_readVillage_44 (aI2 (F := fun st M => P g X 4 47 [(1, .int x72_), (0, .ref a0)] st _ _ M) (M := (K, len, I72, J72, R)) fun x76_ I76 J76 h76 => ?_)
        obtain ⟨hs76, hf76, hfj76, k76_0, k76_1, k76_2, k76_3⟩ := h76
        show P g X 4 47 [(1, .int x72_), (0, .ref a0)] [.int x76_] _ _ (K, len, I76, J76, R)
        have hF76 : Fr K [(10, 8), (10, 10), (11, 8), (11, 9), (11, 10), (11, 11), (11, 12), (11, 13), (77, 999), (78, 999), (79, 999), (83, 999), (84, 999)] I I76 := hF72.trans hf76 rfl rfl
        have hFJ76 : Fr K [(11, 14), (82, 999)] J J76 := hFJ72.trans hfj76 rfl rfl
        have sf76 := k76_0 md75
        clear k76_0 k76_1 k76_3 md75 sf72
        refine r_istore_n hC (lv' := [(2, .int x76_), (1, .int x72_), (0, .ref a0)]) dX10_readVillage_47 (by decide) rfl ?_
        refine r_aload_n hC dX10_readVillage_48 2 rfl ?_
        refine r_ldcwS hC (i := 57) (by decide) rfl rfl dX10_readVillage_49 ?_
        refine r_iconst hC (v := (0)) dX10_readVillage_52 (by decide) (by decide) (fun x77_ e77 t77 => ?_)
        refine r_bipush hC (v := (30)) dX10_readVillage_53 (by decide) (by decide) (fun x78_ e78 t78 => ?_)
        have md79 : (I76 a0 9).toInt = 5 := by omega
        refine r_callV hC (As := [.ref (g.2.2.1 57), .int x77_, .int x78_]) (rest := []) (ci := 10) (c_X10_readPart g (xL X) K len I76 J76 R hs76 a0 ka0 57 (by decide) x77_ x78_) mT_6_1 mT_1_10 mT_5_238 mT_6_0 mP_56 okX10_readPart ⟨by decide, by decide⟩ rfl (by show kO (K a0) = _; rw [ka0]; rfl) rfl rfl (Nat.le_of_ble_eq_true rfl) ⟨by decide, by decide⟩ dX10_readVillage_55 (aI2 (F := fun st M => P g X 4 58 [(2, .int x76_), (1, .int x72_), (0, .ref a0)] st _ _ M) (M := (K, len, I76, J76, R)) fun x80_ I80 J80 h80 => ?_)
        obtain ⟨hs80, hf80, hfj80, k80_0, k80_1, k80_2, k80_3⟩ := h80
        show P g X 4 58 [(2, .int x76_), (1, .int x72_), (0, .ref a0)] [.int x80_] _ _ (K, len, I80, J80, R)
        have hF80 : Fr K [(10, 8), (10, 10), (11, 8), (11, 9), (11, 10), (11, 11), (11, 12), (11, 13), (77, 999), (78, 999), (79, 999), (83, 999), (84, 999)] I I80 := hF76.trans hf80 rfl rfl
        have hFJ80 : Fr K [(11, 14), (82, 999)] J J80 := hFJ76.trans hfj80 rfl rfl
        have sf80 := k80_0 md79
        clear k80_0 k80_1 k80_3 md79 sf76
        refine r_istore_n hC (lv' := [(3, .int x80_), (2, .int x76_), (1, .int x72_), (0, .ref a0)]) dX10_readVillage_58 (by decide) rfl ?_
        refine r_aload_n hC dX10_readVillage_59 3 rfl ?_
        obtain ⟨A9, eA9⟩ : ∃ z : Int32, z = I80 a0 8 := ⟨_, rfl⟩
        have fA9 : A9.toInt = (I80 a0 8).toInt := by rw [eA9]
        have rA9 := hs80.rng ka0 rfl eA9
        refine r_geti hC 9 (ci := 10) rfl u10_in (by decide) mT_5_4 dX10_readVillage_60 ka0 rfl rfl (fun x81_ e81 => ?_)
        have f81 : x81_.toInt = (I80 a0 9).toInt := by rw [e81]
        refine r_iconst hC (v := (5)) dX10_readVillage_63 (by decide) (by decide) (fun x82_ e82 t82 => ?_)
        refine r_icmp_ne hC (tgt := 68) dX10_readVillage_64 (by decide) (fun c83 => ?_) (fun c83 => ?_)
        · refine r_aload_n hC dX10_readVillage_68 3 rfl ?_
          refine r_getr hC 4 (ci := 10) rfl u10_in (by decide) mT_4_239 dX10_readVillage_69 ka0 rfl rfl hbr ?_
          obtain ⟨a84_, hb84, hk84, hn84⟩ := hs80.row krm 20 77 4 (by decide) (by decide)
          refine r_getrN hC 20 (ci := 9) rfl u9_in (by decide) nF_20 dX10_readVillage_72 krm rfl rfl hb84 ?_
          refine r_aload_n hC dX10_readVillage_75 3 rfl ?_
          refine r_getr hC 4 (ci := 10) rfl u10_in (by decide) mT_4_239 dX10_readVillage_76 ka0 rfl rfl hbr ?_
          refine r_getiN hC 8 (ci := 9) rfl u9_in (by decide) nF_8 dX10_readVillage_79 krm rfl rfl (fun x85_ e85 => ?_)
          have r85 := hs80.rng krm rfl e85
          have f85 : x85_.toInt = (I80 rm 8).toInt := by rw [e85]
          have w85 : x85_ = x38_ := by rw [e85]; exact (Eq.trans (hf80.get krm rfl) (Eq.trans (hf76.get krm rfl) (Eq.trans (hf72.get krm rfl) (Eq.trans (hf40.get krm rfl) e38.symm))))
          have wt85 : x85_.toInt = x38_.toInt := by rw [w85]
          refine r_iload_n hC dX10_readVillage_82 2 rfl ?_
          refine x_iastore hC hk84 hn84 (by decide) rfl rfl dX10_readVillage_83 (by omega) (by omega) (fun I86 eI86 => ?_)
          have hs86 := hs80.put0 eI86 hk84 (rng_arr (by decide) _) rfl (xF_arr (by decide) _) (by decide)
          have hF86 := hF80.put eI86 hk84 (inS_arr rfl _)
          refine r_aload_n hC dX10_readVillage_84 3 rfl ?_
          refine r_getr hC 4 (ci := 10) rfl u10_in (by decide) mT_4_239 dX10_readVillage_85 ka0 rfl rfl hbr ?_
          obtain ⟨a87_, hb87, hk87, hn87⟩ := hs86.row krm 21 78 4 (by decide) (by decide)
          refine r_getrN hC 21 (ci := 9) rfl u9_in (by decide) nF_21 dX10_readVillage_88 krm rfl rfl hb87 ?_
          refine r_aload_n hC dX10_readVillage_91 3 rfl ?_
          refine r_getr hC 4 (ci := 10) rfl u10_in (by decide) mT_4_239 dX10_readVillage_92 ka0 rfl rfl hbr ?_
          refine r_getiN hC 8 (ci := 9) rfl u9_in (by decide) nF_8 dX10_readVillage_95 krm rfl rfl (fun x88_ e88 => ?_)
          have r88 := hs86.rng krm rfl e88
          have f88 : x88_.toInt = (I86 rm 8).toInt := by rw [e88]
          have w88 : x88_ = x85_ := by rw [e88]; exact (Eq.trans (up2_kk eI86 hk84 krm (by decide)) e85.symm)
          have wt88 : x88_.toInt = x85_.toInt := by rw [w88]
          refine r_iload_n hC dX10_readVillage_98 1 rfl ?_
          refine x_iastore hC hk87 hn87 (by decide) rfl rfl dX10_readVillage_99 (by omega) (by omega) (fun I89 eI89 => ?_)
          have hs89 := hs86.put0 eI89 hk87 (rng_arr (by decide) _) rfl (xF_arr (by decide) _) (by decide)
          have hF89 := hF86.put eI89 hk87 (inS_arr rfl _)
          refine r_aload_n hC dX10_readVillage_100 3 rfl ?_
          refine r_getr hC 4 (ci := 10) rfl u10_in (by decide) mT_4_239 dX10_readVillage_101 ka0 rfl rfl hbr ?_
          obtain ⟨a90_, hb90, hk90, hn90⟩ := hs89.row krm 22 79 4 (by decide) (by decide)
          refine r_getrN hC 22 (ci := 9) rfl u9_in (by decide) nF_22 dX10_readVillage_104 krm rfl rfl hb90 ?_
          refine r_aload_n hC dX10_readVillage_107 3 rfl ?_
          refine r_getr hC 4 (ci := 10) rfl u10_in (by decide) mT_4_239 dX10_readVillage_108 ka0 rfl rfl hbr ?_
          refine r_getiN hC 8 (ci := 9) rfl u9_in (by decide) nF_8 dX10_readVillage_111 krm rfl rfl (fun x91_ e91 => ?_)
          have r91 := hs89.rng krm rfl e91
          have f91 : x91_.toInt = (I89 rm 8).toInt := by rw [e91]
          have w91 : x91_ = x88_ := by rw [e91]; exact (Eq.trans (up2_kk eI89 hk87 krm (by decide)) e88.symm)
          have wt91 : x91_.toInt = x88_.toInt := by rw [w91]
          refine r_iload_n hC dX10_readVillage_114 0 rfl ?_
          refine x_iastore hC hk90 hn90 (by decide) rfl rfl dX10_readVillage_115 (by omega) (by omega) (fun I92 eI92 => ?_)
          have hs92 := hs89.put0 eI92 hk90 (rng_arr (by decide) _) rfl (xF_arr (by decide) _) (by decide)
          have hF92 := hF89.put eI92 hk90 (inS_arr rfl _)
          refine r_aload_n hC dX10_readVillage_116 3 rfl ?_
          refine r_getr hC 4 (ci := 10) rfl u10_in (by decide) mT_4_239 dX10_readVillage_117 ka0 rfl rfl hbr ?_
          refine r_dup hC dX10_readVillage_120 rfl ?_
          refine r_getiN hC 8 (ci := 9) rfl u9_in (by decide) nF_8 dX10_readVillage_121 krm rfl rfl (fun x93_ e93 => ?_)
          have r93 := hs92.rng krm rfl e93
          have f93 : x93_.toInt = (I92 rm 8).toInt := by rw [e93]
          have w93 : x93_ = x91_ := by rw [e93]; exact (Eq.trans (up2_kk eI92 hk90 krm (by decide)) e91.symm)
          have wt93 : x93_.toInt = x91_.toInt := by rw [w93]
          refine r_iconst hC (v := (1)) dX10_readVillage_124 (by decide) (by decide) (fun x94_ e94 t94 => ?_)
          refine r_iadd hC dX10_readVillage_125 (fun x95_ e95 => ?_)
          try have t95 : x95_.toInt = x93_.toInt + x94_.toInt := by rw [e95]; exact ti_add (by omega) (by omega)
          refine r_putiN hC 8 (ci := 9) rfl u9_in tyX9_ok nmX9 (by decide) nF_8 rfl rfl rfl dX10_readVillage_126 krm rfl rfl (fun I96 eI96 => ?_)
          have hs96 := hs92.put1 eI96 krm rfl (by omega) (by omega) rfl rfl (by decide)
          have hF96 := hF92.put eI96 krm rfl
          have hG3 : I96 rm 3 = G3 := (Eq.trans (up2_at (Or.inr (by decide)) eI96) (Eq.trans (up2_kk eI92 hk90 krm (by decide)) (Eq.trans (up2_kk eI89 hk87 krm (by decide)) (Eq.trans (up2_kk eI86 hk84 krm (by decide)) (Eq.trans (hf80.get krm rfl) (Eq.trans (hf76.get krm rfl) (Eq.trans (hf72.get krm rfl) (Eq.trans (hf40.get krm rfl) (Eq.trans (hf4.get krm rfl) eG3.symm)))))))))
          have hG3t : (I96 rm 3).toInt = G3.toInt := congrArg Int32.toInt hG3
          have hG4 : I96 rm 4 = G4 := (Eq.trans (up2_at (Or.inr (by decide)) eI96) (Eq.trans (up2_kk eI92 hk90 krm (by decide)) (Eq.trans (up2_kk eI89 hk87 krm (by decide)) (Eq.trans (up2_kk eI86 hk84 krm (by decide)) (Eq.trans (hf80.get krm rfl) (Eq.trans (hf76.get krm rfl) (Eq.trans (hf72.get krm rfl) (Eq.trans (hf40.get krm rfl) (Eq.trans (hf4.get krm rfl) eG4.symm)))))))))
          have hG4t : (I96 rm 4).toInt = G4.toInt := congrArg Int32.toInt hG4
          have hG7 : I96 rm 7 = G7 := (Eq.trans (up2_at (Or.inr (by decide)) eI96) (Eq.trans (up2_kk eI92 hk90 krm (by decide)) (Eq.trans (up2_kk eI89 hk87 krm (by decide)) (Eq.trans (up2_kk eI86 hk84 krm (by decide)) (Eq.trans (hf80.get krm rfl) (Eq.trans (hf76.get krm rfl) (Eq.trans (hf72.get krm rfl) (Eq.trans (hf40.get krm rfl) (Eq.trans (hf4.get krm rfl) eG7.symm)))))))))
          have hG7t : (I96 rm 7).toInt = G7.toInt := congrArg Int32.toInt hG7
          have hG8 : I96 rm 8 = x95_ := (by rw [eI96]; exact up2_self _ _ _ _)
          have hG8t : (I96 rm 8).toInt = x95_.toInt := congrArg Int32.toInt hG8
          have hG9 : I96 rm 9 = G9 := (Eq.trans (up2_at (Or.inr (by decide)) eI96) (Eq.trans (up2_kk eI92 hk90 krm (by decide)) (Eq.trans (up2_kk eI89 hk87 krm (by decide)) (Eq.trans (up2_kk eI86 hk84 krm (by decide)) (Eq.trans (hf80.get krm rfl) (Eq.trans (hf76.get krm rfl) (Eq.trans (hf72.get krm rfl) (Eq.trans (hf40.get krm rfl) (Eq.trans (hf4.get krm rfl) eG9.symm)))))))))
          have hG9t : (I96 rm 9).toInt = G9.toInt := congrArg Int32.toInt hG9
          have hGN : I96 rm 10 = N1 := (Eq.trans (up2_at (Or.inr (by decide)) eI96) (Eq.trans (up2_kk eI92 hk90 krm (by decide)) (Eq.trans (up2_kk eI89 hk87 krm (by decide)) (Eq.trans (up2_kk eI86 hk84 krm (by decide)) (Eq.trans (hf80.get krm rfl) (Eq.trans (hf76.get krm rfl) (Eq.trans (hf72.get krm rfl) eN1.symm)))))))
          have hGNt : (I96 rm 10).toInt = N1.toInt := congrArg Int32.toInt hGN
          have hv8 : I96 a0 8 = A9 := (Eq.trans (up2_kk eI96 krm ka0 (by decide)) (Eq.trans (up2_kk eI92 hk90 ka0 (by decide)) (Eq.trans (up2_kk eI89 hk87 ka0 (by decide)) (Eq.trans (up2_kk eI86 hk84 ka0 (by decide)) eA9.symm))))
          have hv8t : (I96 a0 8).toInt = A9.toInt := congrArg Int32.toInt hv8
          have hv9 : I96 a0 9 = x81_ := (Eq.trans (up2_kk eI96 krm ka0 (by decide)) (Eq.trans (up2_kk eI92 hk90 ka0 (by decide)) (Eq.trans (up2_kk eI89 hk87 ka0 (by decide)) (Eq.trans (up2_kk eI86 hk84 ka0 (by decide)) e81.symm))))
          have hv9t : (I96 a0 9).toInt = x81_.toInt := congrArg Int32.toInt hv9
          exact r_vret hC hQ hlk hr (by decide) (by decide) dX10_readVillage_129 ⟨_, _, rfl, rfl, ⟨hs96, hF96, hFJ80, (by first | (left; omega) | (right; omega)), (by omega), (by omega), (by omega)⟩⟩
        · have hG3 : I80 rm 3 = G3 := (Eq.trans (hf80.get krm rfl) (Eq.trans (hf76.get krm rfl) (Eq.trans (hf72.get krm rfl) (Eq.trans (hf40.get krm rfl) (Eq.trans (hf4.get krm rfl) eG3.symm)))))
          have hG3t : (I80 rm 3).toInt = G3.toInt := congrArg Int32.toInt hG3
          have hG4 : I80 rm 4 = G4 := (Eq.trans (hf80.get krm rfl) (Eq.trans (hf76.get krm rfl) (Eq.trans (hf72.get krm rfl) (Eq.trans (hf40.get krm rfl) (Eq.trans (hf4.get krm rfl) eG4.symm)))))
          have hG4t : (I80 rm 4).toInt = G4.toInt := congrArg Int32.toInt hG4
          have hG7 : I80 rm 7 = G7 := (Eq.trans (hf80.get krm rfl) (Eq.trans (hf76.get krm rfl) (Eq.trans (hf72.get krm rfl) (Eq.trans (hf40.get krm rfl) (Eq.trans (hf4.get krm rfl) eG7.symm)))))
          have hG7t : (I80 rm 7).toInt = G7.toInt := congrArg Int32.toInt hG7
          have hG8 : I80 rm 8 = x38_ := (Eq.trans (hf80.get krm rfl) (Eq.trans (hf76.get krm rfl) (Eq.trans (hf72.get krm rfl) (Eq.trans (hf40.get krm rfl) e38.symm))))
          have hG8t : (I80 rm 8).toInt = x38_.toInt := congrArg Int32.toInt hG8
          have hG9 : I80 rm 9 = G9 := (Eq.trans (hf80.get krm rfl) (Eq.trans (hf76.get krm rfl) (Eq.trans (hf72.get krm rfl) (Eq.trans (hf40.get krm rfl) (Eq.trans (hf4.get krm rfl) eG9.symm)))))
          have hG9t : (I80 rm 9).toInt = G9.toInt := congrArg Int32.toInt hG9
          have hGN : I80 rm 10 = N1 := (Eq.trans (hf80.get krm rfl) (Eq.trans (hf76.get krm rfl) (Eq.trans (hf72.get krm rfl) eN1.symm)))
          have hGNt : (I80 rm 10).toInt = N1.toInt := congrArg Int32.toInt hGN
          have hv8 : I80 a0 8 = A9 := eA9.symm
          have hv8t : (I80 a0 8).toInt = A9.toInt := congrArg Int32.toInt hv8
          have hv9 : I80 a0 9 = x81_ := e81.symm
          have hv9t : (I80 a0 9).toInt = x81_.toInt := congrArg Int32.toInt hv9
          exact r_vret hC hQ hlk hr (by decide) (by decide) dX10_readVillage_67 ⟨_, _, rfl, rfl, ⟨hs80, hF80, hFJ80, (by first | (left; omega) | (right; omega)), (by omega), (by omega), (by omega)⟩⟩
      · replace k72_1 := k72_1 sf72
        clear k72_0 md71 sf40
        refine r_istore_n hC (lv' := [(1, .int x72_), (0, .ref a0)]) dX10_readVillage_35 (by decide) rfl ?_
        refine r_aload_n hC dX10_readVillage_36 1 rfl ?_
        refine r_ldcwS hC (i := 56) (by decide) rfl rfl dX10_readVillage_37 ?_
        refine r_iconst hC (v := (1)) dX10_readVillage_40 (by decide) (by decide) (fun x97_ e97 t97 => ?_)
        refine r_sipush hC (v := (999)) dX10_readVillage_41 (by decide) (by decide) (fun x98_ e98 t98 => ?_)
        have md99 : (I72 a0 9).toInt ≠ 5 := by omega
        refine r_callV hC (As := [.ref (g.2.2.1 56), .int x97_, .int x98_]) (rest := []) (ci := 10) (c_X10_readPart g (xL X) K len I72 J72 R hs72 a0 ka0 56 (by decide) x97_ x98_) mT_6_1 mT_1_10 mT_5_238 mT_6_0 mP_56 okX10_readPart ⟨by decide, by decide⟩ rfl (by show kO (K a0) = _; rw [ka0]; rfl) rfl rfl (Nat.le_of_ble_eq_true rfl) ⟨by decide, by decide⟩ dX10_readVillage_44 (aI2 (F := fun st M => P g X 4 47 [(1, .int x72_), (0, .ref a0)] st _ _ M) (M := (K, len, I72, J72, R)) fun x100_ I100 J100 h100 => ?_)
        obtain ⟨hs100, hf100, hfj100, k100_0, k100_1, k100_2, k100_3⟩ := h100
        show P g X 4 47 [(1, .int x72_), (0, .ref a0)] [.int x100_] _ _ (K, len, I100, J100, R)
        have hF100 : Fr K [(10, 8), (10, 10), (11, 8), (11, 9), (11, 10), (11, 11), (11, 12), (11, 13), (77, 999), (78, 999), (79, 999), (83, 999), (84, 999)] I I100 := hF72.trans hf100 rfl rfl
        have hFJ100 : Fr K [(11, 14), (82, 999)] J J100 := hFJ72.trans hfj100 rfl rfl
        clear k72_3
        by_cases sf100 : (I100 a0 9).toInt = 5
        · clear k100_0 k100_1 k100_3 md99 sf72
          refine r_istore_n hC (lv' := [(2, .int x100_), (1, .int x72_), (0, .ref a0)]) dX10_readVillage_47 (by decide) rfl ?_
          refine r_aload_n hC dX10_readVillage_48 2 rfl ?_
          refine r_ldcwS hC (i := 57) (by decide) rfl rfl dX10_readVillage_49 ?_
          refine r_iconst hC (v := (0)) dX10_readVillage_52 (by decide) (by decide) (fun x101_ e101 t101 => ?_)
          refine r_bipush hC (v := (30)) dX10_readVillage_53 (by decide) (by decide) (fun x102_ e102 t102 => ?_)
          have md103 : (I100 a0 9).toInt = 5 := by omega
          refine r_callV hC (As := [.ref (g.2.2.1 57), .int x101_, .int x102_]) (rest := []) (ci := 10) (c_X10_readPart g (xL X) K len I100 J100 R hs100 a0 ka0 57 (by decide) x101_ x102_) mT_6_1 mT_1_10 mT_5_238 mT_6_0 mP_56 okX10_readPart ⟨by decide, by decide⟩ rfl (by show kO (K a0) = _; rw [ka0]; rfl) rfl rfl (Nat.le_of_ble_eq_true rfl) ⟨by decide, by decide⟩ dX10_readVillage_55 (aI2 (F := fun st M => P g X 4 58 [(2, .int x100_), (1, .int x72_), (0, .ref a0)] st _ _ M) (M := (K, len, I100, J100, R)) fun x104_ I104 J104 h104 => ?_)
          obtain ⟨hs104, hf104, hfj104, k104_0, k104_1, k104_2, k104_3⟩ := h104
          show P g X 4 58 [(2, .int x100_), (1, .int x72_), (0, .ref a0)] [.int x104_] _ _ (K, len, I104, J104, R)
          have hF104 : Fr K [(10, 8), (10, 10), (11, 8), (11, 9), (11, 10), (11, 11), (11, 12), (11, 13), (77, 999), (78, 999), (79, 999), (83, 999), (84, 999)] I I104 := hF100.trans hf104 rfl rfl
          have hFJ104 : Fr K [(11, 14), (82, 999)] J J104 := hFJ100.trans hfj104 rfl rfl
          have sf104 := k104_0 md103
          clear k104_0 k104_1 k104_3 md103 sf100
          refine r_istore_n hC (lv' := [(3, .int x104_), (2, .int x100_), (1, .int x72_), (0, .ref a0)]) dX10_readVillage_58 (by decide) rfl ?_
          refine r_aload_n hC dX10_readVillage_59 3 rfl ?_
          obtain ⟨A9, eA9⟩ : ∃ z : Int32, z = I104 a0 8 := ⟨_, rfl⟩
          have fA9 : A9.toInt = (I104 a0 8).toInt := by rw [eA9]
          have rA9 := hs104.rng ka0 rfl eA9
          refine r_geti hC 9 (ci := 10) rfl u10_in (by decide) mT_5_4 dX10_readVillage_60 ka0 rfl rfl (fun x105_ e105 => ?_)
          have f105 : x105_.toInt = (I104 a0 9).toInt := by rw [e105]
          refine r_iconst hC (v := (5)) dX10_readVillage_63 (by decide) (by decide) (fun x106_ e106 t106 => ?_)
          refine r_icmp_ne hC (tgt := 68) dX10_readVillage_64 (by decide) (fun c107 => ?_) (fun c107 => ?_)
          · refine r_aload_n hC dX10_readVillage_68 3 rfl ?_
            refine r_getr hC 4 (ci := 10) rfl u10_in (by decide) mT_4_239 dX10_readVillage_69 ka0 rfl rfl hbr ?_
            obtain ⟨a108_, hb108, hk108, hn108⟩ := hs104.row krm 20 77 4 (by decide) (by decide)
            refine r_getrN hC 20 (ci := 9) rfl u9_in (by decide) nF_20 dX10_readVillage_72 krm rfl rfl hb108 ?_
            refine r_aload_n hC dX10_readVillage_75 3 rfl ?_
            refine r_getr hC 4 (ci := 10) rfl u10_in (by decide) mT_4_239 dX10_readVillage_76 ka0 rfl rfl hbr ?_
            refine r_getiN hC 8 (ci := 9) rfl u9_in (by decide) nF_8 dX10_readVillage_79 krm rfl rfl (fun x109_ e109 => ?_)
            have r109 := hs104.rng krm rfl e109
            have f109 : x109_.toInt = (I104 rm 8).toInt := by rw [e109]
            have w109 : x109_ = x38_ := by rw [e109]; exact (Eq.trans (hf104.get krm rfl) (Eq.trans (hf100.get krm rfl) (Eq.trans (hf72.get krm rfl) (Eq.trans (hf40.get krm rfl) e38.symm))))
            have wt109 : x109_.toInt = x38_.toInt := by rw [w109]
            refine r_iload_n hC dX10_readVillage_82 2 rfl ?_
            refine x_iastore hC hk108 hn108 (by decide) rfl rfl dX10_readVillage_83 (by omega) (by omega) (fun I110 eI110 => ?_)
            have hs110 := hs104.put0 eI110 hk108 (rng_arr (by decide) _) rfl (xF_arr (by decide) _) (by decide)
            have hF110 := hF104.put eI110 hk108 (inS_arr rfl _)
            refine r_aload_n hC dX10_readVillage_84 3 rfl ?_
            refine r_getr hC 4 (ci := 10) rfl u10_in (by decide) mT_4_239 dX10_readVillage_85 ka0 rfl rfl hbr ?_
            obtain ⟨a111_, hb111, hk111, hn111⟩ := hs110.row krm 21 78 4 (by decide) (by decide)
            refine r_getrN hC 21 (ci := 9) rfl u9_in (by decide) nF_21 dX10_readVillage_88 krm rfl rfl hb111 ?_
            refine r_aload_n hC dX10_readVillage_91 3 rfl ?_
            refine r_getr hC 4 (ci := 10) rfl u10_in (by decide) mT_4_239 dX10_readVillage_92 ka0 rfl rfl hbr ?_
            refine r_getiN hC 8 (ci := 9) rfl u9_in (by decide) nF_8 dX10_readVillage_95 krm rfl rfl (fun x112_ e112 => ?_)
            have r112 := hs110.rng krm rfl e112
            have f112 : x112_.toInt = (I110 rm 8).toInt := by rw [e112]
            have w112 : x112_ = x109_ := by rw [e112]; exact (Eq.trans (up2_kk eI110 hk108 krm (by decide)) e109.symm)
            have wt112 : x112_.toInt = x109_.toInt := by rw [w112]
            refine r_iload_n hC dX10_readVillage_98 1 rfl ?_
            refine x_iastore hC hk111 hn111 (by decide) rfl rfl dX10_readVillage_99 (by omega) (by omega) (fun I113 eI113 => ?_)
            have hs113 := hs110.put0 eI113 hk111 (rng_arr (by decide) _) rfl (xF_arr (by decide) _) (by decide)
            have hF113 := hF110.put eI113 hk111 (inS_arr rfl _)
            refine r_aload_n hC dX10_readVillage_100 3 rfl ?_
            refine r_getr hC 4 (ci := 10) rfl u10_in (by decide) mT_4_239 dX10_readVillage_101 ka0 rfl rfl hbr ?_
            obtain ⟨a114_, hb114, hk114, hn114⟩ := hs113.row krm 22 79 4 (by decide) (by decide)
            refine r_getrN hC 22 (ci := 9) rfl u9_in (by decide) nF_22 dX10_readVillage_104 krm rfl rfl hb114 ?_
            refine r_aload_n hC dX10_readVillage_107 3 rfl ?_
            refine r_getr hC 4 (ci := 10) rfl u10_in (by decide) mT_4_239 dX10_readVillage_108 ka0 rfl rfl hbr ?_
            refine r_getiN hC 8 (ci := 9) rfl u9_in (by decide) nF_8 dX10_readVillage_111 krm rfl rfl (fun x115_ e115 => ?_)
            have r115 := hs113.rng krm rfl e115
            have f115 : x115_.toInt = (I113 rm 8).toInt := by rw [e115]
            have w115 : x115_ = x112_ := by rw [e115]; exact (Eq.trans (up2_kk eI113 hk111 krm (by decide)) e112.symm)
            have wt115 : x115_.toInt = x112_.toInt := by rw [w115]
            refine r_iload_n hC dX10_readVillage_114 0 rfl ?_
            refine x_iastore hC hk114 hn114 (by decide) rfl rfl dX10_readVillage_115 (by omega) (by omega) (fun I116 eI116 => ?_)
            have hs116 := hs113.put0 eI116 hk114 (rng_arr (by decide) _) rfl (xF_arr (by decide) _) (by decide)
            have hF116 := hF113.put eI116 hk114 (inS_arr rfl _)
            refine r_aload_n hC dX10_readVillage_116 3 rfl ?_
            refine r_getr hC 4 (ci := 10) rfl u10_in (by decide) mT_4_239 dX10_readVillage_117 ka0 rfl rfl hbr ?_
            refine r_dup hC dX10_readVillage_120 rfl ?_
            refine r_getiN hC 8 (ci := 9) rfl u9_in (by decide) nF_8 dX10_readVillage_121 krm rfl rfl (fun x117_ e117 => ?_)
            have r117 := hs116.rng krm rfl e117
            have f117 : x117_.toInt = (I116 rm 8).toInt := by rw [e117]
            have w117 : x117_ = x115_ := by rw [e117]; exact (Eq.trans (up2_kk eI116 hk114 krm (by decide)) e115.symm)
            have wt117 : x117_.toInt = x115_.toInt := by rw [w117]
            refine r_iconst hC (v := (1)) dX10_readVillage_124 (by decide) (by decide) (fun x118_ e118 t118 => ?_)
            refine r_iadd hC dX10_readVillage_125 (fun x119_ e119 => ?_)
            try have t119 : x119_.toInt = x117_.toInt + x118_.toInt := by rw [e119]; exact ti_add (by omega) (by omega)
            refine r_putiN hC 8 (ci := 9) rfl u9_in tyX9_ok nmX9 (by decide) nF_8 rfl rfl rfl dX10_readVillage_126 krm rfl rfl (fun I120 eI120 => ?_)
            have hs120 := hs116.put1 eI120 krm rfl (by omega) (by omega) rfl rfl (by decide)
            have hF120 := hF116.put eI120 krm rfl
            have hG3 : I120 rm 3 = G3 := (Eq.trans (up2_at (Or.inr (by decide)) eI120) (Eq.trans (up2_kk eI116 hk114 krm (by decide)) (Eq.trans (up2_kk eI113 hk111 krm (by decide)) (Eq.trans (up2_kk eI110 hk108 krm (by decide)) (Eq.trans (hf104.get krm rfl) (Eq.trans (hf100.get krm rfl) (Eq.trans (hf72.get krm rfl) (Eq.trans (hf40.get krm rfl) (Eq.trans (hf4.get krm rfl) eG3.symm)))))))))
            have hG3t : (I120 rm 3).toInt = G3.toInt := congrArg Int32.toInt hG3
            have hG4 : I120 rm 4 = G4 := (Eq.trans (up2_at (Or.inr (by decide)) eI120) (Eq.trans (up2_kk eI116 hk114 krm (by decide)) (Eq.trans (up2_kk eI113 hk111 krm (by decide)) (Eq.trans (up2_kk eI110 hk108 krm (by decide)) (Eq.trans (hf104.get krm rfl) (Eq.trans (hf100.get krm rfl) (Eq.trans (hf72.get krm rfl) (Eq.trans (hf40.get krm rfl) (Eq.trans (hf4.get krm rfl) eG4.symm)))))))))
            have hG4t : (I120 rm 4).toInt = G4.toInt := congrArg Int32.toInt hG4
            have hG7 : I120 rm 7 = G7 := (Eq.trans (up2_at (Or.inr (by decide)) eI120) (Eq.trans (up2_kk eI116 hk114 krm (by decide)) (Eq.trans (up2_kk eI113 hk111 krm (by decide)) (Eq.trans (up2_kk eI110 hk108 krm (by decide)) (Eq.trans (hf104.get krm rfl) (Eq.trans (hf100.get krm rfl) (Eq.trans (hf72.get krm rfl) (Eq.trans (hf40.get krm rfl) (Eq.trans (hf4.get krm rfl) eG7.symm)))))))))
            have hG7t : (I120 rm 7).toInt = G7.toInt := congrArg Int32.toInt hG7
            have hG8 : I120 rm 8 = x119_ := (by rw [eI120]; exact up2_self _ _ _ _)
            have hG8t : (I120 rm 8).toInt = x119_.toInt := congrArg Int32.toInt hG8
            have hG9 : I120 rm 9 = G9 := (Eq.trans (up2_at (Or.inr (by decide)) eI120) (Eq.trans (up2_kk eI116 hk114 krm (by decide)) (Eq.trans (up2_kk eI113 hk111 krm (by decide)) (Eq.trans (up2_kk eI110 hk108 krm (by decide)) (Eq.trans (hf104.get krm rfl) (Eq.trans (hf100.get krm rfl) (Eq.trans (hf72.get krm rfl) (Eq.trans (hf40.get krm rfl) (Eq.trans (hf4.get krm rfl) eG9.symm)))))))))
            have hG9t : (I120 rm 9).toInt = G9.toInt := congrArg Int32.toInt hG9
            have hGN : I120 rm 10 = N1 := (Eq.trans (up2_at (Or.inr (by decide)) eI120) (Eq.trans (up2_kk eI116 hk114 krm (by decide)) (Eq.trans (up2_kk eI113 hk111 krm (by decide)) (Eq.trans (up2_kk eI110 hk108 krm (by decide)) (Eq.trans (hf104.get krm rfl) (Eq.trans (hf100.get krm rfl) (Eq.trans (hf72.get krm rfl) eN1.symm)))))))
            have hGNt : (I120 rm 10).toInt = N1.toInt := congrArg Int32.toInt hGN
            have hv8 : I120 a0 8 = A9 := (Eq.trans (up2_kk eI120 krm ka0 (by decide)) (Eq.trans (up2_kk eI116 hk114 ka0 (by decide)) (Eq.trans (up2_kk eI113 hk111 ka0 (by decide)) (Eq.trans (up2_kk eI110 hk108 ka0 (by decide)) eA9.symm))))
            have hv8t : (I120 a0 8).toInt = A9.toInt := congrArg Int32.toInt hv8
            have hv9 : I120 a0 9 = x105_ := (Eq.trans (up2_kk eI120 krm ka0 (by decide)) (Eq.trans (up2_kk eI116 hk114 ka0 (by decide)) (Eq.trans (up2_kk eI113 hk111 ka0 (by decide)) (Eq.trans (up2_kk eI110 hk108 ka0 (by decide)) e105.symm))))
            have hv9t : (I120 a0 9).toInt = x105_.toInt := congrArg Int32.toInt hv9
            exact r_vret hC hQ hlk hr (by decide) (by decide) dX10_readVillage_129 ⟨_, _, rfl, rfl, ⟨hs120, hF120, hFJ104, (by first | (left; omega) | (right; omega)), (by omega), (by omega), (by omega)⟩⟩
          · have hG3 : I104 rm 3 = G3 := (Eq.trans (hf104.get krm rfl) (Eq.trans (hf100.get krm rfl) (Eq.trans (hf72.get krm rfl) (Eq.trans (hf40.get krm rfl) (Eq.trans (hf4.get krm rfl) eG3.symm)))))
            have hG3t : (I104 rm 3).toInt = G3.toInt := congrArg Int32.toInt hG3
            have hG4 : I104 rm 4 = G4 := (Eq.trans (hf104.get krm rfl) (Eq.trans (hf100.get krm rfl) (Eq.trans (hf72.get krm rfl) (Eq.trans (hf40.get krm rfl) (Eq.trans (hf4.get krm rfl) eG4.symm)))))
            have hG4t : (I104 rm 4).toInt = G4.toInt := congrArg Int32.toInt hG4
            have hG7 : I104 rm 7 = G7 := (Eq.trans (hf104.get krm rfl) (Eq.trans (hf100.get krm rfl) (Eq.trans (hf72.get krm rfl) (Eq.trans (hf40.get krm rfl) (Eq.trans (hf4.get krm rfl) eG7.symm)))))
            have hG7t : (I104 rm 7).toInt = G7.toInt := congrArg Int32.toInt hG7
            have hG8 : I104 rm 8 = x38_ := (Eq.trans (hf104.get krm rfl) (Eq.trans (hf100.get krm rfl) (Eq.trans (hf72.get krm rfl) (Eq.trans (hf40.get krm rfl) e38.symm))))
            have hG8t : (I104 rm 8).toInt = x38_.toInt := congrArg Int32.toInt hG8
            have hG9 : I104 rm 9 = G9 := (Eq.trans (hf104.get krm rfl) (Eq.trans (hf100.get krm rfl) (Eq.trans (hf72.get krm rfl) (Eq.trans (hf40.get krm rfl) (Eq.trans (hf4.get krm rfl) eG9.symm)))))
            have hG9t : (I104 rm 9).toInt = G9.toInt := congrArg Int32.toInt hG9
            have hGN : I104 rm 10 = N1 := (Eq.trans (hf104.get krm rfl) (Eq.trans (hf100.get krm rfl) (Eq.trans (hf72.get krm rfl) eN1.symm)))
            have hGNt : (I104 rm 10).toInt = N1.toInt := congrArg Int32.toInt hGN
            have hv8 : I104 a0 8 = A9 := eA9.symm
            have hv8t : (I104 a0 8).toInt = A9.toInt := congrArg Int32.toInt hv8
            have hv9 : I104 a0 9 = x105_ := e105.symm
            have hv9t : (I104 a0 9).toInt = x105_.toInt := congrArg Int32.toInt hv9
            exact r_vret hC hQ hlk hr (by decide) (by decide) dX10_readVillage_67 ⟨_, _, rfl, rfl, ⟨hs104, hF104, hFJ104, (by first | (left; omega) | (right; omega)), (by omega), (by omega), (by omega)⟩⟩
        · replace k100_1 := k100_1 sf100
          clear k100_0 md99 sf72
          refine r_istore_n hC (lv' := [(2, .int x100_), (1, .int x72_), (0, .ref a0)]) dX10_readVillage_47 (by decide) rfl ?_
          refine r_aload_n hC dX10_readVillage_48 2 rfl ?_
          refine r_ldcwS hC (i := 57) (by decide) rfl rfl dX10_readVillage_49 ?_
          refine r_iconst hC (v := (0)) dX10_readVillage_52 (by decide) (by decide) (fun x121_ e121 t121 => ?_)
          refine r_bipush hC (v := (30)) dX10_readVillage_53 (by decide) (by decide) (fun x122_ e122 t122 => ?_)
          have md123 : (I100 a0 9).toInt ≠ 5 := by omega
          refine r_callV hC (As := [.ref (g.2.2.1 57), .int x121_, .int x122_]) (rest := []) (ci := 10) (c_X10_readPart g (xL X) K len I100 J100 R hs100 a0 ka0 57 (by decide) x121_ x122_) mT_6_1 mT_1_10 mT_5_238 mT_6_0 mP_56 okX10_readPart ⟨by decide, by decide⟩ rfl (by show kO (K a0) = _; rw [ka0]; rfl) rfl rfl (Nat.le_of_ble_eq_true rfl) ⟨by decide, by decide⟩ dX10_readVillage_55 (aI2 (F := fun st M => P g X 4 58 [(2, .int x100_), (1, .int x72_), (0, .ref a0)] st _ _ M) (M := (K, len, I100, J100, R)) fun x124_ I124 J124 h124 => ?_)
          obtain ⟨hs124, hf124, hfj124, k124_0, k124_1, k124_2, k124_3⟩ := h124
          show P g X 4 58 [(2, .int x100_), (1, .int x72_), (0, .ref a0)] [.int x124_] _ _ (K, len, I124, J124, R)
          have hF124 : Fr K [(10, 8), (10, 10), (11, 8), (11, 9), (11, 10), (11, 11), (11, 12), (11, 13), (77, 999), (78, 999), (79, 999), (83, 999), (84, 999)] I I124 := hF100.trans hf124 rfl rfl
          have hFJ124 : Fr K [(11, 14), (82, 999)] J J124 := hFJ100.trans hfj124 rfl rfl
          clear k100_3
          by_cases sf124 : (I124 a0 9).toInt = 5
          · clear k124_0 k124_1 k124_3 md123 sf100
            refine r_istore_n hC (lv' := [(3, .int x124_), (2, .int x100_), (1, .int x72_), (0, .ref a0)]) dX10_readVillage_58 (by decide) rfl ?_
            refine r_aload_n hC dX10_readVillage_59 3 rfl ?_
            obtain ⟨A9, eA9⟩ : ∃ z : Int32, z = I124 a0 8 := ⟨_, rfl⟩
            have fA9 : A9.toInt = (I124 a0 8).toInt := by rw [eA9]
            have rA9 := hs124.rng ka0 rfl eA9
            refine r_geti hC 9 (ci := 10) rfl u10_in (by decide) mT_5_4 dX10_readVillage_60 ka0 rfl rfl (fun x125_ e125 => ?_)
            have f125 : x125_.toInt = (I124 a0 9).toInt := by rw [e125]
            refine r_iconst hC (v := (5)) dX10_readVillage_63 (by decide) (by decide) (fun x126_ e126 t126 => ?_)
            refine r_icmp_ne hC (tgt := 68) dX10_readVillage_64 (by decide) (fun c127 => ?_) (fun c127 => ?_)
            · refine r_aload_n hC dX10_readVillage_68 3 rfl ?_
              refine r_getr hC 4 (ci := 10) rfl u10_in (by decide) mT_4_239 dX10_readVillage_69 ka0 rfl rfl hbr ?_
              obtain ⟨a128_, hb128, hk128, hn128⟩ := hs124.row krm 20 77 4 (by decide) (by decide)
              refine r_getrN hC 20 (ci := 9) rfl u9_in (by decide) nF_20 dX10_readVillage_72 krm rfl rfl hb128 ?_
              refine r_aload_n hC dX10_readVillage_75 3 rfl ?_
              refine r_getr hC 4 (ci := 10) rfl u10_in (by decide) mT_4_239 dX10_readVillage_76 ka0 rfl rfl hbr ?_
              refine r_getiN hC 8 (ci := 9) rfl u9_in (by decide) nF_8 dX10_readVillage_79 krm rfl rfl (fun x129_ e129 => ?_)
              have r129 := hs124.rng krm rfl e129
              have f129 : x129_.toInt = (I124 rm 8).toInt := by rw [e129]
              have w129 : x129_ = x38_ := by rw [e129]; exact (Eq.trans (hf124.get krm rfl) (Eq.trans (hf100.get krm rfl) (Eq.trans (hf72.get krm rfl) (Eq.trans (hf40.get krm rfl) e38.symm))))
              have wt129 : x129_.toInt = x38_.toInt := by rw [w129]
              refine r_iload_n hC dX10_readVillage_82 2 rfl ?_
              refine x_iastore hC hk128 hn128 (by decide) rfl rfl dX10_readVillage_83 (by omega) (by omega) (fun I130 eI130 => ?_)
              have hs130 := hs124.put0 eI130 hk128 (rng_arr (by decide) _) rfl (xF_arr (by decide) _) (by decide)
              have hF130 := hF124.put eI130 hk128 (inS_arr rfl _)
              refine r_aload_n hC dX10_readVillage_84 3 rfl ?_
              refine r_getr hC 4 (ci := 10) rfl u10_in (by decide) mT_4_239 dX10_readVillage_85 ka0 rfl rfl hbr ?_
              obtain ⟨a131_, hb131, hk131, hn131⟩ := hs130.row krm 21 78 4 (by decide) (by decide)
              refine r_getrN hC 21 (ci := 9) rfl u9_in (by decide) nF_21 dX10_readVillage_88 krm rfl rfl hb131 ?_
              refine r_aload_n hC dX10_readVillage_91 3 rfl ?_
              refine r_getr hC 4 (ci := 10) rfl u10_in (by decide) mT_4_239 dX10_readVillage_92 ka0 rfl rfl hbr ?_
              refine r_getiN hC 8 (ci := 9) rfl u9_in (by decide) nF_8 dX10_readVillage_95 krm rfl rfl (fun x132_ e132 => ?_)
              have r132 := hs130.rng krm rfl e132
              have f132 : x132_.toInt = (I130 rm 8).toInt := by rw [e132]
              have w132 : x132_ = x129_ := by rw [e132]; exact (Eq.trans (up2_kk eI130 hk128 krm (by decide)) e129.symm)
              have wt132 : x132_.toInt = x129_.toInt := by rw [w132]
              refine r_iload_n hC dX10_readVillage_98 1 rfl ?_
              refine x_iastore hC hk131 hn131 (by decide) rfl rfl dX10_readVillage_99 (by omega) (by omega) (fun I133 eI133 => ?_)
              have hs133 := hs130.put0 eI133 hk131 (rng_arr (by decide) _) rfl (xF_arr (by decide) _) (by decide)
              have hF133 := hF130.put eI133 hk131 (inS_arr rfl _)
              refine r_aload_n hC dX10_readVillage_100 3 rfl ?_
              refine r_getr hC 4 (ci := 10) rfl u10_in (by decide) mT_4_239 dX10_readVillage_101 ka0 rfl rfl hbr ?_
              obtain ⟨a134_, hb134, hk134, hn134⟩ := hs133.row krm 22 79 4 (by decide) (by decide)
              refine r_getrN hC 22 (ci := 9) rfl u9_in (by decide) nF_22 dX10_readVillage_104 krm rfl rfl hb134 ?_
              refine r_aload_n hC dX10_readVillage_107 3 rfl ?_
              refine r_getr hC 4 (ci := 10) rfl u10_in (by decide) mT_4_239 dX10_readVillage_108 ka0 rfl rfl hbr ?_
              refine r_getiN hC 8 (ci := 9) rfl u9_in (by decide) nF_8 dX10_readVillage_111 krm rfl rfl (fun x135_ e135 => ?_)
              have r135 := hs133.rng krm rfl e135
              have f135 : x135_.toInt = (I133 rm 8).toInt := by rw [e135]
              have w135 : x135_ = x132_ := by rw [e135]; exact (Eq.trans (up2_kk eI133 hk131 krm (by decide)) e132.symm)
              have wt135 : x135_.toInt = x132_.toInt := by rw [w135]
              refine r_iload_n hC dX10_readVillage_114 0 rfl ?_
              refine x_iastore hC hk134 hn134 (by decide) rfl rfl dX10_readVillage_115 (by omega) (by omega) (fun I136 eI136 => ?_)
              have hs136 := hs133.put0 eI136 hk134 (rng_arr (by decide) _) rfl (xF_arr (by decide) _) (by decide)
              have hF136 := hF133.put eI136 hk134 (inS_arr rfl _)
              refine r_aload_n hC dX10_readVillage_116 3 rfl ?_
              refine r_getr hC 4 (ci := 10) rfl u10_in (by decide) mT_4_239 dX10_readVillage_117 ka0 rfl rfl hbr ?_
              refine r_dup hC dX10_readVillage_120 rfl ?_
              refine r_getiN hC 8 (ci := 9) rfl u9_in (by decide) nF_8 dX10_readVillage_121 krm rfl rfl (fun x137_ e137 => ?_)
              have r137 := hs136.rng krm rfl e137
              have f137 : x137_.toInt = (I136 rm 8).toInt := by rw [e137]
              have w137 : x137_ = x135_ := by rw [e137]; exact (Eq.trans (up2_kk eI136 hk134 krm (by decide)) e135.symm)
              have wt137 : x137_.toInt = x135_.toInt := by rw [w137]
              refine r_iconst hC (v := (1)) dX10_readVillage_124 (by decide) (by decide) (fun x138_ e138 t138 => ?_)
              refine r_iadd hC dX10_readVillage_125 (fun x139_ e139 => ?_)
              try have t139 : x139_.toInt = x137_.toInt + x138_.toInt := by rw [e139]; exact ti_add (by omega) (by omega)
              refine r_putiN hC 8 (ci := 9) rfl u9_in tyX9_ok nmX9 (by decide) nF_8 rfl rfl rfl dX10_readVillage_126 krm rfl rfl (fun I140 eI140 => ?_)
              have hs140 := hs136.put1 eI140 krm rfl (by omega) (by omega) rfl rfl (by decide)
              have hF140 := hF136.put eI140 krm rfl
              have hG3 : I140 rm 3 = G3 := (Eq.trans (up2_at (Or.inr (by decide)) eI140) (Eq.trans (up2_kk eI136 hk134 krm (by decide)) (Eq.trans (up2_kk eI133 hk131 krm (by decide)) (Eq.trans (up2_kk eI130 hk128 krm (by decide)) (Eq.trans (hf124.get krm rfl) (Eq.trans (hf100.get krm rfl) (Eq.trans (hf72.get krm rfl) (Eq.trans (hf40.get krm rfl) (Eq.trans (hf4.get krm rfl) eG3.symm)))))))))
              have hG3t : (I140 rm 3).toInt = G3.toInt := congrArg Int32.toInt hG3
              have hG4 : I140 rm 4 = G4 := (Eq.trans (up2_at (Or.inr (by decide)) eI140) (Eq.trans (up2_kk eI136 hk134 krm (by decide)) (Eq.trans (up2_kk eI133 hk131 krm (by decide)) (Eq.trans (up2_kk eI130 hk128 krm (by decide)) (Eq.trans (hf124.get krm rfl) (Eq.trans (hf100.get krm rfl) (Eq.trans (hf72.get krm rfl) (Eq.trans (hf40.get krm rfl) (Eq.trans (hf4.get krm rfl) eG4.symm)))))))))
              have hG4t : (I140 rm 4).toInt = G4.toInt := congrArg Int32.toInt hG4
              have hG7 : I140 rm 7 = G7 := (Eq.trans (up2_at (Or.inr (by decide)) eI140) (Eq.trans (up2_kk eI136 hk134 krm (by decide)) (Eq.trans (up2_kk eI133 hk131 krm (by decide)) (Eq.trans (up2_kk eI130 hk128 krm (by decide)) (Eq.trans (hf124.get krm rfl) (Eq.trans (hf100.get krm rfl) (Eq.trans (hf72.get krm rfl) (Eq.trans (hf40.get krm rfl) (Eq.trans (hf4.get krm rfl) eG7.symm)))))))))
              have hG7t : (I140 rm 7).toInt = G7.toInt := congrArg Int32.toInt hG7
              have hG8 : I140 rm 8 = x139_ := (by rw [eI140]; exact up2_self _ _ _ _)
              have hG8t : (I140 rm 8).toInt = x139_.toInt := congrArg Int32.toInt hG8
              have hG9 : I140 rm 9 = G9 := (Eq.trans (up2_at (Or.inr (by decide)) eI140) (Eq.trans (up2_kk eI136 hk134 krm (by decide)) (Eq.trans (up2_kk eI133 hk131 krm (by decide)) (Eq.trans (up2_kk eI130 hk128 krm (by decide)) (Eq.trans (hf124.get krm rfl) (Eq.trans (hf100.get krm rfl) (Eq.trans (hf72.get krm rfl) (Eq.trans (hf40.get krm rfl) (Eq.trans (hf4.get krm rfl) eG9.symm)))))))))
              have hG9t : (I140 rm 9).toInt = G9.toInt := congrArg Int32.toInt hG9
              have hGN : I140 rm 10 = N1 := (Eq.trans (up2_at (Or.inr (by decide)) eI140) (Eq.trans (up2_kk eI136 hk134 krm (by decide)) (Eq.trans (up2_kk eI133 hk131 krm (by decide)) (Eq.trans (up2_kk eI130 hk128 krm (by decide)) (Eq.trans (hf124.get krm rfl) (Eq.trans (hf100.get krm rfl) (Eq.trans (hf72.get krm rfl) eN1.symm)))))))
              have hGNt : (I140 rm 10).toInt = N1.toInt := congrArg Int32.toInt hGN
              have hv8 : I140 a0 8 = A9 := (Eq.trans (up2_kk eI140 krm ka0 (by decide)) (Eq.trans (up2_kk eI136 hk134 ka0 (by decide)) (Eq.trans (up2_kk eI133 hk131 ka0 (by decide)) (Eq.trans (up2_kk eI130 hk128 ka0 (by decide)) eA9.symm))))
              have hv8t : (I140 a0 8).toInt = A9.toInt := congrArg Int32.toInt hv8
              have hv9 : I140 a0 9 = x125_ := (Eq.trans (up2_kk eI140 krm ka0 (by decide)) (Eq.trans (up2_kk eI136 hk134 ka0 (by decide)) (Eq.trans (up2_kk eI133 hk131 ka0 (by decide)) (Eq.trans (up2_kk eI130 hk128 ka0 (by decide)) e125.symm))))
              have hv9t : (I140 a0 9).toInt = x125_.toInt := congrArg Int32.toInt hv9
              exact r_vret hC hQ hlk hr (by decide) (by decide) dX10_readVillage_129 ⟨_, _, rfl, rfl, ⟨hs140, hF140, hFJ124, (by first | (left; omega) | (right; omega)), (by omega), (by omega), (by omega)⟩⟩
            · have hG3 : I124 rm 3 = G3 := (Eq.trans (hf124.get krm rfl) (Eq.trans (hf100.get krm rfl) (Eq.trans (hf72.get krm rfl) (Eq.trans (hf40.get krm rfl) (Eq.trans (hf4.get krm rfl) eG3.symm)))))
              have hG3t : (I124 rm 3).toInt = G3.toInt := congrArg Int32.toInt hG3
              have hG4 : I124 rm 4 = G4 := (Eq.trans (hf124.get krm rfl) (Eq.trans (hf100.get krm rfl) (Eq.trans (hf72.get krm rfl) (Eq.trans (hf40.get krm rfl) (Eq.trans (hf4.get krm rfl) eG4.symm)))))
              have hG4t : (I124 rm 4).toInt = G4.toInt := congrArg Int32.toInt hG4
              have hG7 : I124 rm 7 = G7 := (Eq.trans (hf124.get krm rfl) (Eq.trans (hf100.get krm rfl) (Eq.trans (hf72.get krm rfl) (Eq.trans (hf40.get krm rfl) (Eq.trans (hf4.get krm rfl) eG7.symm)))))
              have hG7t : (I124 rm 7).toInt = G7.toInt := congrArg Int32.toInt hG7
              have hG8 : I124 rm 8 = x38_ := (Eq.trans (hf124.get krm rfl) (Eq.trans (hf100.get krm rfl) (Eq.trans (hf72.get krm rfl) (Eq.trans (hf40.get krm rfl) e38.symm))))
              have hG8t : (I124 rm 8).toInt = x38_.toInt := congrArg Int32.toInt hG8
              have hG9 : I124 rm 9 = G9 := (Eq.trans (hf124.get krm rfl) (Eq.trans (hf100.get krm rfl) (Eq.trans (hf72.get krm rfl) (Eq.trans (hf40.get krm rfl) (Eq.trans (hf4.get krm rfl) eG9.symm)))))
              have hG9t : (I124 rm 9).toInt = G9.toInt := congrArg Int32.toInt hG9
              have hGN : I124 rm 10 = N1 := (Eq.trans (hf124.get krm rfl) (Eq.trans (hf100.get krm rfl) (Eq.trans (hf72.get krm rfl) eN1.symm)))
              have hGNt : (I124 rm 10).toInt = N1.toInt := congrArg Int32.toInt hGN
              have hv8 : I124 a0 8 = A9 := eA9.symm
              have hv8t : (I124 a0 8).toInt = A9.toInt := congrArg Int32.toInt hv8
              have hv9 : I124 a0 9 = x125_ := e125.symm
              have hv9t : (I124 a0 9).toInt = x125_.toInt := congrArg Int32.toInt hv9
              exact r_vret hC hQ hlk hr (by decide) (by decide) dX10_readVillage_67 ⟨_, _, rfl, rfl, ⟨hs124, hF124, hFJ124, (by first | (left; omega) | (right; omega)), (by omega), (by omega), (by omega)⟩⟩
          · replace k124_1 := k124_1 sf124
            clear k124_0 md123 sf100
            refine r_istore_n hC (lv' := [(3, .int x124_), (2, .int x100_), (1, .int x72_), (0, .ref a0)]) dX10_readVillage_58 (by decide) rfl ?_
            refine r_aload_n hC dX10_readVillage_59 3 rfl ?_
            obtain ⟨A9, eA9⟩ : ∃ z : Int32, z = I124 a0 8 := ⟨_, rfl⟩
            have fA9 : A9.toInt = (I124 a0 8).toInt := by rw [eA9]
            have rA9 := hs124.rng ka0 rfl eA9
            refine r_geti hC 9 (ci := 10) rfl u10_in (by decide) mT_5_4 dX10_readVillage_60 ka0 rfl rfl (fun x141_ e141 => ?_)
            have f141 : x141_.toInt = (I124 a0 9).toInt := by rw [e141]
            refine r_iconst hC (v := (5)) dX10_readVillage_63 (by decide) (by decide) (fun x142_ e142 t142 => ?_)
            refine r_icmp_ne hC (tgt := 68) dX10_readVillage_64 (by decide) (fun c143 => ?_) (fun c143 => ?_)
            · refine r_aload_n hC dX10_readVillage_68 3 rfl ?_
              refine r_getr hC 4 (ci := 10) rfl u10_in (by decide) mT_4_239 dX10_readVillage_69 ka0 rfl rfl hbr ?_
              obtain ⟨a144_, hb144, hk144, hn144⟩ := hs124.row krm 20 77 4 (by decide) (by decide)
              refine r_getrN hC 20 (ci := 9) rfl u9_in (by decide) nF_20 dX10_readVillage_72 krm rfl rfl hb144 ?_
              refine r_aload_n hC dX10_readVillage_75 3 rfl ?_
              refine r_getr hC 4 (ci := 10) rfl u10_in (by decide) mT_4_239 dX10_readVillage_76 ka0 rfl rfl hbr ?_
              refine r_getiN hC 8 (ci := 9) rfl u9_in (by decide) nF_8 dX10_readVillage_79 krm rfl rfl (fun x145_ e145 => ?_)
              have r145 := hs124.rng krm rfl e145
              have f145 : x145_.toInt = (I124 rm 8).toInt := by rw [e145]
              have w145 : x145_ = x38_ := by rw [e145]; exact (Eq.trans (hf124.get krm rfl) (Eq.trans (hf100.get krm rfl) (Eq.trans (hf72.get krm rfl) (Eq.trans (hf40.get krm rfl) e38.symm))))
              have wt145 : x145_.toInt = x38_.toInt := by rw [w145]
              refine r_iload_n hC dX10_readVillage_82 2 rfl ?_
              refine x_iastore hC hk144 hn144 (by decide) rfl rfl dX10_readVillage_83 (by omega) (by omega) (fun I146 eI146 => ?_)
              have hs146 := hs124.put0 eI146 hk144 (rng_arr (by decide) _) rfl (xF_arr (by decide) _) (by decide)
              have hF146 := hF124.put eI146 hk144 (inS_arr rfl _)
              refine r_aload_n hC dX10_readVillage_84 3 rfl ?_
              refine r_getr hC 4 (ci := 10) rfl u10_in (by decide) mT_4_239 dX10_readVillage_85 ka0 rfl rfl hbr ?_
              obtain ⟨a147_, hb147, hk147, hn147⟩ := hs146.row krm 21 78 4 (by decide) (by decide)
              refine r_getrN hC 21 (ci := 9) rfl u9_in (by decide) nF_21 dX10_readVillage_88 krm rfl rfl hb147 ?_
              refine r_aload_n hC dX10_readVillage_91 3 rfl ?_
              refine r_getr hC 4 (ci := 10) rfl u10_in (by decide) mT_4_239 dX10_readVillage_92 ka0 rfl rfl hbr ?_
              refine r_getiN hC 8 (ci := 9) rfl u9_in (by decide) nF_8 dX10_readVillage_95 krm rfl rfl (fun x148_ e148 => ?_)
              have r148 := hs146.rng krm rfl e148
              have f148 : x148_.toInt = (I146 rm 8).toInt := by rw [e148]
              have w148 : x148_ = x145_ := by rw [e148]; exact (Eq.trans (up2_kk eI146 hk144 krm (by decide)) e145.symm)
              have wt148 : x148_.toInt = x145_.toInt := by rw [w148]
              refine r_iload_n hC dX10_readVillage_98 1 rfl ?_
              refine x_iastore hC hk147 hn147 (by decide) rfl rfl dX10_readVillage_99 (by omega) (by omega) (fun I149 eI149 => ?_)
              have hs149 := hs146.put0 eI149 hk147 (rng_arr (by decide) _) rfl (xF_arr (by decide) _) (by decide)
              have hF149 := hF146.put eI149 hk147 (inS_arr rfl _)
              refine r_aload_n hC dX10_readVillage_100 3 rfl ?_
              refine r_getr hC 4 (ci := 10) rfl u10_in (by decide) mT_4_239 dX10_readVillage_101 ka0 rfl rfl hbr ?_
              obtain ⟨a150_, hb150, hk150, hn150⟩ := hs149.row krm 22 79 4 (by decide) (by decide)
              refine r_getrN hC 22 (ci := 9) rfl u9_in (by decide) nF_22 dX10_readVillage_104 krm rfl rfl hb150 ?_
              refine r_aload_n hC dX10_readVillage_107 3 rfl ?_
              refine r_getr hC 4 (ci := 10) rfl u10_in (by decide) mT_4_239 dX10_readVillage_108 ka0 rfl rfl hbr ?_
              refine r_getiN hC 8 (ci := 9) rfl u9_in (by decide) nF_8 dX10_readVillage_111 krm rfl rfl (fun x151_ e151 => ?_)
              have r151 := hs149.rng krm rfl e151
              have f151 : x151_.toInt = (I149 rm 8).toInt := by rw [e151]
              have w151 : x151_ = x148_ := by rw [e151]; exact (Eq.trans (up2_kk eI149 hk147 krm (by decide)) e148.symm)
              have wt151 : x151_.toInt = x148_.toInt := by rw [w151]
              refine r_iload_n hC dX10_readVillage_114 0 rfl ?_
              refine x_iastore hC hk150 hn150 (by decide) rfl rfl dX10_readVillage_115 (by omega) (by omega) (fun I152 eI152 => ?_)
              have hs152 := hs149.put0 eI152 hk150 (rng_arr (by decide) _) rfl (xF_arr (by decide) _) (by decide)
              have hF152 := hF149.put eI152 hk150 (inS_arr rfl _)
              refine r_aload_n hC dX10_readVillage_116 3 rfl ?_
              refine r_getr hC 4 (ci := 10) rfl u10_in (by decide) mT_4_239 dX10_readVillage_117 ka0 rfl rfl hbr ?_
              refine r_dup hC dX10_readVillage_120 rfl ?_
              refine r_getiN hC 8 (ci := 9) rfl u9_in (by decide) nF_8 dX10_readVillage_121 krm rfl rfl (fun x153_ e153 => ?_)
              have r153 := hs152.rng krm rfl e153
              have f153 : x153_.toInt = (I152 rm 8).toInt := by rw [e153]
              have w153 : x153_ = x151_ := by rw [e153]; exact (Eq.trans (up2_kk eI152 hk150 krm (by decide)) e151.symm)
              have wt153 : x153_.toInt = x151_.toInt := by rw [w153]
              refine r_iconst hC (v := (1)) dX10_readVillage_124 (by decide) (by decide) (fun x154_ e154 t154 => ?_)
              refine r_iadd hC dX10_readVillage_125 (fun x155_ e155 => ?_)
              try have t155 : x155_.toInt = x153_.toInt + x154_.toInt := by rw [e155]; exact ti_add (by omega) (by omega)
              refine r_putiN hC 8 (ci := 9) rfl u9_in tyX9_ok nmX9 (by decide) nF_8 rfl rfl rfl dX10_readVillage_126 krm rfl rfl (fun I156 eI156 => ?_)
              have hs156 := hs152.put1 eI156 krm rfl (by omega) (by omega) rfl rfl (by decide)
              have hF156 := hF152.put eI156 krm rfl
              have hG3 : I156 rm 3 = G3 := (Eq.trans (up2_at (Or.inr (by decide)) eI156) (Eq.trans (up2_kk eI152 hk150 krm (by decide)) (Eq.trans (up2_kk eI149 hk147 krm (by decide)) (Eq.trans (up2_kk eI146 hk144 krm (by decide)) (Eq.trans (hf124.get krm rfl) (Eq.trans (hf100.get krm rfl) (Eq.trans (hf72.get krm rfl) (Eq.trans (hf40.get krm rfl) (Eq.trans (hf4.get krm rfl) eG3.symm)))))))))
              have hG3t : (I156 rm 3).toInt = G3.toInt := congrArg Int32.toInt hG3
              have hG4 : I156 rm 4 = G4 := (Eq.trans (up2_at (Or.inr (by decide)) eI156) (Eq.trans (up2_kk eI152 hk150 krm (by decide)) (Eq.trans (up2_kk eI149 hk147 krm (by decide)) (Eq.trans (up2_kk eI146 hk144 krm (by decide)) (Eq.trans (hf124.get krm rfl) (Eq.trans (hf100.get krm rfl) (Eq.trans (hf72.get krm rfl) (Eq.trans (hf40.get krm rfl) (Eq.trans (hf4.get krm rfl) eG4.symm)))))))))
              have hG4t : (I156 rm 4).toInt = G4.toInt := congrArg Int32.toInt hG4
              have hG7 : I156 rm 7 = G7 := (Eq.trans (up2_at (Or.inr (by decide)) eI156) (Eq.trans (up2_kk eI152 hk150 krm (by decide)) (Eq.trans (up2_kk eI149 hk147 krm (by decide)) (Eq.trans (up2_kk eI146 hk144 krm (by decide)) (Eq.trans (hf124.get krm rfl) (Eq.trans (hf100.get krm rfl) (Eq.trans (hf72.get krm rfl) (Eq.trans (hf40.get krm rfl) (Eq.trans (hf4.get krm rfl) eG7.symm)))))))))
              have hG7t : (I156 rm 7).toInt = G7.toInt := congrArg Int32.toInt hG7
              have hG8 : I156 rm 8 = x155_ := (by rw [eI156]; exact up2_self _ _ _ _)
              have hG8t : (I156 rm 8).toInt = x155_.toInt := congrArg Int32.toInt hG8
              have hG9 : I156 rm 9 = G9 := (Eq.trans (up2_at (Or.inr (by decide)) eI156) (Eq.trans (up2_kk eI152 hk150 krm (by decide)) (Eq.trans (up2_kk eI149 hk147 krm (by decide)) (Eq.trans (up2_kk eI146 hk144 krm (by decide)) (Eq.trans (hf124.get krm rfl) (Eq.trans (hf100.get krm rfl) (Eq.trans (hf72.get krm rfl) (Eq.trans (hf40.get krm rfl) (Eq.trans (hf4.get krm rfl) eG9.symm)))))))))
              have hG9t : (I156 rm 9).toInt = G9.toInt := congrArg Int32.toInt hG9
              have hGN : I156 rm 10 = N1 := (Eq.trans (up2_at (Or.inr (by decide)) eI156) (Eq.trans (up2_kk eI152 hk150 krm (by decide)) (Eq.trans (up2_kk eI149 hk147 krm (by decide)) (Eq.trans (up2_kk eI146 hk144 krm (by decide)) (Eq.trans (hf124.get krm rfl) (Eq.trans (hf100.get krm rfl) (Eq.trans (hf72.get krm rfl) eN1.symm)))))))
              have hGNt : (I156 rm 10).toInt = N1.toInt := congrArg Int32.toInt hGN
              have hv8 : I156 a0 8 = A9 := (Eq.trans (up2_kk eI156 krm ka0 (by decide)) (Eq.trans (up2_kk eI152 hk150 ka0 (by decide)) (Eq.trans (up2_kk eI149 hk147 ka0 (by decide)) (Eq.trans (up2_kk eI146 hk144 ka0 (by decide)) eA9.symm))))
              have hv8t : (I156 a0 8).toInt = A9.toInt := congrArg Int32.toInt hv8
              have hv9 : I156 a0 9 = x141_ := (Eq.trans (up2_kk eI156 krm ka0 (by decide)) (Eq.trans (up2_kk eI152 hk150 ka0 (by decide)) (Eq.trans (up2_kk eI149 hk147 ka0 (by decide)) (Eq.trans (up2_kk eI146 hk144 ka0 (by decide)) e141.symm))))
              have hv9t : (I156 a0 9).toInt = x141_.toInt := congrArg Int32.toInt hv9
              exact r_vret hC hQ hlk hr (by decide) (by decide) dX10_readVillage_129 ⟨_, _, rfl, rfl, ⟨hs156, hF156, hFJ124, (by first | (left; omega) | (right; omega)), (by omega), (by omega), (by omega)⟩⟩
            · have hG3 : I124 rm 3 = G3 := (Eq.trans (hf124.get krm rfl) (Eq.trans (hf100.get krm rfl) (Eq.trans (hf72.get krm rfl) (Eq.trans (hf40.get krm rfl) (Eq.trans (hf4.get krm rfl) eG3.symm)))))
              have hG3t : (I124 rm 3).toInt = G3.toInt := congrArg Int32.toInt hG3
              have hG4 : I124 rm 4 = G4 := (Eq.trans (hf124.get krm rfl) (Eq.trans (hf100.get krm rfl) (Eq.trans (hf72.get krm rfl) (Eq.trans (hf40.get krm rfl) (Eq.trans (hf4.get krm rfl) eG4.symm)))))
              have hG4t : (I124 rm 4).toInt = G4.toInt := congrArg Int32.toInt hG4
              have hG7 : I124 rm 7 = G7 := (Eq.trans (hf124.get krm rfl) (Eq.trans (hf100.get krm rfl) (Eq.trans (hf72.get krm rfl) (Eq.trans (hf40.get krm rfl) (Eq.trans (hf4.get krm rfl) eG7.symm)))))
              have hG7t : (I124 rm 7).toInt = G7.toInt := congrArg Int32.toInt hG7
              have hG8 : I124 rm 8 = x38_ := (Eq.trans (hf124.get krm rfl) (Eq.trans (hf100.get krm rfl) (Eq.trans (hf72.get krm rfl) (Eq.trans (hf40.get krm rfl) e38.symm))))
              have hG8t : (I124 rm 8).toInt = x38_.toInt := congrArg Int32.toInt hG8
              have hG9 : I124 rm 9 = G9 := (Eq.trans (hf124.get krm rfl) (Eq.trans (hf100.get krm rfl) (Eq.trans (hf72.get krm rfl) (Eq.trans (hf40.get krm rfl) (Eq.trans (hf4.get krm rfl) eG9.symm)))))
              have hG9t : (I124 rm 9).toInt = G9.toInt := congrArg Int32.toInt hG9
              have hGN : I124 rm 10 = N1 := (Eq.trans (hf124.get krm rfl) (Eq.trans (hf100.get krm rfl) (Eq.trans (hf72.get krm rfl) eN1.symm)))
              have hGNt : (I124 rm 10).toInt = N1.toInt := congrArg Int32.toInt hGN
              have hv8 : I124 a0 8 = A9 := eA9.symm
              have hv8t : (I124 a0 8).toInt = A9.toInt := congrArg Int32.toInt hv8
              have hv9 : I124 a0 9 = x141_ := e141.symm
              have hv9t : (I124 a0 9).toInt = x141_.toInt := congrArg Int32.toInt hv9
              exact r_vret hC hQ hlk hr (by decide) (by decide) dX10_readVillage_67 ⟨_, _, rfl, rfl, ⟨hs124, hF124, hFJ124, (by first | (left; omega) | (right; omega)), (by omega), (by omega), (by omega)⟩⟩
set_option maxHeartbeats 4000000 in
set_option maxRecDepth 100000 in
theorem c_X10_readKnower (g : GG) (l : Launch) (K len : Nat → Nat) (I : Nat → Nat → Int32) (J : Nat → Nat → Int64) (R : Nat → Nat → Option Nat) (hs : Sf K len I R) (a0 : Nat) (ka0 : K a0 = 11) (rm : Nat) (hbr : R a0 4 = some rm) (krm : K rm = 10) (p0 : (I a0 9).toInt = 2) (p1 : (I rm 10).toInt ≤ (I rm 3).toInt + (I rm 7).toInt + (I rm 8).toInt + (I rm 9).toInt) (p2 : (I rm 4).toInt ≤ 8) : Ct g l yX10_readKnower cX10_readKnower 3 (Option.none : Option Jvm.ClassFile.FieldType) rmX10_readKnower [.ref a0] (K, len, I, J, R) (pV2 (K, len, I, J, R) (fun I' J' => Sf K len I' R ∧ Fr K [(10, 9), (10, 10), (11, 8), (11, 9), (11, 10), (11, 11), (11, 12), (11, 13), (80, 999), (81, 999), (83, 999), (84, 999)] I I' ∧ Fr K [(11, 14), (82, 999)] J J' ∧ ((I' a0 9).toInt = 5 ∨ (I' rm 10).toInt ≤ (I' rm 3).toInt + (I' rm 7).toInt + (I' rm 8).toInt + (I' rm 9).toInt) ∧ ((I' rm 4).toInt ≤ 8) ∧ ((I a0 8).toInt ≤ (I' a0 8).toInt) ∧ ((I' a0 9).toInt = 4 → (I a0 8).toInt < (I' a0 8).toInt))) := by
  refine Ct_intro (by decide +kernel) (Nat.le_of_ble_eq_true rfl) (fun X hC hL hKK hNm hr hlk hQ => ?_)
  subst hL
  have hC : Cx g X cX10_readKnower "HillTapModel" 3 rmX10_readKnower := hC
  show P g X 3 0 [(0, .ref a0)] [] 0 0 (K, len, I, J, R)
  have hF : Fr K [(10, 9), (10, 10), (11, 8), (11, 9), (11, 10), (11, 11), (11, 12), (11, 13), (80, 999), (81, 999), (83, 999), (84, 999)] I I := Fr.refl
  have hFJ : Fr K [(11, 14), (82, 999)] J J := Fr.refl
  obtain ⟨G3, eG3⟩ : ∃ z : Int32, z = I rm 3 := ⟨_, rfl⟩
  have fG3 : G3.toInt = (I rm 3).toInt := by rw [eG3]
  have rG3 := hs.rng krm rfl eG3
  obtain ⟨G4, eG4⟩ : ∃ z : Int32, z = I rm 4 := ⟨_, rfl⟩
  have fG4 : G4.toInt = (I rm 4).toInt := by rw [eG4]
  have rG4 := hs.rng krm rfl eG4
  obtain ⟨G7, eG7⟩ : ∃ z : Int32, z = I rm 7 := ⟨_, rfl⟩
  have fG7 : G7.toInt = (I rm 7).toInt := by rw [eG7]
  have rG7 := hs.rng krm rfl eG7
  obtain ⟨G8, eG8⟩ : ∃ z : Int32, z = I rm 8 := ⟨_, rfl⟩
  have fG8 : G8.toInt = (I rm 8).toInt := by rw [eG8]
  have rG8 := hs.rng krm rfl eG8
  obtain ⟨G9, eG9⟩ : ∃ z : Int32, z = I rm 9 := ⟨_, rfl⟩
  have fG9 : G9.toInt = (I rm 9).toInt := by rw [eG9]
  have rG9 := hs.rng krm rfl eG9
  obtain ⟨GN, eGN⟩ : ∃ z : Int32, z = I rm 10 := ⟨_, rfl⟩
  have fGN : GN.toInt = (I rm 10).toInt := by rw [eGN]
  have rGN := hs.rng krm rfl eGN
  obtain ⟨A0, eA0⟩ : ∃ z : Int32, z = I a0 8 := ⟨_, rfl⟩
  have fA0 : A0.toInt = (I a0 8).toInt := by rw [eA0]
  have rA0 := hs.rng ka0 rfl eA0
  obtain ⟨T0, eT0⟩ : ∃ z : Int32, z = I a0 9 := ⟨_, rfl⟩
  have fT0 : T0.toInt = (I a0 9).toInt := by rw [eT0]
  refine r_aload_n hC dX10_readKnower_0 0 rfl ?_
  refine r_aload_n hC dX10_readKnower_1 0 rfl ?_
  refine r_getr hC 4 (ci := 10) rfl u10_in (by decide) mT_4_239 dX10_readKnower_2 ka0 rfl rfl hbr ?_
  refine r_getiN hC 9 (ci := 9) rfl u9_in (by decide) nF_9 dX10_readKnower_5 krm rfl rfl (fun x1_ e1 => ?_)
  have r1 := hs.rng krm rfl e1
  have f1 : x1_.toInt = (I rm 9).toInt := by rw [e1]
  have w1 : x1_ = G9 := by rw [e1]; exact eG9.symm
  have wt1 : x1_.toInt = G9.toInt := by rw [w1]
  refine r_iconst hC (v := (4)) dX10_readKnower_8 (by decide) (by decide) (fun x2_ e2 t2 => ?_)
  have md3 : (I a0 9).toInt ≠ 5 := by omega
  refine r_callV hC (As := [.int x1_, .int x2_]) (rest := []) (ci := 10) (c_X10_begins g (xL X) K len I J R hs a0 ka0 x1_ x2_) mT_6_19 mT_1_10 mT_6_16 mT_6_18 mP_59 okX10_begins ⟨by decide, by decide⟩ rfl (by show kO (K a0) = _; rw [ka0]; rfl) rfl rfl (Nat.le_of_ble_eq_true rfl) ⟨by decide, by decide⟩ dX10_readKnower_9 (aV2 (F := fun st M => P g X 3 12 [(0, .ref a0)] st _ _ M) (M := (K, len, I, J, R)) fun I4 J4 h4 => ?_)
  obtain ⟨hs4, hf4, hfj4, k4_0, k4_1, k4_2, k4_3⟩ := h4
  show P g X 3 12 [(0, .ref a0)] [] _ _ (K, len, I4, J4, R)
  have hF4 : Fr K [(10, 9), (10, 10), (11, 8), (11, 9), (11, 10), (11, 11), (11, 12), (11, 13), (80, 999), (81, 999), (83, 999), (84, 999)] I I4 := hF.trans hf4 rfl rfl
  have hFJ4 : Fr K [(11, 14), (82, 999)] J J4 := hFJ.trans hfj4 rfl rfl
  by_cases sf4 : (I4 a0 9).toInt = 5
  · clear k4_0 k4_1 k4_3 md3
    refine r_aload_n hC dX10_readKnower_12 0 rfl ?_
    refine r_iconst hC (v := (1)) dX10_readKnower_13 (by decide) (by decide) (fun x5_ e5 t5 => ?_)
    refine r_aload_n hC dX10_readKnower_14 0 rfl ?_
    refine r_getr hC 4 (ci := 10) rfl u10_in (by decide) mT_4_239 dX10_readKnower_15 ka0 rfl rfl hbr ?_
    refine r_getiN hC 9 (ci := 9) rfl u9_in (by decide) nF_9 dX10_readKnower_18 krm rfl rfl (fun x6_ e6 => ?_)
    have r6 := hs4.rng krm rfl e6
    have f6 : x6_.toInt = (I4 rm 9).toInt := by rw [e6]
    have w6 : x6_ = x1_ := by rw [e6]; exact (Eq.trans (hf4.get krm rfl) e1.symm)
    have wt6 : x6_.toInt = x1_.toInt := by rw [w6]
    have qG3 : I4 rm 3 = G3 := (Eq.trans (hf4.get krm rfl) eG3.symm)
    have qG3t : (I4 rm 3).toInt = G3.toInt := congrArg Int32.toInt qG3
    have qG4 : I4 rm 4 = G4 := (Eq.trans (hf4.get krm rfl) eG4.symm)
    have qG4t : (I4 rm 4).toInt = G4.toInt := congrArg Int32.toInt qG4
    have qG7 : I4 rm 7 = G7 := (Eq.trans (hf4.get krm rfl) eG7.symm)
    have qG7t : (I4 rm 7).toInt = G7.toInt := congrArg Int32.toInt qG7
    have qG8 : I4 rm 8 = G8 := (Eq.trans (hf4.get krm rfl) eG8.symm)
    have qG8t : (I4 rm 8).toInt = G8.toInt := congrArg Int32.toInt qG8
    have qG9 : I4 rm 9 = x6_ := e6.symm
    have qG9t : (I4 rm 9).toInt = x6_.toInt := congrArg Int32.toInt qG9
    have qGN : I4 rm 10 = GN := (Eq.trans (hf4.get krm rfl) eGN.symm)
    have qGNt : (I4 rm 10).toInt = GN.toInt := congrArg Int32.toInt qGN
    have md7 : (I4 a0 9).toInt = 5 := by omega
    refine r_callV hC (As := [.int x5_, .int x6_]) (rest := []) (ci := 10) (c_X10_readFresh g (xL X) K len I4 J4 R hs4 a0 ka0 x5_ x6_ rm hbr krm (by first | (left; omega) | (right; omega))) mT_6_23 mT_1_10 mT_6_20 mT_6_22 mP_60 okX10_readFresh ⟨by decide, by decide⟩ rfl (by show kO (K a0) = _; rw [ka0]; rfl) rfl rfl (Nat.le_of_ble_eq_true rfl) ⟨by decide, by decide⟩ dX10_readKnower_21 (aV2 (F := fun st M => P g X 3 24 [(0, .ref a0)] st _ _ M) (M := (K, len, I4, J4, R)) fun I8 J8 h8 => ?_)
    obtain ⟨hs8, hf8, hfj8, k8_0, k8_1, k8_2, k8_3⟩ := h8
    show P g X 3 24 [(0, .ref a0)] [] _ _ (K, len, I8, J8, R)
    have hF8 : Fr K [(10, 9), (10, 10), (11, 8), (11, 9), (11, 10), (11, 11), (11, 12), (11, 13), (80, 999), (81, 999), (83, 999), (84, 999)] I I8 := hF4.trans hf8 rfl rfl
    have hFJ8 : Fr K [(11, 14), (82, 999)] J J8 := hFJ4.trans hfj8 rfl rfl
    have sf8 := k8_0 md7
    clear k8_0 k8_2 md7 sf4
    obtain ⟨N1, eN1⟩ : ∃ z : Int32, z = I8 rm 10 := ⟨_, rfl⟩
    have fN1 : N1.toInt = (I8 rm 10).toInt := by rw [eN1]
    have rN1 := hs8.rng krm rfl eN1
    refine r_aload_n hC dX10_readKnower_24 0 rfl ?_
    refine r_ldcwS hC (i := 58) (by decide) rfl rfl dX10_readKnower_25 ?_
    refine r_callV hC (As := [.ref (g.2.2.1 58)]) (rest := []) (ci := 10) (c_X10_isWord g (xL X) K len I8 J8 R hs8 a0 ka0 58 (by decide)) mT_5_223 mT_1_10 mT_5_220 mT_5_222 mP_53 okX10_isWord ⟨by decide, by decide⟩ rfl (by show kO (K a0) = _; rw [ka0]; rfl) rfl rfl (Nat.le_of_ble_eq_true rfl) ⟨by decide, by decide⟩ dX10_readKnower_28 (aI0 (F := fun st M => P g X 3 31 [(0, .ref a0)] st _ _ M) (M := (K, len, I8, J8, R)) fun x9_ h9 => ?_)
    obtain ⟨k9_0, k9_1, k9_2⟩ := h9
    show P g X 3 31 [(0, .ref a0)] [.int x9_] _ _ (K, len, I8, J8, R)
    refine r_if_ne hC (tgt := 39) dX10_readKnower_31 (by decide) (fun c10 => ?_) (fun c10 => ?_)
    · exfalso; have h9 := k9_2 c10; omega
    clear k9_2
    refine r_aload_n hC dX10_readKnower_34 0 rfl ?_
    refine r_iconst hC (v := (1)) dX10_readKnower_35 (by decide) (by decide) (fun x11_ e11 t11 => ?_)
    have md12 : (I8 a0 9).toInt = 5 := by omega
    refine r_callV hC (As := [.int x11_]) (rest := []) (ci := 10) (c_X10_wrong g (xL X) K len I8 J8 R hs8 a0 ka0 x11_) mT_5_236 mT_1_10 mT_5_233 mT_5_235 mP_55 okX10_wrong ⟨by decide, by decide⟩ rfl (by show kO (K a0) = _; rw [ka0]; rfl) rfl rfl (Nat.le_of_ble_eq_true rfl) ⟨by decide, by decide⟩ dX10_readKnower_36 (aV1 (F := fun st M => P g X 3 39 [(0, .ref a0)] st _ _ M) (M := (K, len, I8, J8, R)) fun I13 h13 => ?_)
    obtain ⟨hs13, hf13, k13_0, k13_1⟩ := h13
    show P g X 3 39 [(0, .ref a0)] [] _ _ (K, len, I13, J8, R)
    have hF13 : Fr K [(10, 9), (10, 10), (11, 8), (11, 9), (11, 10), (11, 11), (11, 12), (11, 13), (80, 999), (81, 999), (83, 999), (84, 999)] I I13 := hF8.trans hf13 rfl rfl
    clear md12 sf8
    refine r_aload_n hC dX10_readKnower_39 0 rfl ?_
    have md14 : (I13 a0 9).toInt = 5 := by omega
    refine r_callV hC (As := []) (rest := []) (ci := 10) (c_X10_goesOn g (xL X) K len I13 J8 R hs13 a0 ka0) mT_5_199 mT_1_10 mT_5_196 mT_5_198 mP_49 okX10_goesOn ⟨by decide, by decide⟩ rfl (by show kO (K a0) = _; rw [ka0]; rfl) rfl rfl (Nat.le_of_ble_eq_true rfl) ⟨by decide, by decide⟩ dX10_readKnower_40 (aV2 (F := fun st M => P g X 3 43 [(0, .ref a0)] st _ _ M) (M := (K, len, I13, J8, R)) fun I15 J15 h15 => ?_)
    obtain ⟨hs15, hf15, hfj15, k15_0, k15_1, k15_2, k15_3⟩ := h15
    show P g X 3 43 [(0, .ref a0)] [] _ _ (K, len, I15, J15, R)
    have hF15 : Fr K [(10, 9), (10, 10), (11, 8), (11, 9), (11, 10), (11, 11), (11, 12), (11, 13), (80, 999), (81, 999), (83, 999), (84, 999)] I I15 := hF13.trans hf15 rfl rfl
    have hFJ15 : Fr K [(11, 14), (82, 999)] J J15 := hFJ8.trans hfj15 rfl rfl
    have sf15 := k15_0 md14
    clear k15_0 k15_1 k15_3 md14
    refine r_aload_n hC dX10_readKnower_43 0 rfl ?_
    refine r_callV hC (As := []) (rest := []) (ci := 10) (c_X10_isName g (xL X) K len I15 J15 R hs15 a0 ka0) mT_6_27 mT_1_10 mT_6_24 mT_6_26 mP_61 okX10_isName ⟨by decide, by decide⟩ rfl (by show kO (K a0) = _; rw [ka0]; rfl) rfl rfl (Nat.le_of_ble_eq_true rfl) ⟨by decide, by decide⟩ dX10_readKnower_44 (aI0 (F := fun st M => P g X 3 47 [(0, .ref a0)] st _ _ M) (M := (K, len, I15, J15, R)) fun x16_ h16 => ?_)
    obtain ⟨k16_0, k16_1, k16_2⟩ := h16
    show P g X 3 47 [(0, .ref a0)] [.int x16_] _ _ (K, len, I15, J15, R)
    refine r_if_ne hC (tgt := 55) dX10_readKnower_47 (by decide) (fun c17 => ?_) (fun c17 => ?_)
    · exfalso; have h9 := k16_2 c17; omega
    clear k16_2
    refine r_aload_n hC dX10_readKnower_50 0 rfl ?_
    refine r_iconst hC (v := (1)) dX10_readKnower_51 (by decide) (by decide) (fun x18_ e18 t18 => ?_)
    have md19 : (I15 a0 9).toInt = 5 := by omega
    refine r_callV hC (As := [.int x18_]) (rest := []) (ci := 10) (c_X10_wrong g (xL X) K len I15 J15 R hs15 a0 ka0 x18_) mT_5_236 mT_1_10 mT_5_233 mT_5_235 mP_55 okX10_wrong ⟨by decide, by decide⟩ rfl (by show kO (K a0) = _; rw [ka0]; rfl) rfl rfl (Nat.le_of_ble_eq_true rfl) ⟨by decide, by decide⟩ dX10_readKnower_52 (aV1 (F := fun st M => P g X 3 55 [(0, .ref a0)] st _ _ M) (M := (K, len, I15, J15, R)) fun I20 h20 => ?_)
    obtain ⟨hs20, hf20, k20_0, k20_1⟩ := h20
    show P g X 3 55 [(0, .ref a0)] [] _ _ (K, len, I20, J15, R)
    have hF20 : Fr K [(10, 9), (10, 10), (11, 8), (11, 9), (11, 10), (11, 11), (11, 12), (11, 13), (80, 999), (81, 999), (83, 999), (84, 999)] I I20 := hF15.trans hf20 rfl rfl
    clear md19 sf15
    refine r_aload_n hC dX10_readKnower_55 0 rfl ?_
    refine r_getr hC 4 (ci := 10) rfl u10_in (by decide) mT_4_239 dX10_readKnower_56 ka0 rfl rfl hbr ?_
    refine r_aload_n hC dX10_readKnower_59 0 rfl ?_
    refine r_getj hC 14 (ci := 10) rfl u10_in (by decide) mT_5_9 dX10_readKnower_60 ka0 rfl rfl (fun y21_ e21 => ?_)
    refine r_callV hC (As := [.long y21_]) (rest := []) (ci := 9) (c_X9_find g (xL X) K len I20 J15 R hs20 rm krm y21_) mT_6_36 mT_1_17 mT_6_33 mT_6_34 mT_6_35 okX9_find ⟨by decide, by decide⟩ rfl (by show kO (K rm) = _; rw [krm]; rfl) rfl rfl (Nat.le_of_ble_eq_true rfl) ⟨by decide, by decide⟩ dX10_readKnower_63 (aI0 (F := fun st M => P g X 3 66 [(0, .ref a0)] st _ _ M) (M := (K, len, I20, J15, R)) fun x22_ h22 => ?_)
    obtain ⟨k22_0, k22_1⟩ := h22
    show P g X 3 66 [(0, .ref a0)] [.int x22_] _ _ (K, len, I20, J15, R)
    refine r_istore_n hC (lv' := [(1, .int x22_), (0, .ref a0)]) dX10_readKnower_66 (by decide) rfl ?_
    refine r_iload_n hC dX10_readKnower_67 0 rfl ?_
    refine r_iconst hC (v := (-1)) dX10_readKnower_68 (by decide) (by decide) (fun x23_ e23 t23 => ?_)
    refine r_icmp_eq hC (tgt := 84) dX10_readKnower_69 (by decide) (fun c24 => ?_) (fun c24 => ?_)
    · refine r_aload_n hC dX10_readKnower_84 1 rfl ?_
      refine r_iconst hC (v := (2)) dX10_readKnower_85 (by decide) (by decide) (fun x25_ e25 t25 => ?_)
      have md26 : (I20 a0 9).toInt = 5 := by omega
      refine r_callV hC (As := [.int x25_]) (rest := []) (ci := 10) (c_X10_wrong g (xL X) K len I20 J15 R hs20 a0 ka0 x25_) mT_5_236 mT_1_10 mT_5_233 mT_5_235 mP_55 okX10_wrong ⟨by decide, by decide⟩ rfl (by show kO (K a0) = _; rw [ka0]; rfl) rfl rfl (Nat.le_of_ble_eq_true rfl) ⟨by decide, by decide⟩ dX10_readKnower_86 (aV1 (F := fun st M => P g X 3 89 [(1, .int x22_), (0, .ref a0)] st _ _ M) (M := (K, len, I20, J15, R)) fun I27 h27 => ?_)
      obtain ⟨hs27, hf27, k27_0, k27_1⟩ := h27
      show P g X 3 89 [(1, .int x22_), (0, .ref a0)] [] _ _ (K, len, I27, J15, R)
      have hF27 : Fr K [(10, 9), (10, 10), (11, 8), (11, 9), (11, 10), (11, 11), (11, 12), (11, 13), (80, 999), (81, 999), (83, 999), (84, 999)] I I27 := hF20.trans hf27 rfl rfl
      clear md26
      refine r_aload_n hC dX10_readKnower_89 1 rfl ?_
      have md28 : (I27 a0 9).toInt = 5 := by omega
      refine r_callV hC (As := []) (rest := []) (ci := 10) (c_X10_goesOn g (xL X) K len I27 J15 R hs27 a0 ka0) mT_5_199 mT_1_10 mT_5_196 mT_5_198 mP_49 okX10_goesOn ⟨by decide, by decide⟩ rfl (by show kO (K a0) = _; rw [ka0]; rfl) rfl rfl (Nat.le_of_ble_eq_true rfl) ⟨by decide, by decide⟩ dX10_readKnower_90 (aV2 (F := fun st M => P g X 3 93 [(1, .int x22_), (0, .ref a0)] st _ _ M) (M := (K, len, I27, J15, R)) fun I29 J29 h29 => ?_)
      obtain ⟨hs29, hf29, hfj29, k29_0, k29_1, k29_2, k29_3⟩ := h29
      show P g X 3 93 [(1, .int x22_), (0, .ref a0)] [] _ _ (K, len, I29, J29, R)
      have hF29 : Fr K [(10, 9), (10, 10), (11, 8), (11, 9), (11, 10), (11, 11), (11, 12), (11, 13), (80, 999), (81, 999), (83, 999), (84, 999)] I I29 := hF27.trans hf29 rfl rfl
      have hFJ29 : Fr K [(11, 14), (82, 999)] J J29 := hFJ15.trans hfj29 rfl rfl
      have sf29 := k29_0 md28
      clear k29_0 k29_1 k29_3 md28
      refine r_aload_n hC dX10_readKnower_93 1 rfl ?_
      refine r_ldcwS hC (i := 59) (by decide) rfl rfl dX10_readKnower_94 ?_
      refine r_iconst hC (v := (0)) dX10_readKnower_97 (by decide) (by decide) (fun x30_ e30 t30 => ?_)
      refine r_sipush hC (v := (999)) dX10_readKnower_98 (by decide) (by decide) (fun x31_ e31 t31 => ?_)
      have md32 : (I29 a0 9).toInt = 5 := by omega
      refine r_callV hC (As := [.ref (g.2.2.1 59), .int x30_, .int x31_]) (rest := []) (ci := 10) (c_X10_readPart g (xL X) K len I29 J29 R hs29 a0 ka0 59 (by decide) x30_ x31_) mT_6_1 mT_1_10 mT_5_238 mT_6_0 mP_56 okX10_readPart ⟨by decide, by decide⟩ rfl (by show kO (K a0) = _; rw [ka0]; rfl) rfl rfl (Nat.le_of_ble_eq_true rfl) ⟨by decide, by decide⟩ dX10_readKnower_101 (aI2 (F := fun st M => P g X 3 104 [(1, .int x22_), (0, .ref a0)] st _ _ M) (M := (K, len, I29, J29, R)) fun x33_ I33 J33 h33 => ?_)
      obtain ⟨hs33, hf33, hfj33, k33_0, k33_1, k33_2, k33_3⟩ := h33
      show P g X 3 104 [(1, .int x22_), (0, .ref a0)] [.int x33_] _ _ (K, len, I33, J33, R)
      have hF33 : Fr K [(10, 9), (10, 10), (11, 8), (11, 9), (11, 10), (11, 11), (11, 12), (11, 13), (80, 999), (81, 999), (83, 999), (84, 999)] I I33 := hF29.trans hf33 rfl rfl
      have hFJ33 : Fr K [(11, 14), (82, 999)] J J33 := hFJ29.trans hfj33 rfl rfl
      have sf33 := k33_0 md32
      clear k33_0 k33_1 k33_3 md32 sf29
      refine r_istore_n hC (lv' := [(2, .int x33_), (1, .int x22_), (0, .ref a0)]) dX10_readKnower_104 (by decide) rfl ?_
      refine r_aload_n hC dX10_readKnower_105 2 rfl ?_
      obtain ⟨A9, eA9⟩ : ∃ z : Int32, z = I33 a0 8 := ⟨_, rfl⟩
      have fA9 : A9.toInt = (I33 a0 8).toInt := by rw [eA9]
      have rA9 := hs33.rng ka0 rfl eA9
      refine r_geti hC 9 (ci := 10) rfl u10_in (by decide) mT_5_4 dX10_readKnower_106 ka0 rfl rfl (fun x34_ e34 => ?_)
      have f34 : x34_.toInt = (I33 a0 9).toInt := by rw [e34]
      refine r_iconst hC (v := (5)) dX10_readKnower_109 (by decide) (by decide) (fun x35_ e35 t35 => ?_)
      refine r_icmp_ne hC (tgt := 114) dX10_readKnower_110 (by decide) (fun c36 => ?_) (fun c36 => ?_)
      · refine r_aload_n hC dX10_readKnower_114 2 rfl ?_
        refine r_getr hC 4 (ci := 10) rfl u10_in (by decide) mT_4_239 dX10_readKnower_115 ka0 rfl rfl hbr ?_
        obtain ⟨a37_, hb37, hk37, hn37⟩ := hs33.row krm 23 80 4 (by decide) (by decide)
        refine r_getrN hC 23 (ci := 9) rfl u9_in (by decide) nF_23 dX10_readKnower_118 krm rfl rfl hb37 ?_
        refine r_aload_n hC dX10_readKnower_121 2 rfl ?_
        refine r_getr hC 4 (ci := 10) rfl u10_in (by decide) mT_4_239 dX10_readKnower_122 ka0 rfl rfl hbr ?_
        refine r_getiN hC 9 (ci := 9) rfl u9_in (by decide) nF_9 dX10_readKnower_125 krm rfl rfl (fun x38_ e38 => ?_)
        have r38 := hs33.rng krm rfl e38
        have f38 : x38_.toInt = (I33 rm 9).toInt := by rw [e38]
        have w38 : x38_ = x6_ := by rw [e38]; exact (Eq.trans (hf33.get krm rfl) (Eq.trans (hf29.get krm rfl) (Eq.trans (hf27.get krm rfl) (Eq.trans (hf20.get krm rfl) (Eq.trans (hf15.get krm rfl) (Eq.trans (hf13.get krm rfl) (Eq.trans (hf8.get krm rfl) e6.symm)))))))
        have wt38 : x38_.toInt = x6_.toInt := by rw [w38]
        refine r_aload_n hC dX10_readKnower_128 2 rfl ?_
        refine r_getr hC 4 (ci := 10) rfl u10_in (by decide) mT_4_239 dX10_readKnower_129 ka0 rfl rfl hbr ?_
        obtain ⟨a39_, hb39, hk39, hn39⟩ := hs33.row krm 27 84 19 (by decide) (by decide)
        refine r_getrN hC 27 (ci := 9) rfl u9_in (by decide) nF_27 dX10_readKnower_132 krm rfl rfl hb39 ?_
        refine r_iload_n hC dX10_readKnower_135 1 rfl ?_
        refine x_iaload hC hk39 hn39 (by decide) rfl rfl dX10_readKnower_136 (by omega) (by omega) (fun x40_ e40 => ?_)
        refine x_iastore hC hk37 hn37 (by decide) rfl rfl dX10_readKnower_137 (by omega) (by omega) (fun I41 eI41 => ?_)
        have hs41 := hs33.put0 eI41 hk37 (rng_arr (by decide) _) rfl (xF_arr (by decide) _) (by decide)
        have hF41 := hF33.put eI41 hk37 (inS_arr rfl _)
        refine r_aload_n hC dX10_readKnower_138 2 rfl ?_
        refine r_getr hC 4 (ci := 10) rfl u10_in (by decide) mT_4_239 dX10_readKnower_139 ka0 rfl rfl hbr ?_
        obtain ⟨a42_, hb42, hk42, hn42⟩ := hs41.row krm 24 81 4 (by decide) (by decide)
        refine r_getrN hC 24 (ci := 9) rfl u9_in (by decide) nF_24 dX10_readKnower_142 krm rfl rfl hb42 ?_
        refine r_aload_n hC dX10_readKnower_145 2 rfl ?_
        refine r_getr hC 4 (ci := 10) rfl u10_in (by decide) mT_4_239 dX10_readKnower_146 ka0 rfl rfl hbr ?_
        refine r_getiN hC 9 (ci := 9) rfl u9_in (by decide) nF_9 dX10_readKnower_149 krm rfl rfl (fun x43_ e43 => ?_)
        have r43 := hs41.rng krm rfl e43
        have f43 : x43_.toInt = (I41 rm 9).toInt := by rw [e43]
        have w43 : x43_ = x38_ := by rw [e43]; exact (Eq.trans (up2_kk eI41 hk37 krm (by decide)) e38.symm)
        have wt43 : x43_.toInt = x38_.toInt := by rw [w43]
        refine r_iload_n hC dX10_readKnower_152 0 rfl ?_
        refine x_iastore hC hk42 hn42 (by decide) rfl rfl dX10_readKnower_153 (by omega) (by omega) (fun I44 eI44 => ?_)
        have hs44 := hs41.put0 eI44 hk42 (rng_arr (by decide) _) rfl (xF_arr (by decide) _) (by decide)
        have hF44 := hF41.put eI44 hk42 (inS_arr rfl _)
        refine r_aload_n hC dX10_readKnower_154 2 rfl ?_
        refine r_getr hC 4 (ci := 10) rfl u10_in (by decide) mT_4_239 dX10_readKnower_155 ka0 rfl rfl hbr ?_
        refine r_dup hC dX10_readKnower_158 rfl ?_
        refine r_getiN hC 9 (ci := 9) rfl u9_in (by decide) nF_9 dX10_readKnower_159 krm rfl rfl (fun x45_ e45 => ?_)
        have r45 := hs44.rng krm rfl e45
        have f45 : x45_.toInt = (I44 rm 9).toInt := by rw [e45]
        have w45 : x45_ = x43_ := by rw [e45]; exact (Eq.trans (up2_kk eI44 hk42 krm (by decide)) e43.symm)
        have wt45 : x45_.toInt = x43_.toInt := by rw [w45]
        refine r_iconst hC (v := (1)) dX10_readKnower_162 (by decide) (by decide) (fun x46_ e46 t46 => ?_)
        refine r_iadd hC dX10_readKnower_163 (fun x47_ e47 => ?_)
        try have t47 : x47_.toInt = x45_.toInt + x46_.toInt := by rw [e47]; exact ti_add (by omega) (by omega)
        refine r_putiN hC 9 (ci := 9) rfl u9_in tyX9_ok nmX9 (by decide) nF_9 rfl rfl rfl dX10_readKnower_164 krm rfl rfl (fun I48 eI48 => ?_)
        have hs48 := hs44.put1 eI48 krm rfl (by omega) (by omega) rfl rfl (by decide)
        have hF48 := hF44.put eI48 krm rfl
        have hG3 : I48 rm 3 = G3 := (Eq.trans (up2_at (Or.inr (by decide)) eI48) (Eq.trans (up2_kk eI44 hk42 krm (by decide)) (Eq.trans (up2_kk eI41 hk37 krm (by decide)) (Eq.trans (hf33.get krm rfl) (Eq.trans (hf29.get krm rfl) (Eq.trans (hf27.get krm rfl) (Eq.trans (hf20.get krm rfl) (Eq.trans (hf15.get krm rfl) (Eq.trans (hf13.get krm rfl) (Eq.trans (hf8.get krm rfl) (Eq.trans (hf4.get krm rfl) eG3.symm)))))))))))
        have hG3t : (I48 rm 3).toInt = G3.toInt := congrArg Int32.toInt hG3
        have hG4 : I48 rm 4 = G4 := (Eq.trans (up2_at (Or.inr (by decide)) eI48) (Eq.trans (up2_kk eI44 hk42 krm (by decide)) (Eq.trans (up2_kk eI41 hk37 krm (by decide)) (Eq.trans (hf33.get krm rfl) (Eq.trans (hf29.get krm rfl) (Eq.trans (hf27.get krm rfl) (Eq.trans (hf20.get krm rfl) (Eq.trans (hf15.get krm rfl) (Eq.trans (hf13.get krm rfl) (Eq.trans (hf8.get krm rfl) (Eq.trans (hf4.get krm rfl) eG4.symm)))))))))))
        have hG4t : (I48 rm 4).toInt = G4.toInt := congrArg Int32.toInt hG4
        have hG7 : I48 rm 7 = G7 := (Eq.trans (up2_at (Or.inr (by decide)) eI48) (Eq.trans (up2_kk eI44 hk42 krm (by decide)) (Eq.trans (up2_kk eI41 hk37 krm (by decide)) (Eq.trans (hf33.get krm rfl) (Eq.trans (hf29.get krm rfl) (Eq.trans (hf27.get krm rfl) (Eq.trans (hf20.get krm rfl) (Eq.trans (hf15.get krm rfl) (Eq.trans (hf13.get krm rfl) (Eq.trans (hf8.get krm rfl) (Eq.trans (hf4.get krm rfl) eG7.symm)))))))))))
        have hG7t : (I48 rm 7).toInt = G7.toInt := congrArg Int32.toInt hG7
        have hG8 : I48 rm 8 = G8 := (Eq.trans (up2_at (Or.inr (by decide)) eI48) (Eq.trans (up2_kk eI44 hk42 krm (by decide)) (Eq.trans (up2_kk eI41 hk37 krm (by decide)) (Eq.trans (hf33.get krm rfl) (Eq.trans (hf29.get krm rfl) (Eq.trans (hf27.get krm rfl) (Eq.trans (hf20.get krm rfl) (Eq.trans (hf15.get krm rfl) (Eq.trans (hf13.get krm rfl) (Eq.trans (hf8.get krm rfl) (Eq.trans (hf4.get krm rfl) eG8.symm)))))))))))
        have hG8t : (I48 rm 8).toInt = G8.toInt := congrArg Int32.toInt hG8
        have hG9 : I48 rm 9 = x47_ := (by rw [eI48]; exact up2_self _ _ _ _)
        have hG9t : (I48 rm 9).toInt = x47_.toInt := congrArg Int32.toInt hG9
        have hGN : I48 rm 10 = N1 := (Eq.trans (up2_at (Or.inr (by decide)) eI48) (Eq.trans (up2_kk eI44 hk42 krm (by decide)) (Eq.trans (up2_kk eI41 hk37 krm (by decide)) (Eq.trans (hf33.get krm rfl) (Eq.trans (hf29.get krm rfl) (Eq.trans (hf27.get krm rfl) (Eq.trans (hf20.get krm rfl) (Eq.trans (hf15.get krm rfl) (Eq.trans (hf13.get krm rfl) eN1.symm)))))))))
        have hGNt : (I48 rm 10).toInt = N1.toInt := congrArg Int32.toInt hGN
        have hv8 : I48 a0 8 = A9 := (Eq.trans (up2_kk eI48 krm ka0 (by decide)) (Eq.trans (up2_kk eI44 hk42 ka0 (by decide)) (Eq.trans (up2_kk eI41 hk37 ka0 (by decide)) eA9.symm)))
        have hv8t : (I48 a0 8).toInt = A9.toInt := congrArg Int32.toInt hv8
        have hv9 : I48 a0 9 = x34_ := (Eq.trans (up2_kk eI48 krm ka0 (by decide)) (Eq.trans (up2_kk eI44 hk42 ka0 (by decide)) (Eq.trans (up2_kk eI41 hk37 ka0 (by decide)) e34.symm)))
        have hv9t : (I48 a0 9).toInt = x34_.toInt := congrArg Int32.toInt hv9
        exact r_vret hC hQ hlk hr (by decide) (by decide) dX10_readKnower_167 ⟨_, _, rfl, rfl, ⟨hs48, hF48, hFJ33, (by first | (left; omega) | (right; omega)), (by omega), (by omega), (by omega)⟩⟩
      · have hG3 : I33 rm 3 = G3 := (Eq.trans (hf33.get krm rfl) (Eq.trans (hf29.get krm rfl) (Eq.trans (hf27.get krm rfl) (Eq.trans (hf20.get krm rfl) (Eq.trans (hf15.get krm rfl) (Eq.trans (hf13.get krm rfl) (Eq.trans (hf8.get krm rfl) (Eq.trans (hf4.get krm rfl) eG3.symm))))))))
        have hG3t : (I33 rm 3).toInt = G3.toInt := congrArg Int32.toInt hG3
        have hG4 : I33 rm 4 = G4 := (Eq.trans (hf33.get krm rfl) (Eq.trans (hf29.get krm rfl) (Eq.trans (hf27.get krm rfl) (Eq.trans (hf20.get krm rfl) (Eq.trans (hf15.get krm rfl) (Eq.trans (hf13.get krm rfl) (Eq.trans (hf8.get krm rfl) (Eq.trans (hf4.get krm rfl) eG4.symm))))))))
        have hG4t : (I33 rm 4).toInt = G4.toInt := congrArg Int32.toInt hG4
        have hG7 : I33 rm 7 = G7 := (Eq.trans (hf33.get krm rfl) (Eq.trans (hf29.get krm rfl) (Eq.trans (hf27.get krm rfl) (Eq.trans (hf20.get krm rfl) (Eq.trans (hf15.get krm rfl) (Eq.trans (hf13.get krm rfl) (Eq.trans (hf8.get krm rfl) (Eq.trans (hf4.get krm rfl) eG7.symm))))))))
        have hG7t : (I33 rm 7).toInt = G7.toInt := congrArg Int32.toInt hG7
        have hG8 : I33 rm 8 = G8 := (Eq.trans (hf33.get krm rfl) (Eq.trans (hf29.get krm rfl) (Eq.trans (hf27.get krm rfl) (Eq.trans (hf20.get krm rfl) (Eq.trans (hf15.get krm rfl) (Eq.trans (hf13.get krm rfl) (Eq.trans (hf8.get krm rfl) (Eq.trans (hf4.get krm rfl) eG8.symm))))))))
        have hG8t : (I33 rm 8).toInt = G8.toInt := congrArg Int32.toInt hG8
        have hG9 : I33 rm 9 = x6_ := (Eq.trans (hf33.get krm rfl) (Eq.trans (hf29.get krm rfl) (Eq.trans (hf27.get krm rfl) (Eq.trans (hf20.get krm rfl) (Eq.trans (hf15.get krm rfl) (Eq.trans (hf13.get krm rfl) (Eq.trans (hf8.get krm rfl) e6.symm)))))))
        have hG9t : (I33 rm 9).toInt = x6_.toInt := congrArg Int32.toInt hG9
        have hGN : I33 rm 10 = N1 := (Eq.trans (hf33.get krm rfl) (Eq.trans (hf29.get krm rfl) (Eq.trans (hf27.get krm rfl) (Eq.trans (hf20.get krm rfl) (Eq.trans (hf15.get krm rfl) (Eq.trans (hf13.get krm rfl) eN1.symm))))))
        have hGNt : (I33 rm 10).toInt = N1.toInt := congrArg Int32.toInt hGN
        have hv8 : I33 a0 8 = A9 := eA9.symm
        have hv8t : (I33 a0 8).toInt = A9.toInt := congrArg Int32.toInt hv8
        have hv9 : I33 a0 9 = x34_ := e34.symm
        have hv9t : (I33 a0 9).toInt = x34_.toInt := congrArg Int32.toInt hv9
        exact r_vret hC hQ hlk hr (by decide) (by decide) dX10_readKnower_113 ⟨_, _, rfl, rfl, ⟨hs33, hF33, hFJ33, (by first | (left; omega) | (right; omega)), (by omega), (by omega), (by omega)⟩⟩
    · refine r_aload_n hC dX10_readKnower_72 1 rfl ?_
      refine r_getr hC 4 (ci := 10) rfl u10_in (by decide) mT_4_239 dX10_readKnower_73 ka0 rfl rfl hbr ?_
      obtain ⟨a49_, hb49, hk49, hn49⟩ := hs20.row krm 26 83 19 (by decide) (by decide)
      refine r_getrN hC 26 (ci := 9) rfl u9_in (by decide) nF_26 dX10_readKnower_76 krm rfl rfl hb49 ?_
      refine r_iload_n hC dX10_readKnower_79 0 rfl ?_
      refine x_iaload hC hk49 hn49 (by decide) rfl rfl dX10_readKnower_80 (by omega) (by omega) (fun x50_ e50 => ?_)
      refine r_if_eq hC (tgt := 89) dX10_readKnower_81 (by decide) (fun c51 => ?_) (fun c51 => ?_)
      · refine r_aload_n hC dX10_readKnower_89 1 rfl ?_
        have md52 : (I20 a0 9).toInt = 5 := by omega
        refine r_callV hC (As := []) (rest := []) (ci := 10) (c_X10_goesOn g (xL X) K len I20 J15 R hs20 a0 ka0) mT_5_199 mT_1_10 mT_5_196 mT_5_198 mP_49 okX10_goesOn ⟨by decide, by decide⟩ rfl (by show kO (K a0) = _; rw [ka0]; rfl) rfl rfl (Nat.le_of_ble_eq_true rfl) ⟨by decide, by decide⟩ dX10_readKnower_90 (aV2 (F := fun st M => P g X 3 93 [(1, .int x22_), (0, .ref a0)] st _ _ M) (M := (K, len, I20, J15, R)) fun I53 J53 h53 => ?_)
        obtain ⟨hs53, hf53, hfj53, k53_0, k53_1, k53_2, k53_3⟩ := h53
        show P g X 3 93 [(1, .int x22_), (0, .ref a0)] [] _ _ (K, len, I53, J53, R)
        have hF53 : Fr K [(10, 9), (10, 10), (11, 8), (11, 9), (11, 10), (11, 11), (11, 12), (11, 13), (80, 999), (81, 999), (83, 999), (84, 999)] I I53 := hF20.trans hf53 rfl rfl
        have hFJ53 : Fr K [(11, 14), (82, 999)] J J53 := hFJ15.trans hfj53 rfl rfl
        have sf53 := k53_0 md52
        clear k53_0 k53_1 k53_3 md52
        refine r_aload_n hC dX10_readKnower_93 1 rfl ?_
        refine r_ldcwS hC (i := 59) (by decide) rfl rfl dX10_readKnower_94 ?_
        refine r_iconst hC (v := (0)) dX10_readKnower_97 (by decide) (by decide) (fun x54_ e54 t54 => ?_)
        refine r_sipush hC (v := (999)) dX10_readKnower_98 (by decide) (by decide) (fun x55_ e55 t55 => ?_)
        have md56 : (I53 a0 9).toInt = 5 := by omega
        refine r_callV hC (As := [.ref (g.2.2.1 59), .int x54_, .int x55_]) (rest := []) (ci := 10) (c_X10_readPart g (xL X) K len I53 J53 R hs53 a0 ka0 59 (by decide) x54_ x55_) mT_6_1 mT_1_10 mT_5_238 mT_6_0 mP_56 okX10_readPart ⟨by decide, by decide⟩ rfl (by show kO (K a0) = _; rw [ka0]; rfl) rfl rfl (Nat.le_of_ble_eq_true rfl) ⟨by decide, by decide⟩ dX10_readKnower_101 (aI2 (F := fun st M => P g X 3 104 [(1, .int x22_), (0, .ref a0)] st _ _ M) (M := (K, len, I53, J53, R)) fun x57_ I57 J57 h57 => ?_)
        obtain ⟨hs57, hf57, hfj57, k57_0, k57_1, k57_2, k57_3⟩ := h57
        show P g X 3 104 [(1, .int x22_), (0, .ref a0)] [.int x57_] _ _ (K, len, I57, J57, R)
        have hF57 : Fr K [(10, 9), (10, 10), (11, 8), (11, 9), (11, 10), (11, 11), (11, 12), (11, 13), (80, 999), (81, 999), (83, 999), (84, 999)] I I57 := hF53.trans hf57 rfl rfl
        have hFJ57 : Fr K [(11, 14), (82, 999)] J J57 := hFJ53.trans hfj57 rfl rfl
        have sf57 := k57_0 md56
        clear k57_0 k57_1 k57_3 md56 sf53
        refine r_istore_n hC (lv' := [(2, .int x57_), (1, .int x22_), (0, .ref a0)]) dX10_readKnower_104 (by decide) rfl ?_
        refine r_aload_n hC dX10_readKnower_105 2 rfl ?_
        obtain ⟨A9, eA9⟩ : ∃ z : Int32, z = I57 a0 8 := ⟨_, rfl⟩
        have fA9 : A9.toInt = (I57 a0 8).toInt := by rw [eA9]
        have rA9 := hs57.rng ka0 rfl eA9
        refine r_geti hC 9 (ci := 10) rfl u10_in (by decide) mT_5_4 dX10_readKnower_106 ka0 rfl rfl (fun x58_ e58 => ?_)
        have f58 : x58_.toInt = (I57 a0 9).toInt := by rw [e58]
        refine r_iconst hC (v := (5)) dX10_readKnower_109 (by decide) (by decide) (fun x59_ e59 t59 => ?_)
        refine r_icmp_ne hC (tgt := 114) dX10_readKnower_110 (by decide) (fun c60 => ?_) (fun c60 => ?_)
        · refine r_aload_n hC dX10_readKnower_114 2 rfl ?_
          refine r_getr hC 4 (ci := 10) rfl u10_in (by decide) mT_4_239 dX10_readKnower_115 ka0 rfl rfl hbr ?_
          obtain ⟨a61_, hb61, hk61, hn61⟩ := hs57.row krm 23 80 4 (by decide) (by decide)
          refine r_getrN hC 23 (ci := 9) rfl u9_in (by decide) nF_23 dX10_readKnower_118 krm rfl rfl hb61 ?_
          refine r_aload_n hC dX10_readKnower_121 2 rfl ?_
          refine r_getr hC 4 (ci := 10) rfl u10_in (by decide) mT_4_239 dX10_readKnower_122 ka0 rfl rfl hbr ?_
          refine r_getiN hC 9 (ci := 9) rfl u9_in (by decide) nF_9 dX10_readKnower_125 krm rfl rfl (fun x62_ e62 => ?_)
          have r62 := hs57.rng krm rfl e62
          have f62 : x62_.toInt = (I57 rm 9).toInt := by rw [e62]
          have w62 : x62_ = x6_ := by rw [e62]; exact (Eq.trans (hf57.get krm rfl) (Eq.trans (hf53.get krm rfl) (Eq.trans (hf20.get krm rfl) (Eq.trans (hf15.get krm rfl) (Eq.trans (hf13.get krm rfl) (Eq.trans (hf8.get krm rfl) e6.symm))))))
          have wt62 : x62_.toInt = x6_.toInt := by rw [w62]
          refine r_aload_n hC dX10_readKnower_128 2 rfl ?_
          refine r_getr hC 4 (ci := 10) rfl u10_in (by decide) mT_4_239 dX10_readKnower_129 ka0 rfl rfl hbr ?_
          obtain ⟨a63_, hb63, hk63, hn63⟩ := hs57.row krm 27 84 19 (by decide) (by decide)
          refine r_getrN hC 27 (ci := 9) rfl u9_in (by decide) nF_27 dX10_readKnower_132 krm rfl rfl hb63 ?_
          refine r_iload_n hC dX10_readKnower_135 1 rfl ?_
          refine x_iaload hC hk63 hn63 (by decide) rfl rfl dX10_readKnower_136 (by omega) (by omega) (fun x64_ e64 => ?_)
          refine x_iastore hC hk61 hn61 (by decide) rfl rfl dX10_readKnower_137 (by omega) (by omega) (fun I65 eI65 => ?_)
          have hs65 := hs57.put0 eI65 hk61 (rng_arr (by decide) _) rfl (xF_arr (by decide) _) (by decide)
          have hF65 := hF57.put eI65 hk61 (inS_arr rfl _)
          refine r_aload_n hC dX10_readKnower_138 2 rfl ?_
          refine r_getr hC 4 (ci := 10) rfl u10_in (by decide) mT_4_239 dX10_readKnower_139 ka0 rfl rfl hbr ?_
          obtain ⟨a66_, hb66, hk66, hn66⟩ := hs65.row krm 24 81 4 (by decide) (by decide)
          refine r_getrN hC 24 (ci := 9) rfl u9_in (by decide) nF_24 dX10_readKnower_142 krm rfl rfl hb66 ?_
          refine r_aload_n hC dX10_readKnower_145 2 rfl ?_
          refine r_getr hC 4 (ci := 10) rfl u10_in (by decide) mT_4_239 dX10_readKnower_146 ka0 rfl rfl hbr ?_
          refine r_getiN hC 9 (ci := 9) rfl u9_in (by decide) nF_9 dX10_readKnower_149 krm rfl rfl (fun x67_ e67 => ?_)
          have r67 := hs65.rng krm rfl e67
          have f67 : x67_.toInt = (I65 rm 9).toInt := by rw [e67]
          have w67 : x67_ = x62_ := by rw [e67]; exact (Eq.trans (up2_kk eI65 hk61 krm (by decide)) e62.symm)
          have wt67 : x67_.toInt = x62_.toInt := by rw [w67]
          refine r_iload_n hC dX10_readKnower_152 0 rfl ?_
          refine x_iastore hC hk66 hn66 (by decide) rfl rfl dX10_readKnower_153 (by omega) (by omega) (fun I68 eI68 => ?_)
          have hs68 := hs65.put0 eI68 hk66 (rng_arr (by decide) _) rfl (xF_arr (by decide) _) (by decide)
          have hF68 := hF65.put eI68 hk66 (inS_arr rfl _)
          refine r_aload_n hC dX10_readKnower_154 2 rfl ?_
          refine r_getr hC 4 (ci := 10) rfl u10_in (by decide) mT_4_239 dX10_readKnower_155 ka0 rfl rfl hbr ?_
          refine r_dup hC dX10_readKnower_158 rfl ?_
          refine r_getiN hC 9 (ci := 9) rfl u9_in (by decide) nF_9 dX10_readKnower_159 krm rfl rfl (fun x69_ e69 => ?_)
          have r69 := hs68.rng krm rfl e69
          have f69 : x69_.toInt = (I68 rm 9).toInt := by rw [e69]
          have w69 : x69_ = x67_ := by rw [e69]; exact (Eq.trans (up2_kk eI68 hk66 krm (by decide)) e67.symm)
          have wt69 : x69_.toInt = x67_.toInt := by rw [w69]
          refine r_iconst hC (v := (1)) dX10_readKnower_162 (by decide) (by decide) (fun x70_ e70 t70 => ?_)
          refine r_iadd hC dX10_readKnower_163 (fun x71_ e71 => ?_)
          try have t71 : x71_.toInt = x69_.toInt + x70_.toInt := by rw [e71]; exact ti_add (by omega) (by omega)
          refine r_putiN hC 9 (ci := 9) rfl u9_in tyX9_ok nmX9 (by decide) nF_9 rfl rfl rfl dX10_readKnower_164 krm rfl rfl (fun I72 eI72 => ?_)
          have hs72 := hs68.put1 eI72 krm rfl (by omega) (by omega) rfl rfl (by decide)
          have hF72 := hF68.put eI72 krm rfl
          have hG3 : I72 rm 3 = G3 := (Eq.trans (up2_at (Or.inr (by decide)) eI72) (Eq.trans (up2_kk eI68 hk66 krm (by decide)) (Eq.trans (up2_kk eI65 hk61 krm (by decide)) (Eq.trans (hf57.get krm rfl) (Eq.trans (hf53.get krm rfl) (Eq.trans (hf20.get krm rfl) (Eq.trans (hf15.get krm rfl) (Eq.trans (hf13.get krm rfl) (Eq.trans (hf8.get krm rfl) (Eq.trans (hf4.get krm rfl) eG3.symm))))))))))
          have hG3t : (I72 rm 3).toInt = G3.toInt := congrArg Int32.toInt hG3
          have hG4 : I72 rm 4 = G4 := (Eq.trans (up2_at (Or.inr (by decide)) eI72) (Eq.trans (up2_kk eI68 hk66 krm (by decide)) (Eq.trans (up2_kk eI65 hk61 krm (by decide)) (Eq.trans (hf57.get krm rfl) (Eq.trans (hf53.get krm rfl) (Eq.trans (hf20.get krm rfl) (Eq.trans (hf15.get krm rfl) (Eq.trans (hf13.get krm rfl) (Eq.trans (hf8.get krm rfl) (Eq.trans (hf4.get krm rfl) eG4.symm))))))))))
          have hG4t : (I72 rm 4).toInt = G4.toInt := congrArg Int32.toInt hG4
          have hG7 : I72 rm 7 = G7 := (Eq.trans (up2_at (Or.inr (by decide)) eI72) (Eq.trans (up2_kk eI68 hk66 krm (by decide)) (Eq.trans (up2_kk eI65 hk61 krm (by decide)) (Eq.trans (hf57.get krm rfl) (Eq.trans (hf53.get krm rfl) (Eq.trans (hf20.get krm rfl) (Eq.trans (hf15.get krm rfl) (Eq.trans (hf13.get krm rfl) (Eq.trans (hf8.get krm rfl) (Eq.trans (hf4.get krm rfl) eG7.symm))))))))))
          have hG7t : (I72 rm 7).toInt = G7.toInt := congrArg Int32.toInt hG7
          have hG8 : I72 rm 8 = G8 := (Eq.trans (up2_at (Or.inr (by decide)) eI72) (Eq.trans (up2_kk eI68 hk66 krm (by decide)) (Eq.trans (up2_kk eI65 hk61 krm (by decide)) (Eq.trans (hf57.get krm rfl) (Eq.trans (hf53.get krm rfl) (Eq.trans (hf20.get krm rfl) (Eq.trans (hf15.get krm rfl) (Eq.trans (hf13.get krm rfl) (Eq.trans (hf8.get krm rfl) (Eq.trans (hf4.get krm rfl) eG8.symm))))))))))
          have hG8t : (I72 rm 8).toInt = G8.toInt := congrArg Int32.toInt hG8
          have hG9 : I72 rm 9 = x71_ := (by rw [eI72]; exact up2_self _ _ _ _)
          have hG9t : (I72 rm 9).toInt = x71_.toInt := congrArg Int32.toInt hG9
          have hGN : I72 rm 10 = N1 := (Eq.trans (up2_at (Or.inr (by decide)) eI72) (Eq.trans (up2_kk eI68 hk66 krm (by decide)) (Eq.trans (up2_kk eI65 hk61 krm (by decide)) (Eq.trans (hf57.get krm rfl) (Eq.trans (hf53.get krm rfl) (Eq.trans (hf20.get krm rfl) (Eq.trans (hf15.get krm rfl) (Eq.trans (hf13.get krm rfl) eN1.symm))))))))
          have hGNt : (I72 rm 10).toInt = N1.toInt := congrArg Int32.toInt hGN
          have hv8 : I72 a0 8 = A9 := (Eq.trans (up2_kk eI72 krm ka0 (by decide)) (Eq.trans (up2_kk eI68 hk66 ka0 (by decide)) (Eq.trans (up2_kk eI65 hk61 ka0 (by decide)) eA9.symm)))
          have hv8t : (I72 a0 8).toInt = A9.toInt := congrArg Int32.toInt hv8
          have hv9 : I72 a0 9 = x58_ := (Eq.trans (up2_kk eI72 krm ka0 (by decide)) (Eq.trans (up2_kk eI68 hk66 ka0 (by decide)) (Eq.trans (up2_kk eI65 hk61 ka0 (by decide)) e58.symm)))
          have hv9t : (I72 a0 9).toInt = x58_.toInt := congrArg Int32.toInt hv9
          exact r_vret hC hQ hlk hr (by decide) (by decide) dX10_readKnower_167 ⟨_, _, rfl, rfl, ⟨hs72, hF72, hFJ57, (by first | (left; omega) | (right; omega)), (by omega), (by omega), (by omega)⟩⟩
        · have hG3 : I57 rm 3 = G3 := (Eq.trans (hf57.get krm rfl) (Eq.trans (hf53.get krm rfl) (Eq.trans (hf20.get krm rfl) (Eq.trans (hf15.get krm rfl) (Eq.trans (hf13.get krm rfl) (Eq.trans (hf8.get krm rfl) (Eq.trans (hf4.get krm rfl) eG3.symm)))))))
          have hG3t : (I57 rm 3).toInt = G3.toInt := congrArg Int32.toInt hG3
          have hG4 : I57 rm 4 = G4 := (Eq.trans (hf57.get krm rfl) (Eq.trans (hf53.get krm rfl) (Eq.trans (hf20.get krm rfl) (Eq.trans (hf15.get krm rfl) (Eq.trans (hf13.get krm rfl) (Eq.trans (hf8.get krm rfl) (Eq.trans (hf4.get krm rfl) eG4.symm)))))))
          have hG4t : (I57 rm 4).toInt = G4.toInt := congrArg Int32.toInt hG4
          have hG7 : I57 rm 7 = G7 := (Eq.trans (hf57.get krm rfl) (Eq.trans (hf53.get krm rfl) (Eq.trans (hf20.get krm rfl) (Eq.trans (hf15.get krm rfl) (Eq.trans (hf13.get krm rfl) (Eq.trans (hf8.get krm rfl) (Eq.trans (hf4.get krm rfl) eG7.symm)))))))
          have hG7t : (I57 rm 7).toInt = G7.toInt := congrArg Int32.toInt hG7
          have hG8 : I57 rm 8 = G8 := (Eq.trans (hf57.get krm rfl) (Eq.trans (hf53.get krm rfl) (Eq.trans (hf20.get krm rfl) (Eq.trans (hf15.get krm rfl) (Eq.trans (hf13.get krm rfl) (Eq.trans (hf8.get krm rfl) (Eq.trans (hf4.get krm rfl) eG8.symm)))))))
          have hG8t : (I57 rm 8).toInt = G8.toInt := congrArg Int32.toInt hG8
          have hG9 : I57 rm 9 = x6_ := (Eq.trans (hf57.get krm rfl) (Eq.trans (hf53.get krm rfl) (Eq.trans (hf20.get krm rfl) (Eq.trans (hf15.get krm rfl) (Eq.trans (hf13.get krm rfl) (Eq.trans (hf8.get krm rfl) e6.symm))))))
          have hG9t : (I57 rm 9).toInt = x6_.toInt := congrArg Int32.toInt hG9
          have hGN : I57 rm 10 = N1 := (Eq.trans (hf57.get krm rfl) (Eq.trans (hf53.get krm rfl) (Eq.trans (hf20.get krm rfl) (Eq.trans (hf15.get krm rfl) (Eq.trans (hf13.get krm rfl) eN1.symm)))))
          have hGNt : (I57 rm 10).toInt = N1.toInt := congrArg Int32.toInt hGN
          have hv8 : I57 a0 8 = A9 := eA9.symm
          have hv8t : (I57 a0 8).toInt = A9.toInt := congrArg Int32.toInt hv8
          have hv9 : I57 a0 9 = x58_ := e58.symm
          have hv9t : (I57 a0 9).toInt = x58_.toInt := congrArg Int32.toInt hv9
          exact r_vret hC hQ hlk hr (by decide) (by decide) dX10_readKnower_113 ⟨_, _, rfl, rfl, ⟨hs57, hF57, hFJ57, (by first | (left; omega) | (right; omega)), (by omega), (by omega), (by omega)⟩⟩
      · refine r_aload_n hC dX10_readKnower_84 1 rfl ?_
        refine r_iconst hC (v := (2)) dX10_readKnower_85 (by decide) (by decide) (fun x73_ e73 t73 => ?_)
        have md74 : (I20 a0 9).toInt = 5 := by omega
        refine r_callV hC (As := [.int x73_]) (rest := []) (ci := 10) (c_X10_wrong g (xL X) K len I20 J15 R hs20 a0 ka0 x73_) mT_5_236 mT_1_10 mT_5_233 mT_5_235 mP_55 okX10_wrong ⟨by decide, by decide⟩ rfl (by show kO (K a0) = _; rw [ka0]; rfl) rfl rfl (Nat.le_of_ble_eq_true rfl) ⟨by decide, by decide⟩ dX10_readKnower_86 (aV1 (F := fun st M => P g X 3 89 [(1, .int x22_), (0, .ref a0)] st _ _ M) (M := (K, len, I20, J15, R)) fun I75 h75 => ?_)
        obtain ⟨hs75, hf75, k75_0, k75_1⟩ := h75
        show P g X 3 89 [(1, .int x22_), (0, .ref a0)] [] _ _ (K, len, I75, J15, R)
        have hF75 : Fr K [(10, 9), (10, 10), (11, 8), (11, 9), (11, 10), (11, 11), (11, 12), (11, 13), (80, 999), (81, 999), (83, 999), (84, 999)] I I75 := hF20.trans hf75 rfl rfl
        clear md74
        refine r_aload_n hC dX10_readKnower_89 1 rfl ?_
        have md76 : (I75 a0 9).toInt = 5 := by omega
        refine r_callV hC (As := []) (rest := []) (ci := 10) (c_X10_goesOn g (xL X) K len I75 J15 R hs75 a0 ka0) mT_5_199 mT_1_10 mT_5_196 mT_5_198 mP_49 okX10_goesOn ⟨by decide, by decide⟩ rfl (by show kO (K a0) = _; rw [ka0]; rfl) rfl rfl (Nat.le_of_ble_eq_true rfl) ⟨by decide, by decide⟩ dX10_readKnower_90 (aV2 (F := fun st M => P g X 3 93 [(1, .int x22_), (0, .ref a0)] st _ _ M) (M := (K, len, I75, J15, R)) fun I77 J77 h77 => ?_)
        obtain ⟨hs77, hf77, hfj77, k77_0, k77_1, k77_2, k77_3⟩ := h77
        show P g X 3 93 [(1, .int x22_), (0, .ref a0)] [] _ _ (K, len, I77, J77, R)
        have hF77 : Fr K [(10, 9), (10, 10), (11, 8), (11, 9), (11, 10), (11, 11), (11, 12), (11, 13), (80, 999), (81, 999), (83, 999), (84, 999)] I I77 := hF75.trans hf77 rfl rfl
        have hFJ77 : Fr K [(11, 14), (82, 999)] J J77 := hFJ15.trans hfj77 rfl rfl
        have sf77 := k77_0 md76
        clear k77_0 k77_1 k77_3 md76
        refine r_aload_n hC dX10_readKnower_93 1 rfl ?_
        refine r_ldcwS hC (i := 59) (by decide) rfl rfl dX10_readKnower_94 ?_
        refine r_iconst hC (v := (0)) dX10_readKnower_97 (by decide) (by decide) (fun x78_ e78 t78 => ?_)
        refine r_sipush hC (v := (999)) dX10_readKnower_98 (by decide) (by decide) (fun x79_ e79 t79 => ?_)
        have md80 : (I77 a0 9).toInt = 5 := by omega
        refine r_callV hC (As := [.ref (g.2.2.1 59), .int x78_, .int x79_]) (rest := []) (ci := 10) (c_X10_readPart g (xL X) K len I77 J77 R hs77 a0 ka0 59 (by decide) x78_ x79_) mT_6_1 mT_1_10 mT_5_238 mT_6_0 mP_56 okX10_readPart ⟨by decide, by decide⟩ rfl (by show kO (K a0) = _; rw [ka0]; rfl) rfl rfl (Nat.le_of_ble_eq_true rfl) ⟨by decide, by decide⟩ dX10_readKnower_101 (aI2 (F := fun st M => P g X 3 104 [(1, .int x22_), (0, .ref a0)] st _ _ M) (M := (K, len, I77, J77, R)) fun x81_ I81 J81 h81 => ?_)
        obtain ⟨hs81, hf81, hfj81, k81_0, k81_1, k81_2, k81_3⟩ := h81
        show P g X 3 104 [(1, .int x22_), (0, .ref a0)] [.int x81_] _ _ (K, len, I81, J81, R)
        have hF81 : Fr K [(10, 9), (10, 10), (11, 8), (11, 9), (11, 10), (11, 11), (11, 12), (11, 13), (80, 999), (81, 999), (83, 999), (84, 999)] I I81 := hF77.trans hf81 rfl rfl
        have hFJ81 : Fr K [(11, 14), (82, 999)] J J81 := hFJ77.trans hfj81 rfl rfl
        have sf81 := k81_0 md80
        clear k81_0 k81_1 k81_3 md80 sf77
        refine r_istore_n hC (lv' := [(2, .int x81_), (1, .int x22_), (0, .ref a0)]) dX10_readKnower_104 (by decide) rfl ?_
        refine r_aload_n hC dX10_readKnower_105 2 rfl ?_
        obtain ⟨A9, eA9⟩ : ∃ z : Int32, z = I81 a0 8 := ⟨_, rfl⟩
        have fA9 : A9.toInt = (I81 a0 8).toInt := by rw [eA9]
        have rA9 := hs81.rng ka0 rfl eA9
        refine r_geti hC 9 (ci := 10) rfl u10_in (by decide) mT_5_4 dX10_readKnower_106 ka0 rfl rfl (fun x82_ e82 => ?_)
        have f82 : x82_.toInt = (I81 a0 9).toInt := by rw [e82]
        refine r_iconst hC (v := (5)) dX10_readKnower_109 (by decide) (by decide) (fun x83_ e83 t83 => ?_)
        refine r_icmp_ne hC (tgt := 114) dX10_readKnower_110 (by decide) (fun c84 => ?_) (fun c84 => ?_)
        · refine r_aload_n hC dX10_readKnower_114 2 rfl ?_
          refine r_getr hC 4 (ci := 10) rfl u10_in (by decide) mT_4_239 dX10_readKnower_115 ka0 rfl rfl hbr ?_
          obtain ⟨a85_, hb85, hk85, hn85⟩ := hs81.row krm 23 80 4 (by decide) (by decide)
          refine r_getrN hC 23 (ci := 9) rfl u9_in (by decide) nF_23 dX10_readKnower_118 krm rfl rfl hb85 ?_
          refine r_aload_n hC dX10_readKnower_121 2 rfl ?_
          refine r_getr hC 4 (ci := 10) rfl u10_in (by decide) mT_4_239 dX10_readKnower_122 ka0 rfl rfl hbr ?_
          refine r_getiN hC 9 (ci := 9) rfl u9_in (by decide) nF_9 dX10_readKnower_125 krm rfl rfl (fun x86_ e86 => ?_)
          have r86 := hs81.rng krm rfl e86
          have f86 : x86_.toInt = (I81 rm 9).toInt := by rw [e86]
          have w86 : x86_ = x6_ := by rw [e86]; exact (Eq.trans (hf81.get krm rfl) (Eq.trans (hf77.get krm rfl) (Eq.trans (hf75.get krm rfl) (Eq.trans (hf20.get krm rfl) (Eq.trans (hf15.get krm rfl) (Eq.trans (hf13.get krm rfl) (Eq.trans (hf8.get krm rfl) e6.symm)))))))
          have wt86 : x86_.toInt = x6_.toInt := by rw [w86]
          refine r_aload_n hC dX10_readKnower_128 2 rfl ?_
          refine r_getr hC 4 (ci := 10) rfl u10_in (by decide) mT_4_239 dX10_readKnower_129 ka0 rfl rfl hbr ?_
          obtain ⟨a87_, hb87, hk87, hn87⟩ := hs81.row krm 27 84 19 (by decide) (by decide)
          refine r_getrN hC 27 (ci := 9) rfl u9_in (by decide) nF_27 dX10_readKnower_132 krm rfl rfl hb87 ?_
          refine r_iload_n hC dX10_readKnower_135 1 rfl ?_
          refine x_iaload hC hk87 hn87 (by decide) rfl rfl dX10_readKnower_136 (by omega) (by omega) (fun x88_ e88 => ?_)
          refine x_iastore hC hk85 hn85 (by decide) rfl rfl dX10_readKnower_137 (by omega) (by omega) (fun I89 eI89 => ?_)
          have hs89 := hs81.put0 eI89 hk85 (rng_arr (by decide) _) rfl (xF_arr (by decide) _) (by decide)
          have hF89 := hF81.put eI89 hk85 (inS_arr rfl _)
          refine r_aload_n hC dX10_readKnower_138 2 rfl ?_
          refine r_getr hC 4 (ci := 10) rfl u10_in (by decide) mT_4_239 dX10_readKnower_139 ka0 rfl rfl hbr ?_
          obtain ⟨a90_, hb90, hk90, hn90⟩ := hs89.row krm 24 81 4 (by decide) (by decide)
          refine r_getrN hC 24 (ci := 9) rfl u9_in (by decide) nF_24 dX10_readKnower_142 krm rfl rfl hb90 ?_
          refine r_aload_n hC dX10_readKnower_145 2 rfl ?_
          refine r_getr hC 4 (ci := 10) rfl u10_in (by decide) mT_4_239 dX10_readKnower_146 ka0 rfl rfl hbr ?_
          refine r_getiN hC 9 (ci := 9) rfl u9_in (by decide) nF_9 dX10_readKnower_149 krm rfl rfl (fun x91_ e91 => ?_)
          have r91 := hs89.rng krm rfl e91
          have f91 : x91_.toInt = (I89 rm 9).toInt := by rw [e91]
          have w91 : x91_ = x86_ := by rw [e91]; exact (Eq.trans (up2_kk eI89 hk85 krm (by decide)) e86.symm)
          have wt91 : x91_.toInt = x86_.toInt := by rw [w91]
          refine r_iload_n hC dX10_readKnower_152 0 rfl ?_
          refine x_iastore hC hk90 hn90 (by decide) rfl rfl dX10_readKnower_153 (by omega) (by omega) (fun I92 eI92 => ?_)
          have hs92 := hs89.put0 eI92 hk90 (rng_arr (by decide) _) rfl (xF_arr (by decide) _) (by decide)
          have hF92 := hF89.put eI92 hk90 (inS_arr rfl _)
          refine r_aload_n hC dX10_readKnower_154 2 rfl ?_
          refine r_getr hC 4 (ci := 10) rfl u10_in (by decide) mT_4_239 dX10_readKnower_155 ka0 rfl rfl hbr ?_
          refine r_dup hC dX10_readKnower_158 rfl ?_
          refine r_getiN hC 9 (ci := 9) rfl u9_in (by decide) nF_9 dX10_readKnower_159 krm rfl rfl (fun x93_ e93 => ?_)
          have r93 := hs92.rng krm rfl e93
          have f93 : x93_.toInt = (I92 rm 9).toInt := by rw [e93]
          have w93 : x93_ = x91_ := by rw [e93]; exact (Eq.trans (up2_kk eI92 hk90 krm (by decide)) e91.symm)
          have wt93 : x93_.toInt = x91_.toInt := by rw [w93]
          refine r_iconst hC (v := (1)) dX10_readKnower_162 (by decide) (by decide) (fun x94_ e94 t94 => ?_)
          refine r_iadd hC dX10_readKnower_163 (fun x95_ e95 => ?_)
          try have t95 : x95_.toInt = x93_.toInt + x94_.toInt := by rw [e95]; exact ti_add (by omega) (by omega)
          refine r_putiN hC 9 (ci := 9) rfl u9_in tyX9_ok nmX9 (by decide) nF_9 rfl rfl rfl dX10_readKnower_164 krm rfl rfl (fun I96 eI96 => ?_)
          have hs96 := hs92.put1 eI96 krm rfl (by omega) (by omega) rfl rfl (by decide)
          have hF96 := hF92.put eI96 krm rfl
          have hG3 : I96 rm 3 = G3 := (Eq.trans (up2_at (Or.inr (by decide)) eI96) (Eq.trans (up2_kk eI92 hk90 krm (by decide)) (Eq.trans (up2_kk eI89 hk85 krm (by decide)) (Eq.trans (hf81.get krm rfl) (Eq.trans (hf77.get krm rfl) (Eq.trans (hf75.get krm rfl) (Eq.trans (hf20.get krm rfl) (Eq.trans (hf15.get krm rfl) (Eq.trans (hf13.get krm rfl) (Eq.trans (hf8.get krm rfl) (Eq.trans (hf4.get krm rfl) eG3.symm)))))))))))
          have hG3t : (I96 rm 3).toInt = G3.toInt := congrArg Int32.toInt hG3
          have hG4 : I96 rm 4 = G4 := (Eq.trans (up2_at (Or.inr (by decide)) eI96) (Eq.trans (up2_kk eI92 hk90 krm (by decide)) (Eq.trans (up2_kk eI89 hk85 krm (by decide)) (Eq.trans (hf81.get krm rfl) (Eq.trans (hf77.get krm rfl) (Eq.trans (hf75.get krm rfl) (Eq.trans (hf20.get krm rfl) (Eq.trans (hf15.get krm rfl) (Eq.trans (hf13.get krm rfl) (Eq.trans (hf8.get krm rfl) (Eq.trans (hf4.get krm rfl) eG4.symm)))))))))))
          have hG4t : (I96 rm 4).toInt = G4.toInt := congrArg Int32.toInt hG4
          have hG7 : I96 rm 7 = G7 := (Eq.trans (up2_at (Or.inr (by decide)) eI96) (Eq.trans (up2_kk eI92 hk90 krm (by decide)) (Eq.trans (up2_kk eI89 hk85 krm (by decide)) (Eq.trans (hf81.get krm rfl) (Eq.trans (hf77.get krm rfl) (Eq.trans (hf75.get krm rfl) (Eq.trans (hf20.get krm rfl) (Eq.trans (hf15.get krm rfl) (Eq.trans (hf13.get krm rfl) (Eq.trans (hf8.get krm rfl) (Eq.trans (hf4.get krm rfl) eG7.symm)))))))))))
          have hG7t : (I96 rm 7).toInt = G7.toInt := congrArg Int32.toInt hG7
          have hG8 : I96 rm 8 = G8 := (Eq.trans (up2_at (Or.inr (by decide)) eI96) (Eq.trans (up2_kk eI92 hk90 krm (by decide)) (Eq.trans (up2_kk eI89 hk85 krm (by decide)) (Eq.trans (hf81.get krm rfl) (Eq.trans (hf77.get krm rfl) (Eq.trans (hf75.get krm rfl) (Eq.trans (hf20.get krm rfl) (Eq.trans (hf15.get krm rfl) (Eq.trans (hf13.get krm rfl) (Eq.trans (hf8.get krm rfl) (Eq.trans (hf4.get krm rfl) eG8.symm)))))))))))
          have hG8t : (I96 rm 8).toInt = G8.toInt := congrArg Int32.toInt hG8
          have hG9 : I96 rm 9 = x95_ := (by rw [eI96]; exact up2_self _ _ _ _)
          have hG9t : (I96 rm 9).toInt = x95_.toInt := congrArg Int32.toInt hG9
          have hGN : I96 rm 10 = N1 := (Eq.trans (up2_at (Or.inr (by decide)) eI96) (Eq.trans (up2_kk eI92 hk90 krm (by decide)) (Eq.trans (up2_kk eI89 hk85 krm (by decide)) (Eq.trans (hf81.get krm rfl) (Eq.trans (hf77.get krm rfl) (Eq.trans (hf75.get krm rfl) (Eq.trans (hf20.get krm rfl) (Eq.trans (hf15.get krm rfl) (Eq.trans (hf13.get krm rfl) eN1.symm)))))))))
          have hGNt : (I96 rm 10).toInt = N1.toInt := congrArg Int32.toInt hGN
          have hv8 : I96 a0 8 = A9 := (Eq.trans (up2_kk eI96 krm ka0 (by decide)) (Eq.trans (up2_kk eI92 hk90 ka0 (by decide)) (Eq.trans (up2_kk eI89 hk85 ka0 (by decide)) eA9.symm)))
          have hv8t : (I96 a0 8).toInt = A9.toInt := congrArg Int32.toInt hv8
          have hv9 : I96 a0 9 = x82_ := (Eq.trans (up2_kk eI96 krm ka0 (by decide)) (Eq.trans (up2_kk eI92 hk90 ka0 (by decide)) (Eq.trans (up2_kk eI89 hk85 ka0 (by decide)) e82.symm)))
          have hv9t : (I96 a0 9).toInt = x82_.toInt := congrArg Int32.toInt hv9
          exact r_vret hC hQ hlk hr (by decide) (by decide) dX10_readKnower_167 ⟨_, _, rfl, rfl, ⟨hs96, hF96, hFJ81, (by first | (left; omega) | (right; omega)), (by omega), (by omega), (by omega)⟩⟩
        · have hG3 : I81 rm 3 = G3 := (Eq.trans (hf81.get krm rfl) (Eq.trans (hf77.get krm rfl) (Eq.trans (hf75.get krm rfl) (Eq.trans (hf20.get krm rfl) (Eq.trans (hf15.get krm rfl) (Eq.trans (hf13.get krm rfl) (Eq.trans (hf8.get krm rfl) (Eq.trans (hf4.get krm rfl) eG3.symm))))))))
          have hG3t : (I81 rm 3).toInt = G3.toInt := congrArg Int32.toInt hG3
          have hG4 : I81 rm 4 = G4 := (Eq.trans (hf81.get krm rfl) (Eq.trans (hf77.get krm rfl) (Eq.trans (hf75.get krm rfl) (Eq.trans (hf20.get krm rfl) (Eq.trans (hf15.get krm rfl) (Eq.trans (hf13.get krm rfl) (Eq.trans (hf8.get krm rfl) (Eq.trans (hf4.get krm rfl) eG4.symm))))))))
          have hG4t : (I81 rm 4).toInt = G4.toInt := congrArg Int32.toInt hG4
          have hG7 : I81 rm 7 = G7 := (Eq.trans (hf81.get krm rfl) (Eq.trans (hf77.get krm rfl) (Eq.trans (hf75.get krm rfl) (Eq.trans (hf20.get krm rfl) (Eq.trans (hf15.get krm rfl) (Eq.trans (hf13.get krm rfl) (Eq.trans (hf8.get krm rfl) (Eq.trans (hf4.get krm rfl) eG7.symm))))))))
          have hG7t : (I81 rm 7).toInt = G7.toInt := congrArg Int32.toInt hG7
          have hG8 : I81 rm 8 = G8 := (Eq.trans (hf81.get krm rfl) (Eq.trans (hf77.get krm rfl) (Eq.trans (hf75.get krm rfl) (Eq.trans (hf20.get krm rfl) (Eq.trans (hf15.get krm rfl) (Eq.trans (hf13.get krm rfl) (Eq.trans (hf8.get krm rfl) (Eq.trans (hf4.get krm rfl) eG8.symm))))))))
          have hG8t : (I81 rm 8).toInt = G8.toInt := congrArg Int32.toInt hG8
          have hG9 : I81 rm 9 = x6_ := (Eq.trans (hf81.get krm rfl) (Eq.trans (hf77.get krm rfl) (Eq.trans (hf75.get krm rfl) (Eq.trans (hf20.get krm rfl) (Eq.trans (hf15.get krm rfl) (Eq.trans (hf13.get krm rfl) (Eq.trans (hf8.get krm rfl) e6.symm)))))))
          have hG9t : (I81 rm 9).toInt = x6_.toInt := congrArg Int32.toInt hG9
          have hGN : I81 rm 10 = N1 := (Eq.trans (hf81.get krm rfl) (Eq.trans (hf77.get krm rfl) (Eq.trans (hf75.get krm rfl) (Eq.trans (hf20.get krm rfl) (Eq.trans (hf15.get krm rfl) (Eq.trans (hf13.get krm rfl) eN1.symm))))))
          have hGNt : (I81 rm 10).toInt = N1.toInt := congrArg Int32.toInt hGN
          have hv8 : I81 a0 8 = A9 := eA9.symm
          have hv8t : (I81 a0 8).toInt = A9.toInt := congrArg Int32.toInt hv8
          have hv9 : I81 a0 9 = x82_ := e82.symm
          have hv9t : (I81 a0 9).toInt = x82_.toInt := congrArg Int32.toInt hv9
          exact r_vret hC hQ hlk hr (by decide) (by decide) dX10_readKnower_113 ⟨_, _, rfl, rfl, ⟨hs81, hF81, hFJ81, (by first | (left; omega) | (right; omega)), (by omega), (by omega), (by omega)⟩⟩
  · replace k4_1 := mt k4_1 sf4
    clear k4_0 md3
    refine r_aload_n hC dX10_readKnower_12 0 rfl ?_
    refine r_iconst hC (v := (1)) dX10_readKnower_13 (by decide) (by decide) (fun x97_ e97 t97 => ?_)
    refine r_aload_n hC dX10_readKnower_14 0 rfl ?_
    refine r_getr hC 4 (ci := 10) rfl u10_in (by decide) mT_4_239 dX10_readKnower_15 ka0 rfl rfl hbr ?_
    refine r_getiN hC 9 (ci := 9) rfl u9_in (by decide) nF_9 dX10_readKnower_18 krm rfl rfl (fun x98_ e98 => ?_)
    have r98 := hs4.rng krm rfl e98
    have f98 : x98_.toInt = (I4 rm 9).toInt := by rw [e98]
    have w98 : x98_ = x1_ := by rw [e98]; exact (Eq.trans (hf4.get krm rfl) e1.symm)
    have wt98 : x98_.toInt = x1_.toInt := by rw [w98]
    have qG3 : I4 rm 3 = G3 := (Eq.trans (hf4.get krm rfl) eG3.symm)
    have qG3t : (I4 rm 3).toInt = G3.toInt := congrArg Int32.toInt qG3
    have qG4 : I4 rm 4 = G4 := (Eq.trans (hf4.get krm rfl) eG4.symm)
    have qG4t : (I4 rm 4).toInt = G4.toInt := congrArg Int32.toInt qG4
    have qG7 : I4 rm 7 = G7 := (Eq.trans (hf4.get krm rfl) eG7.symm)
    have qG7t : (I4 rm 7).toInt = G7.toInt := congrArg Int32.toInt qG7
    have qG8 : I4 rm 8 = G8 := (Eq.trans (hf4.get krm rfl) eG8.symm)
    have qG8t : (I4 rm 8).toInt = G8.toInt := congrArg Int32.toInt qG8
    have qG9 : I4 rm 9 = x98_ := e98.symm
    have qG9t : (I4 rm 9).toInt = x98_.toInt := congrArg Int32.toInt qG9
    have qGN : I4 rm 10 = GN := (Eq.trans (hf4.get krm rfl) eGN.symm)
    have qGNt : (I4 rm 10).toInt = GN.toInt := congrArg Int32.toInt qGN
    have md99 : (I4 a0 9).toInt ≠ 5 := by omega
    refine r_callV hC (As := [.int x97_, .int x98_]) (rest := []) (ci := 10) (c_X10_readFresh g (xL X) K len I4 J4 R hs4 a0 ka0 x97_ x98_ rm hbr krm (by first | (left; omega) | (right; omega))) mT_6_23 mT_1_10 mT_6_20 mT_6_22 mP_60 okX10_readFresh ⟨by decide, by decide⟩ rfl (by show kO (K a0) = _; rw [ka0]; rfl) rfl rfl (Nat.le_of_ble_eq_true rfl) ⟨by decide, by decide⟩ dX10_readKnower_21 (aV2 (F := fun st M => P g X 3 24 [(0, .ref a0)] st _ _ M) (M := (K, len, I4, J4, R)) fun I100 J100 h100 => ?_)
    obtain ⟨hs100, hf100, hfj100, k100_0, k100_1, k100_2, k100_3⟩ := h100
    show P g X 3 24 [(0, .ref a0)] [] _ _ (K, len, I100, J100, R)
    have hF100 : Fr K [(10, 9), (10, 10), (11, 8), (11, 9), (11, 10), (11, 11), (11, 12), (11, 13), (80, 999), (81, 999), (83, 999), (84, 999)] I I100 := hF4.trans hf100 rfl rfl
    have hFJ100 : Fr K [(11, 14), (82, 999)] J J100 := hFJ4.trans hfj100 rfl rfl
    clear k4_3
    by_cases sf100 : (I100 a0 9).toInt = 5
    · clear k100_0 k100_2 md99 sf4
      obtain ⟨N1, eN1⟩ : ∃ z : Int32, z = I100 rm 10 := ⟨_, rfl⟩
      have fN1 : N1.toInt = (I100 rm 10).toInt := by rw [eN1]
      have rN1 := hs100.rng krm rfl eN1
      refine r_aload_n hC dX10_readKnower_24 0 rfl ?_
      refine r_ldcwS hC (i := 58) (by decide) rfl rfl dX10_readKnower_25 ?_
      refine r_callV hC (As := [.ref (g.2.2.1 58)]) (rest := []) (ci := 10) (c_X10_isWord g (xL X) K len I100 J100 R hs100 a0 ka0 58 (by decide)) mT_5_223 mT_1_10 mT_5_220 mT_5_222 mP_53 okX10_isWord ⟨by decide, by decide⟩ rfl (by show kO (K a0) = _; rw [ka0]; rfl) rfl rfl (Nat.le_of_ble_eq_true rfl) ⟨by decide, by decide⟩ dX10_readKnower_28 (aI0 (F := fun st M => P g X 3 31 [(0, .ref a0)] st _ _ M) (M := (K, len, I100, J100, R)) fun x101_ h101 => ?_)
      obtain ⟨k101_0, k101_1, k101_2⟩ := h101
      show P g X 3 31 [(0, .ref a0)] [.int x101_] _ _ (K, len, I100, J100, R)
      refine r_if_ne hC (tgt := 39) dX10_readKnower_31 (by decide) (fun c102 => ?_) (fun c102 => ?_)
      · exfalso; have h9 := k101_2 c102; omega
      clear k101_2
      refine r_aload_n hC dX10_readKnower_34 0 rfl ?_
      refine r_iconst hC (v := (1)) dX10_readKnower_35 (by decide) (by decide) (fun x103_ e103 t103 => ?_)
      have md104 : (I100 a0 9).toInt = 5 := by omega
      refine r_callV hC (As := [.int x103_]) (rest := []) (ci := 10) (c_X10_wrong g (xL X) K len I100 J100 R hs100 a0 ka0 x103_) mT_5_236 mT_1_10 mT_5_233 mT_5_235 mP_55 okX10_wrong ⟨by decide, by decide⟩ rfl (by show kO (K a0) = _; rw [ka0]; rfl) rfl rfl (Nat.le_of_ble_eq_true rfl) ⟨by decide, by decide⟩ dX10_readKnower_36 (aV1 (F := fun st M => P g X 3 39 [(0, .ref a0)] st _ _ M) (M := (K, len, I100, J100, R)) fun I105 h105 => ?_)
      obtain ⟨hs105, hf105, k105_0, k105_1⟩ := h105
      show P g X 3 39 [(0, .ref a0)] [] _ _ (K, len, I105, J100, R)
      have hF105 : Fr K [(10, 9), (10, 10), (11, 8), (11, 9), (11, 10), (11, 11), (11, 12), (11, 13), (80, 999), (81, 999), (83, 999), (84, 999)] I I105 := hF100.trans hf105 rfl rfl
      clear md104 sf100
      refine r_aload_n hC dX10_readKnower_39 0 rfl ?_
      have md106 : (I105 a0 9).toInt = 5 := by omega
      refine r_callV hC (As := []) (rest := []) (ci := 10) (c_X10_goesOn g (xL X) K len I105 J100 R hs105 a0 ka0) mT_5_199 mT_1_10 mT_5_196 mT_5_198 mP_49 okX10_goesOn ⟨by decide, by decide⟩ rfl (by show kO (K a0) = _; rw [ka0]; rfl) rfl rfl (Nat.le_of_ble_eq_true rfl) ⟨by decide, by decide⟩ dX10_readKnower_40 (aV2 (F := fun st M => P g X 3 43 [(0, .ref a0)] st _ _ M) (M := (K, len, I105, J100, R)) fun I107 J107 h107 => ?_)
      obtain ⟨hs107, hf107, hfj107, k107_0, k107_1, k107_2, k107_3⟩ := h107
      show P g X 3 43 [(0, .ref a0)] [] _ _ (K, len, I107, J107, R)
      have hF107 : Fr K [(10, 9), (10, 10), (11, 8), (11, 9), (11, 10), (11, 11), (11, 12), (11, 13), (80, 999), (81, 999), (83, 999), (84, 999)] I I107 := hF105.trans hf107 rfl rfl
      have hFJ107 : Fr K [(11, 14), (82, 999)] J J107 := hFJ100.trans hfj107 rfl rfl
      have sf107 := k107_0 md106
      clear k107_0 k107_1 k107_3 md106
      refine r_aload_n hC dX10_readKnower_43 0 rfl ?_
      refine r_callV hC (As := []) (rest := []) (ci := 10) (c_X10_isName g (xL X) K len I107 J107 R hs107 a0 ka0) mT_6_27 mT_1_10 mT_6_24 mT_6_26 mP_61 okX10_isName ⟨by decide, by decide⟩ rfl (by show kO (K a0) = _; rw [ka0]; rfl) rfl rfl (Nat.le_of_ble_eq_true rfl) ⟨by decide, by decide⟩ dX10_readKnower_44 (aI0 (F := fun st M => P g X 3 47 [(0, .ref a0)] st _ _ M) (M := (K, len, I107, J107, R)) fun x108_ h108 => ?_)
      obtain ⟨k108_0, k108_1, k108_2⟩ := h108
      show P g X 3 47 [(0, .ref a0)] [.int x108_] _ _ (K, len, I107, J107, R)
      refine r_if_ne hC (tgt := 55) dX10_readKnower_47 (by decide) (fun c109 => ?_) (fun c109 => ?_)
      · exfalso; have h9 := k108_2 c109; omega
      clear k108_2
      refine r_aload_n hC dX10_readKnower_50 0 rfl ?_
      refine r_iconst hC (v := (1)) dX10_readKnower_51 (by decide) (by decide) (fun x110_ e110 t110 => ?_)
      have md111 : (I107 a0 9).toInt = 5 := by omega
      refine r_callV hC (As := [.int x110_]) (rest := []) (ci := 10) (c_X10_wrong g (xL X) K len I107 J107 R hs107 a0 ka0 x110_) mT_5_236 mT_1_10 mT_5_233 mT_5_235 mP_55 okX10_wrong ⟨by decide, by decide⟩ rfl (by show kO (K a0) = _; rw [ka0]; rfl) rfl rfl (Nat.le_of_ble_eq_true rfl) ⟨by decide, by decide⟩ dX10_readKnower_52 (aV1 (F := fun st M => P g X 3 55 [(0, .ref a0)] st _ _ M) (M := (K, len, I107, J107, R)) fun I112 h112 => ?_)
      obtain ⟨hs112, hf112, k112_0, k112_1⟩ := h112
      show P g X 3 55 [(0, .ref a0)] [] _ _ (K, len, I112, J107, R)
      have hF112 : Fr K [(10, 9), (10, 10), (11, 8), (11, 9), (11, 10), (11, 11), (11, 12), (11, 13), (80, 999), (81, 999), (83, 999), (84, 999)] I I112 := hF107.trans hf112 rfl rfl
      clear md111 sf107
      refine r_aload_n hC dX10_readKnower_55 0 rfl ?_
      refine r_getr hC 4 (ci := 10) rfl u10_in (by decide) mT_4_239 dX10_readKnower_56 ka0 rfl rfl hbr ?_
      refine r_aload_n hC dX10_readKnower_59 0 rfl ?_
      refine r_getj hC 14 (ci := 10) rfl u10_in (by decide) mT_5_9 dX10_readKnower_60 ka0 rfl rfl (fun y113_ e113 => ?_)
      refine r_callV hC (As := [.long y113_]) (rest := []) (ci := 9) (c_X9_find g (xL X) K len I112 J107 R hs112 rm krm y113_) mT_6_36 mT_1_17 mT_6_33 mT_6_34 mT_6_35 okX9_find ⟨by decide, by decide⟩ rfl (by show kO (K rm) = _; rw [krm]; rfl) rfl rfl (Nat.le_of_ble_eq_true rfl) ⟨by decide, by decide⟩ dX10_readKnower_63 (aI0 (F := fun st M => P g X 3 66 [(0, .ref a0)] st _ _ M) (M := (K, len, I112, J107, R)) fun x114_ h114 => ?_)
      obtain ⟨k114_0, k114_1⟩ := h114
      show P g X 3 66 [(0, .ref a0)] [.int x114_] _ _ (K, len, I112, J107, R)
      refine r_istore_n hC (lv' := [(1, .int x114_), (0, .ref a0)]) dX10_readKnower_66 (by decide) rfl ?_
      refine r_iload_n hC dX10_readKnower_67 0 rfl ?_
      refine r_iconst hC (v := (-1)) dX10_readKnower_68 (by decide) (by decide) (fun x115_ e115 t115 => ?_)
      refine r_icmp_eq hC (tgt := 84) dX10_readKnower_69 (by decide) (fun c116 => ?_) (fun c116 => ?_)
      · refine r_aload_n hC dX10_readKnower_84 1 rfl ?_
        refine r_iconst hC (v := (2)) dX10_readKnower_85 (by decide) (by decide) (fun x117_ e117 t117 => ?_)
        have md118 : (I112 a0 9).toInt = 5 := by omega
        refine r_callV hC (As := [.int x117_]) (rest := []) (ci := 10) (c_X10_wrong g (xL X) K len I112 J107 R hs112 a0 ka0 x117_) mT_5_236 mT_1_10 mT_5_233 mT_5_235 mP_55 okX10_wrong ⟨by decide, by decide⟩ rfl (by show kO (K a0) = _; rw [ka0]; rfl) rfl rfl (Nat.le_of_ble_eq_true rfl) ⟨by decide, by decide⟩ dX10_readKnower_86 (aV1 (F := fun st M => P g X 3 89 [(1, .int x114_), (0, .ref a0)] st _ _ M) (M := (K, len, I112, J107, R)) fun I119 h119 => ?_)
        obtain ⟨hs119, hf119, k119_0, k119_1⟩ := h119
        show P g X 3 89 [(1, .int x114_), (0, .ref a0)] [] _ _ (K, len, I119, J107, R)
        have hF119 : Fr K [(10, 9), (10, 10), (11, 8), (11, 9), (11, 10), (11, 11), (11, 12), (11, 13), (80, 999), (81, 999), (83, 999), (84, 999)] I I119 := hF112.trans hf119 rfl rfl
        clear md118
        refine r_aload_n hC dX10_readKnower_89 1 rfl ?_
        have md120 : (I119 a0 9).toInt = 5 := by omega
        refine r_callV hC (As := []) (rest := []) (ci := 10) (c_X10_goesOn g (xL X) K len I119 J107 R hs119 a0 ka0) mT_5_199 mT_1_10 mT_5_196 mT_5_198 mP_49 okX10_goesOn ⟨by decide, by decide⟩ rfl (by show kO (K a0) = _; rw [ka0]; rfl) rfl rfl (Nat.le_of_ble_eq_true rfl) ⟨by decide, by decide⟩ dX10_readKnower_90 (aV2 (F := fun st M => P g X 3 93 [(1, .int x114_), (0, .ref a0)] st _ _ M) (M := (K, len, I119, J107, R)) fun I121 J121 h121 => ?_)
        obtain ⟨hs121, hf121, hfj121, k121_0, k121_1, k121_2, k121_3⟩ := h121
        show P g X 3 93 [(1, .int x114_), (0, .ref a0)] [] _ _ (K, len, I121, J121, R)
        have hF121 : Fr K [(10, 9), (10, 10), (11, 8), (11, 9), (11, 10), (11, 11), (11, 12), (11, 13), (80, 999), (81, 999), (83, 999), (84, 999)] I I121 := hF119.trans hf121 rfl rfl
        have hFJ121 : Fr K [(11, 14), (82, 999)] J J121 := hFJ107.trans hfj121 rfl rfl
        have sf121 := k121_0 md120
        clear k121_0 k121_1 k121_3 md120
        refine r_aload_n hC dX10_readKnower_93 1 rfl ?_
        refine r_ldcwS hC (i := 59) (by decide) rfl rfl dX10_readKnower_94 ?_
        refine r_iconst hC (v := (0)) dX10_readKnower_97 (by decide) (by decide) (fun x122_ e122 t122 => ?_)
        refine r_sipush hC (v := (999)) dX10_readKnower_98 (by decide) (by decide) (fun x123_ e123 t123 => ?_)
        have md124 : (I121 a0 9).toInt = 5 := by omega
        refine r_callV hC (As := [.ref (g.2.2.1 59), .int x122_, .int x123_]) (rest := []) (ci := 10) (c_X10_readPart g (xL X) K len I121 J121 R hs121 a0 ka0 59 (by decide) x122_ x123_) mT_6_1 mT_1_10 mT_5_238 mT_6_0 mP_56 okX10_readPart ⟨by decide, by decide⟩ rfl (by show kO (K a0) = _; rw [ka0]; rfl) rfl rfl (Nat.le_of_ble_eq_true rfl) ⟨by decide, by decide⟩ dX10_readKnower_101 (aI2 (F := fun st M => P g X 3 104 [(1, .int x114_), (0, .ref a0)] st _ _ M) (M := (K, len, I121, J121, R)) fun x125_ I125 J125 h125 => ?_)
        obtain ⟨hs125, hf125, hfj125, k125_0, k125_1, k125_2, k125_3⟩ := h125
        show P g X 3 104 [(1, .int x114_), (0, .ref a0)] [.int x125_] _ _ (K, len, I125, J125, R)
        have hF125 : Fr K [(10, 9), (10, 10), (11, 8), (11, 9), (11, 10), (11, 11), (11, 12), (11, 13), (80, 999), (81, 999), (83, 999), (84, 999)] I I125 := hF121.trans hf125 rfl rfl
        have hFJ125 : Fr K [(11, 14), (82, 999)] J J125 := hFJ121.trans hfj125 rfl rfl
        have sf125 := k125_0 md124
        clear k125_0 k125_1 k125_3 md124 sf121
        refine r_istore_n hC (lv' := [(2, .int x125_), (1, .int x114_), (0, .ref a0)]) dX10_readKnower_104 (by decide) rfl ?_
        refine r_aload_n hC dX10_readKnower_105 2 rfl ?_
        obtain ⟨A9, eA9⟩ : ∃ z : Int32, z = I125 a0 8 := ⟨_, rfl⟩
        have fA9 : A9.toInt = (I125 a0 8).toInt := by rw [eA9]
        have rA9 := hs125.rng ka0 rfl eA9
        refine r_geti hC 9 (ci := 10) rfl u10_in (by decide) mT_5_4 dX10_readKnower_106 ka0 rfl rfl (fun x126_ e126 => ?_)
        have f126 : x126_.toInt = (I125 a0 9).toInt := by rw [e126]
        refine r_iconst hC (v := (5)) dX10_readKnower_109 (by decide) (by decide) (fun x127_ e127 t127 => ?_)
        refine r_icmp_ne hC (tgt := 114) dX10_readKnower_110 (by decide) (fun c128 => ?_) (fun c128 => ?_)
        · refine r_aload_n hC dX10_readKnower_114 2 rfl ?_
          refine r_getr hC 4 (ci := 10) rfl u10_in (by decide) mT_4_239 dX10_readKnower_115 ka0 rfl rfl hbr ?_
          obtain ⟨a129_, hb129, hk129, hn129⟩ := hs125.row krm 23 80 4 (by decide) (by decide)
          refine r_getrN hC 23 (ci := 9) rfl u9_in (by decide) nF_23 dX10_readKnower_118 krm rfl rfl hb129 ?_
          refine r_aload_n hC dX10_readKnower_121 2 rfl ?_
          refine r_getr hC 4 (ci := 10) rfl u10_in (by decide) mT_4_239 dX10_readKnower_122 ka0 rfl rfl hbr ?_
          refine r_getiN hC 9 (ci := 9) rfl u9_in (by decide) nF_9 dX10_readKnower_125 krm rfl rfl (fun x130_ e130 => ?_)
          have r130 := hs125.rng krm rfl e130
          have f130 : x130_.toInt = (I125 rm 9).toInt := by rw [e130]
          have w130 : x130_ = x98_ := by rw [e130]; exact (Eq.trans (hf125.get krm rfl) (Eq.trans (hf121.get krm rfl) (Eq.trans (hf119.get krm rfl) (Eq.trans (hf112.get krm rfl) (Eq.trans (hf107.get krm rfl) (Eq.trans (hf105.get krm rfl) (Eq.trans (hf100.get krm rfl) e98.symm)))))))
          have wt130 : x130_.toInt = x98_.toInt := by rw [w130]
          refine r_aload_n hC dX10_readKnower_128 2 rfl ?_
          refine r_getr hC 4 (ci := 10) rfl u10_in (by decide) mT_4_239 dX10_readKnower_129 ka0 rfl rfl hbr ?_
          obtain ⟨a131_, hb131, hk131, hn131⟩ := hs125.row krm 27 84 19 (by decide) (by decide)
          refine r_getrN hC 27 (ci := 9) rfl u9_in (by decide) nF_27 dX10_readKnower_132 krm rfl rfl hb131 ?_
          refine r_iload_n hC dX10_readKnower_135 1 rfl ?_
          refine x_iaload hC hk131 hn131 (by decide) rfl rfl dX10_readKnower_136 (by omega) (by omega) (fun x132_ e132 => ?_)
          refine x_iastore hC hk129 hn129 (by decide) rfl rfl dX10_readKnower_137 (by omega) (by omega) (fun I133 eI133 => ?_)
          have hs133 := hs125.put0 eI133 hk129 (rng_arr (by decide) _) rfl (xF_arr (by decide) _) (by decide)
          have hF133 := hF125.put eI133 hk129 (inS_arr rfl _)
          refine r_aload_n hC dX10_readKnower_138 2 rfl ?_
          refine r_getr hC 4 (ci := 10) rfl u10_in (by decide) mT_4_239 dX10_readKnower_139 ka0 rfl rfl hbr ?_
          obtain ⟨a134_, hb134, hk134, hn134⟩ := hs133.row krm 24 81 4 (by decide) (by decide)
          refine r_getrN hC 24 (ci := 9) rfl u9_in (by decide) nF_24 dX10_readKnower_142 krm rfl rfl hb134 ?_
          refine r_aload_n hC dX10_readKnower_145 2 rfl ?_
          refine r_getr hC 4 (ci := 10) rfl u10_in (by decide) mT_4_239 dX10_readKnower_146 ka0 rfl rfl hbr ?_
          refine r_getiN hC 9 (ci := 9) rfl u9_in (by decide) nF_9 dX10_readKnower_149 krm rfl rfl (fun x135_ e135 => ?_)
          have r135 := hs133.rng krm rfl e135
          have f135 : x135_.toInt = (I133 rm 9).toInt := by rw [e135]
          have w135 : x135_ = x130_ := by rw [e135]; exact (Eq.trans (up2_kk eI133 hk129 krm (by decide)) e130.symm)
          have wt135 : x135_.toInt = x130_.toInt := by rw [w135]
          refine r_iload_n hC dX10_readKnower_152 0 rfl ?_
          refine x_iastore hC hk134 hn134 (by decide) rfl rfl dX10_readKnower_153 (by omega) (by omega) (fun I136 eI136 => ?_)
          have hs136 := hs133.put0 eI136 hk134 (rng_arr (by decide) _) rfl (xF_arr (by decide) _) (by decide)
          have hF136 := hF133.put eI136 hk134 (inS_arr rfl _)
          refine r_aload_n hC dX10_readKnower_154 2 rfl ?_
          refine r_getr hC 4 (ci := 10) rfl u10_in (by decide) mT_4_239 dX10_readKnower_155 ka0 rfl rfl hbr ?_
          refine r_dup hC dX10_readKnower_158 rfl ?_
          refine r_getiN hC 9 (ci := 9) rfl u9_in (by decide) nF_9 dX10_readKnower_159 krm rfl rfl (fun x137_ e137 => ?_)
          have r137 := hs136.rng krm rfl e137
          have f137 : x137_.toInt = (I136 rm 9).toInt := by rw [e137]
          have w137 : x137_ = x135_ := by rw [e137]; exact (Eq.trans (up2_kk eI136 hk134 krm (by decide)) e135.symm)
          have wt137 : x137_.toInt = x135_.toInt := by rw [w137]
          refine r_iconst hC (v := (1)) dX10_readKnower_162 (by decide) (by decide) (fun x138_ e138 t138 => ?_)
          refine r_iadd hC dX10_readKnower_163 (fun x139_ e139 => ?_)
          try have t139 : x139_.toInt = x137_.toInt + x138_.toInt := by rw [e139]; exact ti_add (by omega) (by omega)
          refine r_putiN hC 9 (ci := 9) rfl u9_in tyX9_ok nmX9 (by decide) nF_9 rfl rfl rfl dX10_readKnower_164 krm rfl rfl (fun I140 eI140 => ?_)
          have hs140 := hs136.put1 eI140 krm rfl (by omega) (by omega) rfl rfl (by decide)
          have hF140 := hF136.put eI140 krm rfl
          have hG3 : I140 rm 3 = G3 := (Eq.trans (up2_at (Or.inr (by decide)) eI140) (Eq.trans (up2_kk eI136 hk134 krm (by decide)) (Eq.trans (up2_kk eI133 hk129 krm (by decide)) (Eq.trans (hf125.get krm rfl) (Eq.trans (hf121.get krm rfl) (Eq.trans (hf119.get krm rfl) (Eq.trans (hf112.get krm rfl) (Eq.trans (hf107.get krm rfl) (Eq.trans (hf105.get krm rfl) (Eq.trans (hf100.get krm rfl) (Eq.trans (hf4.get krm rfl) eG3.symm)))))))))))
          have hG3t : (I140 rm 3).toInt = G3.toInt := congrArg Int32.toInt hG3
          have hG4 : I140 rm 4 = G4 := (Eq.trans (up2_at (Or.inr (by decide)) eI140) (Eq.trans (up2_kk eI136 hk134 krm (by decide)) (Eq.trans (up2_kk eI133 hk129 krm (by decide)) (Eq.trans (hf125.get krm rfl) (Eq.trans (hf121.get krm rfl) (Eq.trans (hf119.get krm rfl) (Eq.trans (hf112.get krm rfl) (Eq.trans (hf107.get krm rfl) (Eq.trans (hf105.get krm rfl) (Eq.trans (hf100.get krm rfl) (Eq.trans (hf4.get krm rfl) eG4.symm)))))))))))
          have hG4t : (I140 rm 4).toInt = G4.toInt := congrArg Int32.toInt hG4
          have hG7 : I140 rm 7 = G7 := (Eq.trans (up2_at (Or.inr (by decide)) eI140) (Eq.trans (up2_kk eI136 hk134 krm (by decide)) (Eq.trans (up2_kk eI133 hk129 krm (by decide)) (Eq.trans (hf125.get krm rfl) (Eq.trans (hf121.get krm rfl) (Eq.trans (hf119.get krm rfl) (Eq.trans (hf112.get krm rfl) (Eq.trans (hf107.get krm rfl) (Eq.trans (hf105.get krm rfl) (Eq.trans (hf100.get krm rfl) (Eq.trans (hf4.get krm rfl) eG7.symm)))))))))))
          have hG7t : (I140 rm 7).toInt = G7.toInt := congrArg Int32.toInt hG7
          have hG8 : I140 rm 8 = G8 := (Eq.trans (up2_at (Or.inr (by decide)) eI140) (Eq.trans (up2_kk eI136 hk134 krm (by decide)) (Eq.trans (up2_kk eI133 hk129 krm (by decide)) (Eq.trans (hf125.get krm rfl) (Eq.trans (hf121.get krm rfl) (Eq.trans (hf119.get krm rfl) (Eq.trans (hf112.get krm rfl) (Eq.trans (hf107.get krm rfl) (Eq.trans (hf105.get krm rfl) (Eq.trans (hf100.get krm rfl) (Eq.trans (hf4.get krm rfl) eG8.symm)))))))))))
          have hG8t : (I140 rm 8).toInt = G8.toInt := congrArg Int32.toInt hG8
          have hG9 : I140 rm 9 = x139_ := (by rw [eI140]; exact up2_self _ _ _ _)
          have hG9t : (I140 rm 9).toInt = x139_.toInt := congrArg Int32.toInt hG9
          have hGN : I140 rm 10 = N1 := (Eq.trans (up2_at (Or.inr (by decide)) eI140) (Eq.trans (up2_kk eI136 hk134 krm (by decide)) (Eq.trans (up2_kk eI133 hk129 krm (by decide)) (Eq.trans (hf125.get krm rfl) (Eq.trans (hf121.get krm rfl) (Eq.trans (hf119.get krm rfl) (Eq.trans (hf112.get krm rfl) (Eq.trans (hf107.get krm rfl) (Eq.trans (hf105.get krm rfl) eN1.symm)))))))))
          have hGNt : (I140 rm 10).toInt = N1.toInt := congrArg Int32.toInt hGN
          have hv8 : I140 a0 8 = A9 := (Eq.trans (up2_kk eI140 krm ka0 (by decide)) (Eq.trans (up2_kk eI136 hk134 ka0 (by decide)) (Eq.trans (up2_kk eI133 hk129 ka0 (by decide)) eA9.symm)))
          have hv8t : (I140 a0 8).toInt = A9.toInt := congrArg Int32.toInt hv8
          have hv9 : I140 a0 9 = x126_ := (Eq.trans (up2_kk eI140 krm ka0 (by decide)) (Eq.trans (up2_kk eI136 hk134 ka0 (by decide)) (Eq.trans (up2_kk eI133 hk129 ka0 (by decide)) e126.symm)))
          have hv9t : (I140 a0 9).toInt = x126_.toInt := congrArg Int32.toInt hv9
          exact r_vret hC hQ hlk hr (by decide) (by decide) dX10_readKnower_167 ⟨_, _, rfl, rfl, ⟨hs140, hF140, hFJ125, (by first | (left; omega) | (right; omega)), (by omega), (by omega), (by omega)⟩⟩
        · have hG3 : I125 rm 3 = G3 := (Eq.trans (hf125.get krm rfl) (Eq.trans (hf121.get krm rfl) (Eq.trans (hf119.get krm rfl) (Eq.trans (hf112.get krm rfl) (Eq.trans (hf107.get krm rfl) (Eq.trans (hf105.get krm rfl) (Eq.trans (hf100.get krm rfl) (Eq.trans (hf4.get krm rfl) eG3.symm))))))))
          have hG3t : (I125 rm 3).toInt = G3.toInt := congrArg Int32.toInt hG3
          have hG4 : I125 rm 4 = G4 := (Eq.trans (hf125.get krm rfl) (Eq.trans (hf121.get krm rfl) (Eq.trans (hf119.get krm rfl) (Eq.trans (hf112.get krm rfl) (Eq.trans (hf107.get krm rfl) (Eq.trans (hf105.get krm rfl) (Eq.trans (hf100.get krm rfl) (Eq.trans (hf4.get krm rfl) eG4.symm))))))))
          have hG4t : (I125 rm 4).toInt = G4.toInt := congrArg Int32.toInt hG4
          have hG7 : I125 rm 7 = G7 := (Eq.trans (hf125.get krm rfl) (Eq.trans (hf121.get krm rfl) (Eq.trans (hf119.get krm rfl) (Eq.trans (hf112.get krm rfl) (Eq.trans (hf107.get krm rfl) (Eq.trans (hf105.get krm rfl) (Eq.trans (hf100.get krm rfl) (Eq.trans (hf4.get krm rfl) eG7.symm))))))))
          have hG7t : (I125 rm 7).toInt = G7.toInt := congrArg Int32.toInt hG7
          have hG8 : I125 rm 8 = G8 := (Eq.trans (hf125.get krm rfl) (Eq.trans (hf121.get krm rfl) (Eq.trans (hf119.get krm rfl) (Eq.trans (hf112.get krm rfl) (Eq.trans (hf107.get krm rfl) (Eq.trans (hf105.get krm rfl) (Eq.trans (hf100.get krm rfl) (Eq.trans (hf4.get krm rfl) eG8.symm))))))))
          have hG8t : (I125 rm 8).toInt = G8.toInt := congrArg Int32.toInt hG8
          have hG9 : I125 rm 9 = x98_ := (Eq.trans (hf125.get krm rfl) (Eq.trans (hf121.get krm rfl) (Eq.trans (hf119.get krm rfl) (Eq.trans (hf112.get krm rfl) (Eq.trans (hf107.get krm rfl) (Eq.trans (hf105.get krm rfl) (Eq.trans (hf100.get krm rfl) e98.symm)))))))
          have hG9t : (I125 rm 9).toInt = x98_.toInt := congrArg Int32.toInt hG9
          have hGN : I125 rm 10 = N1 := (Eq.trans (hf125.get krm rfl) (Eq.trans (hf121.get krm rfl) (Eq.trans (hf119.get krm rfl) (Eq.trans (hf112.get krm rfl) (Eq.trans (hf107.get krm rfl) (Eq.trans (hf105.get krm rfl) eN1.symm))))))
          have hGNt : (I125 rm 10).toInt = N1.toInt := congrArg Int32.toInt hGN
          have hv8 : I125 a0 8 = A9 := eA9.symm
          have hv8t : (I125 a0 8).toInt = A9.toInt := congrArg Int32.toInt hv8
          have hv9 : I125 a0 9 = x126_ := e126.symm
          have hv9t : (I125 a0 9).toInt = x126_.toInt := congrArg Int32.toInt hv9
          exact r_vret hC hQ hlk hr (by decide) (by decide) dX10_readKnower_113 ⟨_, _, rfl, rfl, ⟨hs125, hF125, hFJ125, (by first | (left; omega) | (right; omega)), (by omega), (by omega), (by omega)⟩⟩
      · refine r_aload_n hC dX10_readKnower_72 1 rfl ?_
        refine r_getr hC 4 (ci := 10) rfl u10_in (by decide) mT_4_239 dX10_readKnower_73 ka0 rfl rfl hbr ?_
        obtain ⟨a141_, hb141, hk141, hn141⟩ := hs112.row krm 26 83 19 (by decide) (by decide)
        refine r_getrN hC 26 (ci := 9) rfl u9_in (by decide) nF_26 dX10_readKnower_76 krm rfl rfl hb141 ?_
        refine r_iload_n hC dX10_readKnower_79 0 rfl ?_
        refine x_iaload hC hk141 hn141 (by decide) rfl rfl dX10_readKnower_80 (by omega) (by omega) (fun x142_ e142 => ?_)
        refine r_if_eq hC (tgt := 89) dX10_readKnower_81 (by decide) (fun c143 => ?_) (fun c143 => ?_)
        · refine r_aload_n hC dX10_readKnower_89 1 rfl ?_
          have md144 : (I112 a0 9).toInt = 5 := by omega
          refine r_callV hC (As := []) (rest := []) (ci := 10) (c_X10_goesOn g (xL X) K len I112 J107 R hs112 a0 ka0) mT_5_199 mT_1_10 mT_5_196 mT_5_198 mP_49 okX10_goesOn ⟨by decide, by decide⟩ rfl (by show kO (K a0) = _; rw [ka0]; rfl) rfl rfl (Nat.le_of_ble_eq_true rfl) ⟨by decide, by decide⟩ dX10_readKnower_90 (aV2 (F := fun st M => P g X 3 93 [(1, .int x114_), (0, .ref a0)] st _ _ M) (M := (K, len, I112, J107, R)) fun I145 J145 h145 => ?_)
          obtain ⟨hs145, hf145, hfj145, k145_0, k145_1, k145_2, k145_3⟩ := h145
          show P g X 3 93 [(1, .int x114_), (0, .ref a0)] [] _ _ (K, len, I145, J145, R)
          have hF145 : Fr K [(10, 9), (10, 10), (11, 8), (11, 9), (11, 10), (11, 11), (11, 12), (11, 13), (80, 999), (81, 999), (83, 999), (84, 999)] I I145 := hF112.trans hf145 rfl rfl
          have hFJ145 : Fr K [(11, 14), (82, 999)] J J145 := hFJ107.trans hfj145 rfl rfl
          have sf145 := k145_0 md144
          clear k145_0 k145_1 k145_3 md144
          refine r_aload_n hC dX10_readKnower_93 1 rfl ?_
          refine r_ldcwS hC (i := 59) (by decide) rfl rfl dX10_readKnower_94 ?_
          refine r_iconst hC (v := (0)) dX10_readKnower_97 (by decide) (by decide) (fun x146_ e146 t146 => ?_)
          refine r_sipush hC (v := (999)) dX10_readKnower_98 (by decide) (by decide) (fun x147_ e147 t147 => ?_)
          have md148 : (I145 a0 9).toInt = 5 := by omega
          refine r_callV hC (As := [.ref (g.2.2.1 59), .int x146_, .int x147_]) (rest := []) (ci := 10) (c_X10_readPart g (xL X) K len I145 J145 R hs145 a0 ka0 59 (by decide) x146_ x147_) mT_6_1 mT_1_10 mT_5_238 mT_6_0 mP_56 okX10_readPart ⟨by decide, by decide⟩ rfl (by show kO (K a0) = _; rw [ka0]; rfl) rfl rfl (Nat.le_of_ble_eq_true rfl) ⟨by decide, by decide⟩ dX10_readKnower_101 (aI2 (F := fun st M => P g X 3 104 [(1, .int x114_), (0, .ref a0)] st _ _ M) (M := (K, len, I145, J145, R)) fun x149_ I149 J149 h149 => ?_)
          obtain ⟨hs149, hf149, hfj149, k149_0, k149_1, k149_2, k149_3⟩ := h149
          show P g X 3 104 [(1, .int x114_), (0, .ref a0)] [.int x149_] _ _ (K, len, I149, J149, R)
          have hF149 : Fr K [(10, 9), (10, 10), (11, 8), (11, 9), (11, 10), (11, 11), (11, 12), (11, 13), (80, 999), (81, 999), (83, 999), (84, 999)] I I149 := hF145.trans hf149 rfl rfl
          have hFJ149 : Fr K [(11, 14), (82, 999)] J J149 := hFJ145.trans hfj149 rfl rfl
          have sf149 := k149_0 md148
          clear k149_0 k149_1 k149_3 md148 sf145
          refine r_istore_n hC (lv' := [(2, .int x149_), (1, .int x114_), (0, .ref a0)]) dX10_readKnower_104 (by decide) rfl ?_
          refine r_aload_n hC dX10_readKnower_105 2 rfl ?_
          obtain ⟨A9, eA9⟩ : ∃ z : Int32, z = I149 a0 8 := ⟨_, rfl⟩
          have fA9 : A9.toInt = (I149 a0 8).toInt := by rw [eA9]
          have rA9 := hs149.rng ka0 rfl eA9
          refine r_geti hC 9 (ci := 10) rfl u10_in (by decide) mT_5_4 dX10_readKnower_106 ka0 rfl rfl (fun x150_ e150 => ?_)
          have f150 : x150_.toInt = (I149 a0 9).toInt := by rw [e150]
          refine r_iconst hC (v := (5)) dX10_readKnower_109 (by decide) (by decide) (fun x151_ e151 t151 => ?_)
          refine r_icmp_ne hC (tgt := 114) dX10_readKnower_110 (by decide) (fun c152 => ?_) (fun c152 => ?_)
          · refine r_aload_n hC dX10_readKnower_114 2 rfl ?_
            refine r_getr hC 4 (ci := 10) rfl u10_in (by decide) mT_4_239 dX10_readKnower_115 ka0 rfl rfl hbr ?_
            obtain ⟨a153_, hb153, hk153, hn153⟩ := hs149.row krm 23 80 4 (by decide) (by decide)
            refine r_getrN hC 23 (ci := 9) rfl u9_in (by decide) nF_23 dX10_readKnower_118 krm rfl rfl hb153 ?_
            refine r_aload_n hC dX10_readKnower_121 2 rfl ?_
            refine r_getr hC 4 (ci := 10) rfl u10_in (by decide) mT_4_239 dX10_readKnower_122 ka0 rfl rfl hbr ?_
            refine r_getiN hC 9 (ci := 9) rfl u9_in (by decide) nF_9 dX10_readKnower_125 krm rfl rfl (fun x154_ e154 => ?_)
            have r154 := hs149.rng krm rfl e154
            have f154 : x154_.toInt = (I149 rm 9).toInt := by rw [e154]
            have w154 : x154_ = x98_ := by rw [e154]; exact (Eq.trans (hf149.get krm rfl) (Eq.trans (hf145.get krm rfl) (Eq.trans (hf112.get krm rfl) (Eq.trans (hf107.get krm rfl) (Eq.trans (hf105.get krm rfl) (Eq.trans (hf100.get krm rfl) e98.symm))))))
            have wt154 : x154_.toInt = x98_.toInt := by rw [w154]
            refine r_aload_n hC dX10_readKnower_128 2 rfl ?_
            refine r_getr hC 4 (ci := 10) rfl u10_in (by decide) mT_4_239 dX10_readKnower_129 ka0 rfl rfl hbr ?_
            obtain ⟨a155_, hb155, hk155, hn155⟩ := hs149.row krm 27 84 19 (by decide) (by decide)
            refine r_getrN hC 27 (ci := 9) rfl u9_in (by decide) nF_27 dX10_readKnower_132 krm rfl rfl hb155 ?_
            refine r_iload_n hC dX10_readKnower_135 1 rfl ?_
            refine x_iaload hC hk155 hn155 (by decide) rfl rfl dX10_readKnower_136 (by omega) (by omega) (fun x156_ e156 => ?_)
            refine x_iastore hC hk153 hn153 (by decide) rfl rfl dX10_readKnower_137 (by omega) (by omega) (fun I157 eI157 => ?_)
            have hs157 := hs149.put0 eI157 hk153 (rng_arr (by decide) _) rfl (xF_arr (by decide) _) (by decide)
            have hF157 := hF149.put eI157 hk153 (inS_arr rfl _)
            refine r_aload_n hC dX10_readKnower_138 2 rfl ?_
            refine r_getr hC 4 (ci := 10) rfl u10_in (by decide) mT_4_239 dX10_readKnower_139 ka0 rfl rfl hbr ?_
            obtain ⟨a158_, hb158, hk158, hn158⟩ := hs157.row krm 24 81 4 (by decide) (by decide)
            refine r_getrN hC 24 (ci := 9) rfl u9_in (by decide) nF_24 dX10_readKnower_142 krm rfl rfl hb158 ?_
            refine r_aload_n hC dX10_readKnower_145 2 rfl ?_
            refine r_getr hC 4 (ci := 10) rfl u10_in (by decide) mT_4_239 dX10_readKnower_146 ka0 rfl rfl hbr ?_
            refine r_getiN hC 9 (ci := 9) rfl u9_in (by decide) nF_9 dX10_readKnower_149 krm rfl rfl (fun x159_ e159 => ?_)
            have r159 := hs157.rng krm rfl e159
            have f159 : x159_.toInt = (I157 rm 9).toInt := by rw [e159]
            have w159 : x159_ = x154_ := by rw [e159]; exact (Eq.trans (up2_kk eI157 hk153 krm (by decide)) e154.symm)
            have wt159 : x159_.toInt = x154_.toInt := by rw [w159]
            refine r_iload_n hC dX10_readKnower_152 0 rfl ?_
            refine x_iastore hC hk158 hn158 (by decide) rfl rfl dX10_readKnower_153 (by omega) (by omega) (fun I160 eI160 => ?_)
            have hs160 := hs157.put0 eI160 hk158 (rng_arr (by decide) _) rfl (xF_arr (by decide) _) (by decide)
            have hF160 := hF157.put eI160 hk158 (inS_arr rfl _)
            refine r_aload_n hC dX10_readKnower_154 2 rfl ?_
            refine r_getr hC 4 (ci := 10) rfl u10_in (by decide) mT_4_239 dX10_readKnower_155 ka0 rfl rfl hbr ?_
            refine r_dup hC dX10_readKnower_158 rfl ?_
            refine r_getiN hC 9 (ci := 9) rfl u9_in (by decide) nF_9 dX10_readKnower_159 krm rfl rfl (fun x161_ e161 => ?_)
            have r161 := hs160.rng krm rfl e161
            have f161 : x161_.toInt = (I160 rm 9).toInt := by rw [e161]
            have w161 : x161_ = x159_ := by rw [e161]; exact (Eq.trans (up2_kk eI160 hk158 krm (by decide)) e159.symm)
            have wt161 : x161_.toInt = x159_.toInt := by rw [w161]
            refine r_iconst hC (v := (1)) dX10_readKnower_162 (by decide) (by decide) (fun x162_ e162 t162 => ?_)
            refine r_iadd hC dX10_readKnower_163 (fun x163_ e163 => ?_)
            try have t163 : x163_.toInt = x161_.toInt + x162_.toInt := by rw [e163]; exact ti_add (by omega) (by omega)
            refine r_putiN hC 9 (ci := 9) rfl u9_in tyX9_ok nmX9 (by decide) nF_9 rfl rfl rfl dX10_readKnower_164 krm rfl rfl (fun I164 eI164 => ?_)
            have hs164 := hs160.put1 eI164 krm rfl (by omega) (by omega) rfl rfl (by decide)
            have hF164 := hF160.put eI164 krm rfl
            have hG3 : I164 rm 3 = G3 := (Eq.trans (up2_at (Or.inr (by decide)) eI164) (Eq.trans (up2_kk eI160 hk158 krm (by decide)) (Eq.trans (up2_kk eI157 hk153 krm (by decide)) (Eq.trans (hf149.get krm rfl) (Eq.trans (hf145.get krm rfl) (Eq.trans (hf112.get krm rfl) (Eq.trans (hf107.get krm rfl) (Eq.trans (hf105.get krm rfl) (Eq.trans (hf100.get krm rfl) (Eq.trans (hf4.get krm rfl) eG3.symm))))))))))
            have hG3t : (I164 rm 3).toInt = G3.toInt := congrArg Int32.toInt hG3
            have hG4 : I164 rm 4 = G4 := (Eq.trans (up2_at (Or.inr (by decide)) eI164) (Eq.trans (up2_kk eI160 hk158 krm (by decide)) (Eq.trans (up2_kk eI157 hk153 krm (by decide)) (Eq.trans (hf149.get krm rfl) (Eq.trans (hf145.get krm rfl) (Eq.trans (hf112.get krm rfl) (Eq.trans (hf107.get krm rfl) (Eq.trans (hf105.get krm rfl) (Eq.trans (hf100.get krm rfl) (Eq.trans (hf4.get krm rfl) eG4.symm))))))))))
            have hG4t : (I164 rm 4).toInt = G4.toInt := congrArg Int32.toInt hG4
            have hG7 : I164 rm 7 = G7 := (Eq.trans (up2_at (Or.inr (by decide)) eI164) (Eq.trans (up2_kk eI160 hk158 krm (by decide)) (Eq.trans (up2_kk eI157 hk153 krm (by decide)) (Eq.trans (hf149.get krm rfl) (Eq.trans (hf145.get krm rfl) (Eq.trans (hf112.get krm rfl) (Eq.trans (hf107.get krm rfl) (Eq.trans (hf105.get krm rfl) (Eq.trans (hf100.get krm rfl) (Eq.trans (hf4.get krm rfl) eG7.symm))))))))))
            have hG7t : (I164 rm 7).toInt = G7.toInt := congrArg Int32.toInt hG7
            have hG8 : I164 rm 8 = G8 := (Eq.trans (up2_at (Or.inr (by decide)) eI164) (Eq.trans (up2_kk eI160 hk158 krm (by decide)) (Eq.trans (up2_kk eI157 hk153 krm (by decide)) (Eq.trans (hf149.get krm rfl) (Eq.trans (hf145.get krm rfl) (Eq.trans (hf112.get krm rfl) (Eq.trans (hf107.get krm rfl) (Eq.trans (hf105.get krm rfl) (Eq.trans (hf100.get krm rfl) (Eq.trans (hf4.get krm rfl) eG8.symm))))))))))
            have hG8t : (I164 rm 8).toInt = G8.toInt := congrArg Int32.toInt hG8
            have hG9 : I164 rm 9 = x163_ := (by rw [eI164]; exact up2_self _ _ _ _)
            have hG9t : (I164 rm 9).toInt = x163_.toInt := congrArg Int32.toInt hG9
            have hGN : I164 rm 10 = N1 := (Eq.trans (up2_at (Or.inr (by decide)) eI164) (Eq.trans (up2_kk eI160 hk158 krm (by decide)) (Eq.trans (up2_kk eI157 hk153 krm (by decide)) (Eq.trans (hf149.get krm rfl) (Eq.trans (hf145.get krm rfl) (Eq.trans (hf112.get krm rfl) (Eq.trans (hf107.get krm rfl) (Eq.trans (hf105.get krm rfl) eN1.symm))))))))
            have hGNt : (I164 rm 10).toInt = N1.toInt := congrArg Int32.toInt hGN
            have hv8 : I164 a0 8 = A9 := (Eq.trans (up2_kk eI164 krm ka0 (by decide)) (Eq.trans (up2_kk eI160 hk158 ka0 (by decide)) (Eq.trans (up2_kk eI157 hk153 ka0 (by decide)) eA9.symm)))
            have hv8t : (I164 a0 8).toInt = A9.toInt := congrArg Int32.toInt hv8
            have hv9 : I164 a0 9 = x150_ := (Eq.trans (up2_kk eI164 krm ka0 (by decide)) (Eq.trans (up2_kk eI160 hk158 ka0 (by decide)) (Eq.trans (up2_kk eI157 hk153 ka0 (by decide)) e150.symm)))
            have hv9t : (I164 a0 9).toInt = x150_.toInt := congrArg Int32.toInt hv9
            exact r_vret hC hQ hlk hr (by decide) (by decide) dX10_readKnower_167 ⟨_, _, rfl, rfl, ⟨hs164, hF164, hFJ149, (by first | (left; omega) | (right; omega)), (by omega), (by omega), (by omega)⟩⟩
          · have hG3 : I149 rm 3 = G3 := (Eq.trans (hf149.get krm rfl) (Eq.trans (hf145.get krm rfl) (Eq.trans (hf112.get krm rfl) (Eq.trans (hf107.get krm rfl) (Eq.trans (hf105.get krm rfl) (Eq.trans (hf100.get krm rfl) (Eq.trans (hf4.get krm rfl) eG3.symm)))))))
            have hG3t : (I149 rm 3).toInt = G3.toInt := congrArg Int32.toInt hG3
            have hG4 : I149 rm 4 = G4 := (Eq.trans (hf149.get krm rfl) (Eq.trans (hf145.get krm rfl) (Eq.trans (hf112.get krm rfl) (Eq.trans (hf107.get krm rfl) (Eq.trans (hf105.get krm rfl) (Eq.trans (hf100.get krm rfl) (Eq.trans (hf4.get krm rfl) eG4.symm)))))))
            have hG4t : (I149 rm 4).toInt = G4.toInt := congrArg Int32.toInt hG4
            have hG7 : I149 rm 7 = G7 := (Eq.trans (hf149.get krm rfl) (Eq.trans (hf145.get krm rfl) (Eq.trans (hf112.get krm rfl) (Eq.trans (hf107.get krm rfl) (Eq.trans (hf105.get krm rfl) (Eq.trans (hf100.get krm rfl) (Eq.trans (hf4.get krm rfl) eG7.symm)))))))
            have hG7t : (I149 rm 7).toInt = G7.toInt := congrArg Int32.toInt hG7
            have hG8 : I149 rm 8 = G8 := (Eq.trans (hf149.get krm rfl) (Eq.trans (hf145.get krm rfl) (Eq.trans (hf112.get krm rfl) (Eq.trans (hf107.get krm rfl) (Eq.trans (hf105.get krm rfl) (Eq.trans (hf100.get krm rfl) (Eq.trans (hf4.get krm rfl) eG8.symm)))))))
            have hG8t : (I149 rm 8).toInt = G8.toInt := congrArg Int32.toInt hG8
            have hG9 : I149 rm 9 = x98_ := (Eq.trans (hf149.get krm rfl) (Eq.trans (hf145.get krm rfl) (Eq.trans (hf112.get krm rfl) (Eq.trans (hf107.get krm rfl) (Eq.trans (hf105.get krm rfl) (Eq.trans (hf100.get krm rfl) e98.symm))))))
            have hG9t : (I149 rm 9).toInt = x98_.toInt := congrArg Int32.toInt hG9
            have hGN : I149 rm 10 = N1 := (Eq.trans (hf149.get krm rfl) (Eq.trans (hf145.get krm rfl) (Eq.trans (hf112.get krm rfl) (Eq.trans (hf107.get krm rfl) (Eq.trans (hf105.get krm rfl) eN1.symm)))))
            have hGNt : (I149 rm 10).toInt = N1.toInt := congrArg Int32.toInt hGN
            have hv8 : I149 a0 8 = A9 := eA9.symm
            have hv8t : (I149 a0 8).toInt = A9.toInt := congrArg Int32.toInt hv8
            have hv9 : I149 a0 9 = x150_ := e150.symm
            have hv9t : (I149 a0 9).toInt = x150_.toInt := congrArg Int32.toInt hv9
            exact r_vret hC hQ hlk hr (by decide) (by decide) dX10_readKnower_113 ⟨_, _, rfl, rfl, ⟨hs149, hF149, hFJ149, (by first | (left; omega) | (right; omega)), (by omega), (by omega), (by omega)⟩⟩
        · refine r_aload_n hC dX10_readKnower_84 1 rfl ?_
          refine r_iconst hC (v := (2)) dX10_readKnower_85 (by decide) (by decide) (fun x165_ e165 t165 => ?_)
          have md166 : (I112 a0 9).toInt = 5 := by omega
          refine r_callV hC (As := [.int x165_]) (rest := []) (ci := 10) (c_X10_wrong g (xL X) K len I112 J107 R hs112 a0 ka0 x165_) mT_5_236 mT_1_10 mT_5_233 mT_5_235 mP_55 okX10_wrong ⟨by decide, by decide⟩ rfl (by show kO (K a0) = _; rw [ka0]; rfl) rfl rfl (Nat.le_of_ble_eq_true rfl) ⟨by decide, by decide⟩ dX10_readKnower_86 (aV1 (F := fun st M => P g X 3 89 [(1, .int x114_), (0, .ref a0)] st _ _ M) (M := (K, len, I112, J107, R)) fun I167 h167 => ?_)
          obtain ⟨hs167, hf167, k167_0, k167_1⟩ := h167
          show P g X 3 89 [(1, .int x114_), (0, .ref a0)] [] _ _ (K, len, I167, J107, R)
          have hF167 : Fr K [(10, 9), (10, 10), (11, 8), (11, 9), (11, 10), (11, 11), (11, 12), (11, 13), (80, 999), (81, 999), (83, 999), (84, 999)] I I167 := hF112.trans hf167 rfl rfl
          clear md166
          refine r_aload_n hC dX10_readKnower_89 1 rfl ?_
          have md168 : (I167 a0 9).toInt = 5 := by omega
          refine r_callV hC (As := []) (rest := []) (ci := 10) (c_X10_goesOn g (xL X) K len I167 J107 R hs167 a0 ka0) mT_5_199 mT_1_10 mT_5_196 mT_5_198 mP_49 okX10_goesOn ⟨by decide, by decide⟩ rfl (by show kO (K a0) = _; rw [ka0]; rfl) rfl rfl (Nat.le_of_ble_eq_true rfl) ⟨by decide, by decide⟩ dX10_readKnower_90 (aV2 (F := fun st M => P g X 3 93 [(1, .int x114_), (0, .ref a0)] st _ _ M) (M := (K, len, I167, J107, R)) fun I169 J169 h169 => ?_)
          obtain ⟨hs169, hf169, hfj169, k169_0, k169_1, k169_2, k169_3⟩ := h169
          show P g X 3 93 [(1, .int x114_), (0, .ref a0)] [] _ _ (K, len, I169, J169, R)
          have hF169 : Fr K [(10, 9), (10, 10), (11, 8), (11, 9), (11, 10), (11, 11), (11, 12), (11, 13), (80, 999), (81, 999), (83, 999), (84, 999)] I I169 := hF167.trans hf169 rfl rfl
          have hFJ169 : Fr K [(11, 14), (82, 999)] J J169 := hFJ107.trans hfj169 rfl rfl
          have sf169 := k169_0 md168
          clear k169_0 k169_1 k169_3 md168
          refine r_aload_n hC dX10_readKnower_93 1 rfl ?_
          refine r_ldcwS hC (i := 59) (by decide) rfl rfl dX10_readKnower_94 ?_
          refine r_iconst hC (v := (0)) dX10_readKnower_97 (by decide) (by decide) (fun x170_ e170 t170 => ?_)
          refine r_sipush hC (v := (999)) dX10_readKnower_98 (by decide) (by decide) (fun x171_ e171 t171 => ?_)
          have md172 : (I169 a0 9).toInt = 5 := by omega
          refine r_callV hC (As := [.ref (g.2.2.1 59), .int x170_, .int x171_]) (rest := []) (ci := 10) (c_X10_readPart g (xL X) K len I169 J169 R hs169 a0 ka0 59 (by decide) x170_ x171_) mT_6_1 mT_1_10 mT_5_238 mT_6_0 mP_56 okX10_readPart ⟨by decide, by decide⟩ rfl (by show kO (K a0) = _; rw [ka0]; rfl) rfl rfl (Nat.le_of_ble_eq_true rfl) ⟨by decide, by decide⟩ dX10_readKnower_101 (aI2 (F := fun st M => P g X 3 104 [(1, .int x114_), (0, .ref a0)] st _ _ M) (M := (K, len, I169, J169, R)) fun x173_ I173 J173 h173 => ?_)
          obtain ⟨hs173, hf173, hfj173, k173_0, k173_1, k173_2, k173_3⟩ := h173
          show P g X 3 104 [(1, .int x114_), (0, .ref a0)] [.int x173_] _ _ (K, len, I173, J173, R)
          have hF173 : Fr K [(10, 9), (10, 10), (11, 8), (11, 9), (11, 10), (11, 11), (11, 12), (11, 13), (80, 999), (81, 999), (83, 999), (84, 999)] I I173 := hF169.trans hf173 rfl rfl
          have hFJ173 : Fr K [(11, 14), (82, 999)] J J173 := hFJ169.trans hfj173 rfl rfl
          have sf173 := k173_0 md172
          clear k173_0 k173_1 k173_3 md172 sf169
          refine r_istore_n hC (lv' := [(2, .int x173_), (1, .int x114_), (0, .ref a0)]) dX10_readKnower_104 (by decide) rfl ?_
          refine r_aload_n hC dX10_readKnower_105 2 rfl ?_
          obtain ⟨A9, eA9⟩ : ∃ z : Int32, z = I173 a0 8 := ⟨_, rfl⟩
          have fA9 : A9.toInt = (I173 a0 8).toInt := by rw [eA9]
          have rA9 := hs173.rng ka0 rfl eA9
          refine r_geti hC 9 (ci := 10) rfl u10_in (by decide) mT_5_4 dX10_readKnower_106 ka0 rfl rfl (fun x174_ e174 => ?_)
          have f174 : x174_.toInt = (I173 a0 9).toInt := by rw [e174]
          refine r_iconst hC (v := (5)) dX10_readKnower_109 (by decide) (by decide) (fun x175_ e175 t175 => ?_)
          refine r_icmp_ne hC (tgt := 114) dX10_readKnower_110 (by decide) (fun c176 => ?_) (fun c176 => ?_)
          · refine r_aload_n hC dX10_readKnower_114 2 rfl ?_
            refine r_getr hC 4 (ci := 10) rfl u10_in (by decide) mT_4_239 dX10_readKnower_115 ka0 rfl rfl hbr ?_
            obtain ⟨a177_, hb177, hk177, hn177⟩ := hs173.row krm 23 80 4 (by decide) (by decide)
            refine r_getrN hC 23 (ci := 9) rfl u9_in (by decide) nF_23 dX10_readKnower_118 krm rfl rfl hb177 ?_
            refine r_aload_n hC dX10_readKnower_121 2 rfl ?_
            refine r_getr hC 4 (ci := 10) rfl u10_in (by decide) mT_4_239 dX10_readKnower_122 ka0 rfl rfl hbr ?_
            refine r_getiN hC 9 (ci := 9) rfl u9_in (by decide) nF_9 dX10_readKnower_125 krm rfl rfl (fun x178_ e178 => ?_)
            have r178 := hs173.rng krm rfl e178
            have f178 : x178_.toInt = (I173 rm 9).toInt := by rw [e178]
            have w178 : x178_ = x98_ := by rw [e178]; exact (Eq.trans (hf173.get krm rfl) (Eq.trans (hf169.get krm rfl) (Eq.trans (hf167.get krm rfl) (Eq.trans (hf112.get krm rfl) (Eq.trans (hf107.get krm rfl) (Eq.trans (hf105.get krm rfl) (Eq.trans (hf100.get krm rfl) e98.symm)))))))
            have wt178 : x178_.toInt = x98_.toInt := by rw [w178]
            refine r_aload_n hC dX10_readKnower_128 2 rfl ?_
            refine r_getr hC 4 (ci := 10) rfl u10_in (by decide) mT_4_239 dX10_readKnower_129 ka0 rfl rfl hbr ?_
            obtain ⟨a179_, hb179, hk179, hn179⟩ := hs173.row krm 27 84 19 (by decide) (by decide)
            refine r_getrN hC 27 (ci := 9) rfl u9_in (by decide) nF_27 dX10_readKnower_132 krm rfl rfl hb179 ?_
            refine r_iload_n hC dX10_readKnower_135 1 rfl ?_
            refine x_iaload hC hk179 hn179 (by decide) rfl rfl dX10_readKnower_136 (by omega) (by omega) (fun x180_ e180 => ?_)
            refine x_iastore hC hk177 hn177 (by decide) rfl rfl dX10_readKnower_137 (by omega) (by omega) (fun I181 eI181 => ?_)
            have hs181 := hs173.put0 eI181 hk177 (rng_arr (by decide) _) rfl (xF_arr (by decide) _) (by decide)
            have hF181 := hF173.put eI181 hk177 (inS_arr rfl _)
            refine r_aload_n hC dX10_readKnower_138 2 rfl ?_
            refine r_getr hC 4 (ci := 10) rfl u10_in (by decide) mT_4_239 dX10_readKnower_139 ka0 rfl rfl hbr ?_
            obtain ⟨a182_, hb182, hk182, hn182⟩ := hs181.row krm 24 81 4 (by decide) (by decide)
            refine r_getrN hC 24 (ci := 9) rfl u9_in (by decide) nF_24 dX10_readKnower_142 krm rfl rfl hb182 ?_
            refine r_aload_n hC dX10_readKnower_145 2 rfl ?_
            refine r_getr hC 4 (ci := 10) rfl u10_in (by decide) mT_4_239 dX10_readKnower_146 ka0 rfl rfl hbr ?_
            refine r_getiN hC 9 (ci := 9) rfl u9_in (by decide) nF_9 dX10_readKnower_149 krm rfl rfl (fun x183_ e183 => ?_)
            have r183 := hs181.rng krm rfl e183
            have f183 : x183_.toInt = (I181 rm 9).toInt := by rw [e183]
            have w183 : x183_ = x178_ := by rw [e183]; exact (Eq.trans (up2_kk eI181 hk177 krm (by decide)) e178.symm)
            have wt183 : x183_.toInt = x178_.toInt := by rw [w183]
            refine r_iload_n hC dX10_readKnower_152 0 rfl ?_
            refine x_iastore hC hk182 hn182 (by decide) rfl rfl dX10_readKnower_153 (by omega) (by omega) (fun I184 eI184 => ?_)
            have hs184 := hs181.put0 eI184 hk182 (rng_arr (by decide) _) rfl (xF_arr (by decide) _) (by decide)
            have hF184 := hF181.put eI184 hk182 (inS_arr rfl _)
            refine r_aload_n hC dX10_readKnower_154 2 rfl ?_
            refine r_getr hC 4 (ci := 10) rfl u10_in (by decide) mT_4_239 dX10_readKnower_155 ka0 rfl rfl hbr ?_
            refine r_dup hC dX10_readKnower_158 rfl ?_
            refine r_getiN hC 9 (ci := 9) rfl u9_in (by decide) nF_9 dX10_readKnower_159 krm rfl rfl (fun x185_ e185 => ?_)
            have r185 := hs184.rng krm rfl e185
            have f185 : x185_.toInt = (I184 rm 9).toInt := by rw [e185]
            have w185 : x185_ = x183_ := by rw [e185]; exact (Eq.trans (up2_kk eI184 hk182 krm (by decide)) e183.symm)
            have wt185 : x185_.toInt = x183_.toInt := by rw [w185]
            refine r_iconst hC (v := (1)) dX10_readKnower_162 (by decide) (by decide) (fun x186_ e186 t186 => ?_)
            refine r_iadd hC dX10_readKnower_163 (fun x187_ e187 => ?_)
            try have t187 : x187_.toInt = x185_.toInt + x186_.toInt := by rw [e187]; exact ti_add (by omega) (by omega)
            refine r_putiN hC 9 (ci := 9) rfl u9_in tyX9_ok nmX9 (by decide) nF_9 rfl rfl rfl dX10_readKnower_164 krm rfl rfl (fun I188 eI188 => ?_)
            have hs188 := hs184.put1 eI188 krm rfl (by omega) (by omega) rfl rfl (by decide)
            have hF188 := hF184.put eI188 krm rfl
            have hG3 : I188 rm 3 = G3 := (Eq.trans (up2_at (Or.inr (by decide)) eI188) (Eq.trans (up2_kk eI184 hk182 krm (by decide)) (Eq.trans (up2_kk eI181 hk177 krm (by decide)) (Eq.trans (hf173.get krm rfl) (Eq.trans (hf169.get krm rfl) (Eq.trans (hf167.get krm rfl) (Eq.trans (hf112.get krm rfl) (Eq.trans (hf107.get krm rfl) (Eq.trans (hf105.get krm rfl) (Eq.trans (hf100.get krm rfl) (Eq.trans (hf4.get krm rfl) eG3.symm)))))))))))
            have hG3t : (I188 rm 3).toInt = G3.toInt := congrArg Int32.toInt hG3
            have hG4 : I188 rm 4 = G4 := (Eq.trans (up2_at (Or.inr (by decide)) eI188) (Eq.trans (up2_kk eI184 hk182 krm (by decide)) (Eq.trans (up2_kk eI181 hk177 krm (by decide)) (Eq.trans (hf173.get krm rfl) (Eq.trans (hf169.get krm rfl) (Eq.trans (hf167.get krm rfl) (Eq.trans (hf112.get krm rfl) (Eq.trans (hf107.get krm rfl) (Eq.trans (hf105.get krm rfl) (Eq.trans (hf100.get krm rfl) (Eq.trans (hf4.get krm rfl) eG4.symm)))))))))))
            have hG4t : (I188 rm 4).toInt = G4.toInt := congrArg Int32.toInt hG4
            have hG7 : I188 rm 7 = G7 := (Eq.trans (up2_at (Or.inr (by decide)) eI188) (Eq.trans (up2_kk eI184 hk182 krm (by decide)) (Eq.trans (up2_kk eI181 hk177 krm (by decide)) (Eq.trans (hf173.get krm rfl) (Eq.trans (hf169.get krm rfl) (Eq.trans (hf167.get krm rfl) (Eq.trans (hf112.get krm rfl) (Eq.trans (hf107.get krm rfl) (Eq.trans (hf105.get krm rfl) (Eq.trans (hf100.get krm rfl) (Eq.trans (hf4.get krm rfl) eG7.symm)))))))))))
            have hG7t : (I188 rm 7).toInt = G7.toInt := congrArg Int32.toInt hG7
            have hG8 : I188 rm 8 = G8 := (Eq.trans (up2_at (Or.inr (by decide)) eI188) (Eq.trans (up2_kk eI184 hk182 krm (by decide)) (Eq.trans (up2_kk eI181 hk177 krm (by decide)) (Eq.trans (hf173.get krm rfl) (Eq.trans (hf169.get krm rfl) (Eq.trans (hf167.get krm rfl) (Eq.trans (hf112.get krm rfl) (Eq.trans (hf107.get krm rfl) (Eq.trans (hf105.get krm rfl) (Eq.trans (hf100.get krm rfl) (Eq.trans (hf4.get krm rfl) eG8.symm)))))))))))
            have hG8t : (I188 rm 8).toInt = G8.toInt := congrArg Int32.toInt hG8
            have hG9 : I188 rm 9 = x187_ := (by rw [eI188]; exact up2_self _ _ _ _)
            have hG9t : (I188 rm 9).toInt = x187_.toInt := congrArg Int32.toInt hG9
            have hGN : I188 rm 10 = N1 := (Eq.trans (up2_at (Or.inr (by decide)) eI188) (Eq.trans (up2_kk eI184 hk182 krm (by decide)) (Eq.trans (up2_kk eI181 hk177 krm (by decide)) (Eq.trans (hf173.get krm rfl) (Eq.trans (hf169.get krm rfl) (Eq.trans (hf167.get krm rfl) (Eq.trans (hf112.get krm rfl) (Eq.trans (hf107.get krm rfl) (Eq.trans (hf105.get krm rfl) eN1.symm)))))))))
            have hGNt : (I188 rm 10).toInt = N1.toInt := congrArg Int32.toInt hGN
            have hv8 : I188 a0 8 = A9 := (Eq.trans (up2_kk eI188 krm ka0 (by decide)) (Eq.trans (up2_kk eI184 hk182 ka0 (by decide)) (Eq.trans (up2_kk eI181 hk177 ka0 (by decide)) eA9.symm)))
            have hv8t : (I188 a0 8).toInt = A9.toInt := congrArg Int32.toInt hv8
            have hv9 : I188 a0 9 = x174_ := (Eq.trans (up2_kk eI188 krm ka0 (by decide)) (Eq.trans (up2_kk eI184 hk182 ka0 (by decide)) (Eq.trans (up2_kk eI181 hk177 ka0 (by decide)) e174.symm)))
            have hv9t : (I188 a0 9).toInt = x174_.toInt := congrArg Int32.toInt hv9
            exact r_vret hC hQ hlk hr (by decide) (by decide) dX10_readKnower_167 ⟨_, _, rfl, rfl, ⟨hs188, hF188, hFJ173, (by first | (left; omega) | (right; omega)), (by omega), (by omega), (by omega)⟩⟩
          · have hG3 : I173 rm 3 = G3 := (Eq.trans (hf173.get krm rfl) (Eq.trans (hf169.get krm rfl) (Eq.trans (hf167.get krm rfl) (Eq.trans (hf112.get krm rfl) (Eq.trans (hf107.get krm rfl) (Eq.trans (hf105.get krm rfl) (Eq.trans (hf100.get krm rfl) (Eq.trans (hf4.get krm rfl) eG3.symm))))))))
            have hG3t : (I173 rm 3).toInt = G3.toInt := congrArg Int32.toInt hG3
            have hG4 : I173 rm 4 = G4 := (Eq.trans (hf173.get krm rfl) (Eq.trans (hf169.get krm rfl) (Eq.trans (hf167.get krm rfl) (Eq.trans (hf112.get krm rfl) (Eq.trans (hf107.get krm rfl) (Eq.trans (hf105.get krm rfl) (Eq.trans (hf100.get krm rfl) (Eq.trans (hf4.get krm rfl) eG4.symm))))))))
            have hG4t : (I173 rm 4).toInt = G4.toInt := congrArg Int32.toInt hG4
            have hG7 : I173 rm 7 = G7 := (Eq.trans (hf173.get krm rfl) (Eq.trans (hf169.get krm rfl) (Eq.trans (hf167.get krm rfl) (Eq.trans (hf112.get krm rfl) (Eq.trans (hf107.get krm rfl) (Eq.trans (hf105.get krm rfl) (Eq.trans (hf100.get krm rfl) (Eq.trans (hf4.get krm rfl) eG7.symm))))))))
            have hG7t : (I173 rm 7).toInt = G7.toInt := congrArg Int32.toInt hG7
            have hG8 : I173 rm 8 = G8 := (Eq.trans (hf173.get krm rfl) (Eq.trans (hf169.get krm rfl) (Eq.trans (hf167.get krm rfl) (Eq.trans (hf112.get krm rfl) (Eq.trans (hf107.get krm rfl) (Eq.trans (hf105.get krm rfl) (Eq.trans (hf100.get krm rfl) (Eq.trans (hf4.get krm rfl) eG8.symm))))))))
            have hG8t : (I173 rm 8).toInt = G8.toInt := congrArg Int32.toInt hG8
            have hG9 : I173 rm 9 = x98_ := (Eq.trans (hf173.get krm rfl) (Eq.trans (hf169.get krm rfl) (Eq.trans (hf167.get krm rfl) (Eq.trans (hf112.get krm rfl) (Eq.trans (hf107.get krm rfl) (Eq.trans (hf105.get krm rfl) (Eq.trans (hf100.get krm rfl) e98.symm)))))))
            have hG9t : (I173 rm 9).toInt = x98_.toInt := congrArg Int32.toInt hG9
            have hGN : I173 rm 10 = N1 := (Eq.trans (hf173.get krm rfl) (Eq.trans (hf169.get krm rfl) (Eq.trans (hf167.get krm rfl) (Eq.trans (hf112.get krm rfl) (Eq.trans (hf107.get krm rfl) (Eq.trans (hf105.get krm rfl) eN1.symm))))))
            have hGNt : (I173 rm 10).toInt = N1.toInt := congrArg Int32.toInt hGN
            have hv8 : I173 a0 8 = A9 := eA9.symm
            have hv8t : (I173 a0 8).toInt = A9.toInt := congrArg Int32.toInt hv8
            have hv9 : I173 a0 9 = x174_ := e174.symm
            have hv9t : (I173 a0 9).toInt = x174_.toInt := congrArg Int32.toInt hv9
            exact r_vret hC hQ hlk hr (by decide) (by decide) dX10_readKnower_113 ⟨_, _, rfl, rfl, ⟨hs173, hF173, hFJ173, (by first | (left; omega) | (right; omega)), (by omega), (by omega), (by omega)⟩⟩
    · clear k100_0 md99 sf4
      obtain ⟨N1, eN1⟩ : ∃ z : Int32, z = I100 rm 10 := ⟨_, rfl⟩
      have fN1 : N1.toInt = (I100 rm 10).toInt := by rw [eN1]
      have rN1 := hs100.rng krm rfl eN1
      refine r_aload_n hC dX10_readKnower_24 0 rfl ?_
      refine r_ldcwS hC (i := 58) (by decide) rfl rfl dX10_readKnower_25 ?_
      refine r_callV hC (As := [.ref (g.2.2.1 58)]) (rest := []) (ci := 10) (c_X10_isWord g (xL X) K len I100 J100 R hs100 a0 ka0 58 (by decide)) mT_5_223 mT_1_10 mT_5_220 mT_5_222 mP_53 okX10_isWord ⟨by decide, by decide⟩ rfl (by show kO (K a0) = _; rw [ka0]; rfl) rfl rfl (Nat.le_of_ble_eq_true rfl) ⟨by decide, by decide⟩ dX10_readKnower_28 (aI0 (F := fun st M => P g X 3 31 [(0, .ref a0)] st _ _ M) (M := (K, len, I100, J100, R)) fun x189_ h189 => ?_)
      obtain ⟨k189_0, k189_1, k189_2⟩ := h189
      show P g X 3 31 [(0, .ref a0)] [.int x189_] _ _ (K, len, I100, J100, R)
      refine r_if_ne hC (tgt := 39) dX10_readKnower_31 (by decide) (fun c190 => ?_) (fun c190 => ?_)
      · replace k189_2 := k189_2 c190
        refine r_aload_n hC dX10_readKnower_39 0 rfl ?_
        have md191 : (I100 a0 9).toInt ≠ 5 := by omega
        refine r_callV hC (As := []) (rest := []) (ci := 10) (c_X10_goesOn g (xL X) K len I100 J100 R hs100 a0 ka0) mT_5_199 mT_1_10 mT_5_196 mT_5_198 mP_49 okX10_goesOn ⟨by decide, by decide⟩ rfl (by show kO (K a0) = _; rw [ka0]; rfl) rfl rfl (Nat.le_of_ble_eq_true rfl) ⟨by decide, by decide⟩ dX10_readKnower_40 (aV2 (F := fun st M => P g X 3 43 [(0, .ref a0)] st _ _ M) (M := (K, len, I100, J100, R)) fun I192 J192 h192 => ?_)
        obtain ⟨hs192, hf192, hfj192, k192_0, k192_1, k192_2, k192_3⟩ := h192
        show P g X 3 43 [(0, .ref a0)] [] _ _ (K, len, I192, J192, R)
        have hF192 : Fr K [(10, 9), (10, 10), (11, 8), (11, 9), (11, 10), (11, 11), (11, 12), (11, 13), (80, 999), (81, 999), (83, 999), (84, 999)] I I192 := hF100.trans hf192 rfl rfl
        have hFJ192 : Fr K [(11, 14), (82, 999)] J J192 := hFJ100.trans hfj192 rfl rfl
        clear k100_2
        have sf192 := k192_1 md191
        replace k192_3 := k192_3 md191
        clear k192_0 k192_1 md191 sf100
        refine r_aload_n hC dX10_readKnower_43 0 rfl ?_
        refine r_callV hC (As := []) (rest := []) (ci := 10) (c_X10_isName g (xL X) K len I192 J192 R hs192 a0 ka0) mT_6_27 mT_1_10 mT_6_24 mT_6_26 mP_61 okX10_isName ⟨by decide, by decide⟩ rfl (by show kO (K a0) = _; rw [ka0]; rfl) rfl rfl (Nat.le_of_ble_eq_true rfl) ⟨by decide, by decide⟩ dX10_readKnower_44 (aI0 (F := fun st M => P g X 3 47 [(0, .ref a0)] st _ _ M) (M := (K, len, I192, J192, R)) fun x193_ h193 => ?_)
        obtain ⟨k193_0, k193_1, k193_2⟩ := h193
        show P g X 3 47 [(0, .ref a0)] [.int x193_] _ _ (K, len, I192, J192, R)
        refine r_if_ne hC (tgt := 55) dX10_readKnower_47 (by decide) (fun c194 => ?_) (fun c194 => ?_)
        · replace k193_2 := k193_2 c194
          refine r_aload_n hC dX10_readKnower_55 0 rfl ?_
          refine r_getr hC 4 (ci := 10) rfl u10_in (by decide) mT_4_239 dX10_readKnower_56 ka0 rfl rfl hbr ?_
          refine r_aload_n hC dX10_readKnower_59 0 rfl ?_
          refine r_getj hC 14 (ci := 10) rfl u10_in (by decide) mT_5_9 dX10_readKnower_60 ka0 rfl rfl (fun y195_ e195 => ?_)
          refine r_callV hC (As := [.long y195_]) (rest := []) (ci := 9) (c_X9_find g (xL X) K len I192 J192 R hs192 rm krm y195_) mT_6_36 mT_1_17 mT_6_33 mT_6_34 mT_6_35 okX9_find ⟨by decide, by decide⟩ rfl (by show kO (K rm) = _; rw [krm]; rfl) rfl rfl (Nat.le_of_ble_eq_true rfl) ⟨by decide, by decide⟩ dX10_readKnower_63 (aI0 (F := fun st M => P g X 3 66 [(0, .ref a0)] st _ _ M) (M := (K, len, I192, J192, R)) fun x196_ h196 => ?_)
          obtain ⟨k196_0, k196_1⟩ := h196
          show P g X 3 66 [(0, .ref a0)] [.int x196_] _ _ (K, len, I192, J192, R)
          refine r_istore_n hC (lv' := [(1, .int x196_), (0, .ref a0)]) dX10_readKnower_66 (by decide) rfl ?_
          refine r_iload_n hC dX10_readKnower_67 0 rfl ?_
          refine r_iconst hC (v := (-1)) dX10_readKnower_68 (by decide) (by decide) (fun x197_ e197 t197 => ?_)
          refine r_icmp_eq hC (tgt := 84) dX10_readKnower_69 (by decide) (fun c198 => ?_) (fun c198 => ?_)
          · refine r_aload_n hC dX10_readKnower_84 1 rfl ?_
            refine r_iconst hC (v := (2)) dX10_readKnower_85 (by decide) (by decide) (fun x199_ e199 t199 => ?_)
            have md200 : (I192 a0 9).toInt ≠ 5 := by omega
            refine r_callV hC (As := [.int x199_]) (rest := []) (ci := 10) (c_X10_wrong g (xL X) K len I192 J192 R hs192 a0 ka0 x199_) mT_5_236 mT_1_10 mT_5_233 mT_5_235 mP_55 okX10_wrong ⟨by decide, by decide⟩ rfl (by show kO (K a0) = _; rw [ka0]; rfl) rfl rfl (Nat.le_of_ble_eq_true rfl) ⟨by decide, by decide⟩ dX10_readKnower_86 (aV1 (F := fun st M => P g X 3 89 [(1, .int x196_), (0, .ref a0)] st _ _ M) (M := (K, len, I192, J192, R)) fun I201 h201 => ?_)
            obtain ⟨hs201, hf201, k201_0, k201_1⟩ := h201
            show P g X 3 89 [(1, .int x196_), (0, .ref a0)] [] _ _ (K, len, I201, J192, R)
            have hF201 : Fr K [(10, 9), (10, 10), (11, 8), (11, 9), (11, 10), (11, 11), (11, 12), (11, 13), (80, 999), (81, 999), (83, 999), (84, 999)] I I201 := hF192.trans hf201 rfl rfl
            clear k192_3
            clear md200 sf192
            refine r_aload_n hC dX10_readKnower_89 1 rfl ?_
            have md202 : (I201 a0 9).toInt = 5 := by omega
            refine r_callV hC (As := []) (rest := []) (ci := 10) (c_X10_goesOn g (xL X) K len I201 J192 R hs201 a0 ka0) mT_5_199 mT_1_10 mT_5_196 mT_5_198 mP_49 okX10_goesOn ⟨by decide, by decide⟩ rfl (by show kO (K a0) = _; rw [ka0]; rfl) rfl rfl (Nat.le_of_ble_eq_true rfl) ⟨by decide, by decide⟩ dX10_readKnower_90 (aV2 (F := fun st M => P g X 3 93 [(1, .int x196_), (0, .ref a0)] st _ _ M) (M := (K, len, I201, J192, R)) fun I203 J203 h203 => ?_)
            obtain ⟨hs203, hf203, hfj203, k203_0, k203_1, k203_2, k203_3⟩ := h203
            show P g X 3 93 [(1, .int x196_), (0, .ref a0)] [] _ _ (K, len, I203, J203, R)
            have hF203 : Fr K [(10, 9), (10, 10), (11, 8), (11, 9), (11, 10), (11, 11), (11, 12), (11, 13), (80, 999), (81, 999), (83, 999), (84, 999)] I I203 := hF201.trans hf203 rfl rfl
            have hFJ203 : Fr K [(11, 14), (82, 999)] J J203 := hFJ192.trans hfj203 rfl rfl
            have sf203 := k203_0 md202
            clear k203_0 k203_1 k203_3 md202
            refine r_aload_n hC dX10_readKnower_93 1 rfl ?_
            refine r_ldcwS hC (i := 59) (by decide) rfl rfl dX10_readKnower_94 ?_
            refine r_iconst hC (v := (0)) dX10_readKnower_97 (by decide) (by decide) (fun x204_ e204 t204 => ?_)
            refine r_sipush hC (v := (999)) dX10_readKnower_98 (by decide) (by decide) (fun x205_ e205 t205 => ?_)
            have md206 : (I203 a0 9).toInt = 5 := by omega
            refine r_callV hC (As := [.ref (g.2.2.1 59), .int x204_, .int x205_]) (rest := []) (ci := 10) (c_X10_readPart g (xL X) K len I203 J203 R hs203 a0 ka0 59 (by decide) x204_ x205_) mT_6_1 mT_1_10 mT_5_238 mT_6_0 mP_56 okX10_readPart ⟨by decide, by decide⟩ rfl (by show kO (K a0) = _; rw [ka0]; rfl) rfl rfl (Nat.le_of_ble_eq_true rfl) ⟨by decide, by decide⟩ dX10_readKnower_101 (aI2 (F := fun st M => P g X 3 104 [(1, .int x196_), (0, .ref a0)] st _ _ M) (M := (K, len, I203, J203, R)) fun x207_ I207 J207 h207 => ?_)
            obtain ⟨hs207, hf207, hfj207, k207_0, k207_1, k207_2, k207_3⟩ := h207
            show P g X 3 104 [(1, .int x196_), (0, .ref a0)] [.int x207_] _ _ (K, len, I207, J207, R)
            have hF207 : Fr K [(10, 9), (10, 10), (11, 8), (11, 9), (11, 10), (11, 11), (11, 12), (11, 13), (80, 999), (81, 999), (83, 999), (84, 999)] I I207 := hF203.trans hf207 rfl rfl
            have hFJ207 : Fr K [(11, 14), (82, 999)] J J207 := hFJ203.trans hfj207 rfl rfl
            have sf207 := k207_0 md206
            clear k207_0 k207_1 k207_3 md206 sf203
            refine r_istore_n hC (lv' := [(2, .int x207_), (1, .int x196_), (0, .ref a0)]) dX10_readKnower_104 (by decide) rfl ?_
            refine r_aload_n hC dX10_readKnower_105 2 rfl ?_
            obtain ⟨A9, eA9⟩ : ∃ z : Int32, z = I207 a0 8 := ⟨_, rfl⟩
            have fA9 : A9.toInt = (I207 a0 8).toInt := by rw [eA9]
            have rA9 := hs207.rng ka0 rfl eA9
            refine r_geti hC 9 (ci := 10) rfl u10_in (by decide) mT_5_4 dX10_readKnower_106 ka0 rfl rfl (fun x208_ e208 => ?_)
            have f208 : x208_.toInt = (I207 a0 9).toInt := by rw [e208]
            refine r_iconst hC (v := (5)) dX10_readKnower_109 (by decide) (by decide) (fun x209_ e209 t209 => ?_)
            refine r_icmp_ne hC (tgt := 114) dX10_readKnower_110 (by decide) (fun c210 => ?_) (fun c210 => ?_)
            · refine r_aload_n hC dX10_readKnower_114 2 rfl ?_
              refine r_getr hC 4 (ci := 10) rfl u10_in (by decide) mT_4_239 dX10_readKnower_115 ka0 rfl rfl hbr ?_
              obtain ⟨a211_, hb211, hk211, hn211⟩ := hs207.row krm 23 80 4 (by decide) (by decide)
              refine r_getrN hC 23 (ci := 9) rfl u9_in (by decide) nF_23 dX10_readKnower_118 krm rfl rfl hb211 ?_
              refine r_aload_n hC dX10_readKnower_121 2 rfl ?_
              refine r_getr hC 4 (ci := 10) rfl u10_in (by decide) mT_4_239 dX10_readKnower_122 ka0 rfl rfl hbr ?_
              refine r_getiN hC 9 (ci := 9) rfl u9_in (by decide) nF_9 dX10_readKnower_125 krm rfl rfl (fun x212_ e212 => ?_)
              have r212 := hs207.rng krm rfl e212
              have f212 : x212_.toInt = (I207 rm 9).toInt := by rw [e212]
              have w212 : x212_ = x98_ := by rw [e212]; exact (Eq.trans (hf207.get krm rfl) (Eq.trans (hf203.get krm rfl) (Eq.trans (hf201.get krm rfl) (Eq.trans (hf192.get krm rfl) (Eq.trans (hf100.get krm rfl) e98.symm)))))
              have wt212 : x212_.toInt = x98_.toInt := by rw [w212]
              refine r_aload_n hC dX10_readKnower_128 2 rfl ?_
              refine r_getr hC 4 (ci := 10) rfl u10_in (by decide) mT_4_239 dX10_readKnower_129 ka0 rfl rfl hbr ?_
              obtain ⟨a213_, hb213, hk213, hn213⟩ := hs207.row krm 27 84 19 (by decide) (by decide)
              refine r_getrN hC 27 (ci := 9) rfl u9_in (by decide) nF_27 dX10_readKnower_132 krm rfl rfl hb213 ?_
              refine r_iload_n hC dX10_readKnower_135 1 rfl ?_
              refine x_iaload hC hk213 hn213 (by decide) rfl rfl dX10_readKnower_136 (by omega) (by omega) (fun x214_ e214 => ?_)
              refine x_iastore hC hk211 hn211 (by decide) rfl rfl dX10_readKnower_137 (by omega) (by omega) (fun I215 eI215 => ?_)
              have hs215 := hs207.put0 eI215 hk211 (rng_arr (by decide) _) rfl (xF_arr (by decide) _) (by decide)
              have hF215 := hF207.put eI215 hk211 (inS_arr rfl _)
              refine r_aload_n hC dX10_readKnower_138 2 rfl ?_
              refine r_getr hC 4 (ci := 10) rfl u10_in (by decide) mT_4_239 dX10_readKnower_139 ka0 rfl rfl hbr ?_
              obtain ⟨a216_, hb216, hk216, hn216⟩ := hs215.row krm 24 81 4 (by decide) (by decide)
              refine r_getrN hC 24 (ci := 9) rfl u9_in (by decide) nF_24 dX10_readKnower_142 krm rfl rfl hb216 ?_
              refine r_aload_n hC dX10_readKnower_145 2 rfl ?_
              refine r_getr hC 4 (ci := 10) rfl u10_in (by decide) mT_4_239 dX10_readKnower_146 ka0 rfl rfl hbr ?_
              refine r_getiN hC 9 (ci := 9) rfl u9_in (by decide) nF_9 dX10_readKnower_149 krm rfl rfl (fun x217_ e217 => ?_)
              have r217 := hs215.rng krm rfl e217
              have f217 : x217_.toInt = (I215 rm 9).toInt := by rw [e217]
              have w217 : x217_ = x212_ := by rw [e217]; exact (Eq.trans (up2_kk eI215 hk211 krm (by decide)) e212.symm)
              have wt217 : x217_.toInt = x212_.toInt := by rw [w217]
              refine r_iload_n hC dX10_readKnower_152 0 rfl ?_
              refine x_iastore hC hk216 hn216 (by decide) rfl rfl dX10_readKnower_153 (by omega) (by omega) (fun I218 eI218 => ?_)
              have hs218 := hs215.put0 eI218 hk216 (rng_arr (by decide) _) rfl (xF_arr (by decide) _) (by decide)
              have hF218 := hF215.put eI218 hk216 (inS_arr rfl _)
              refine r_aload_n hC dX10_readKnower_154 2 rfl ?_
              refine r_getr hC 4 (ci := 10) rfl u10_in (by decide) mT_4_239 dX10_readKnower_155 ka0 rfl rfl hbr ?_
              refine r_dup hC dX10_readKnower_158 rfl ?_
              refine r_getiN hC 9 (ci := 9) rfl u9_in (by decide) nF_9 dX10_readKnower_159 krm rfl rfl (fun x219_ e219 => ?_)
              have r219 := hs218.rng krm rfl e219
              have f219 : x219_.toInt = (I218 rm 9).toInt := by rw [e219]
              have w219 : x219_ = x217_ := by rw [e219]; exact (Eq.trans (up2_kk eI218 hk216 krm (by decide)) e217.symm)
              have wt219 : x219_.toInt = x217_.toInt := by rw [w219]
              refine r_iconst hC (v := (1)) dX10_readKnower_162 (by decide) (by decide) (fun x220_ e220 t220 => ?_)
              refine r_iadd hC dX10_readKnower_163 (fun x221_ e221 => ?_)
              try have t221 : x221_.toInt = x219_.toInt + x220_.toInt := by rw [e221]; exact ti_add (by omega) (by omega)
              refine r_putiN hC 9 (ci := 9) rfl u9_in tyX9_ok nmX9 (by decide) nF_9 rfl rfl rfl dX10_readKnower_164 krm rfl rfl (fun I222 eI222 => ?_)
              have hs222 := hs218.put1 eI222 krm rfl (by omega) (by omega) rfl rfl (by decide)
              have hF222 := hF218.put eI222 krm rfl
              have hG3 : I222 rm 3 = G3 := (Eq.trans (up2_at (Or.inr (by decide)) eI222) (Eq.trans (up2_kk eI218 hk216 krm (by decide)) (Eq.trans (up2_kk eI215 hk211 krm (by decide)) (Eq.trans (hf207.get krm rfl) (Eq.trans (hf203.get krm rfl) (Eq.trans (hf201.get krm rfl) (Eq.trans (hf192.get krm rfl) (Eq.trans (hf100.get krm rfl) (Eq.trans (hf4.get krm rfl) eG3.symm)))))))))
              have hG3t : (I222 rm 3).toInt = G3.toInt := congrArg Int32.toInt hG3
              have hG4 : I222 rm 4 = G4 := (Eq.trans (up2_at (Or.inr (by decide)) eI222) (Eq.trans (up2_kk eI218 hk216 krm (by decide)) (Eq.trans (up2_kk eI215 hk211 krm (by decide)) (Eq.trans (hf207.get krm rfl) (Eq.trans (hf203.get krm rfl) (Eq.trans (hf201.get krm rfl) (Eq.trans (hf192.get krm rfl) (Eq.trans (hf100.get krm rfl) (Eq.trans (hf4.get krm rfl) eG4.symm)))))))))
              have hG4t : (I222 rm 4).toInt = G4.toInt := congrArg Int32.toInt hG4
              have hG7 : I222 rm 7 = G7 := (Eq.trans (up2_at (Or.inr (by decide)) eI222) (Eq.trans (up2_kk eI218 hk216 krm (by decide)) (Eq.trans (up2_kk eI215 hk211 krm (by decide)) (Eq.trans (hf207.get krm rfl) (Eq.trans (hf203.get krm rfl) (Eq.trans (hf201.get krm rfl) (Eq.trans (hf192.get krm rfl) (Eq.trans (hf100.get krm rfl) (Eq.trans (hf4.get krm rfl) eG7.symm)))))))))
              have hG7t : (I222 rm 7).toInt = G7.toInt := congrArg Int32.toInt hG7
              have hG8 : I222 rm 8 = G8 := (Eq.trans (up2_at (Or.inr (by decide)) eI222) (Eq.trans (up2_kk eI218 hk216 krm (by decide)) (Eq.trans (up2_kk eI215 hk211 krm (by decide)) (Eq.trans (hf207.get krm rfl) (Eq.trans (hf203.get krm rfl) (Eq.trans (hf201.get krm rfl) (Eq.trans (hf192.get krm rfl) (Eq.trans (hf100.get krm rfl) (Eq.trans (hf4.get krm rfl) eG8.symm)))))))))
              have hG8t : (I222 rm 8).toInt = G8.toInt := congrArg Int32.toInt hG8
              have hG9 : I222 rm 9 = x221_ := (by rw [eI222]; exact up2_self _ _ _ _)
              have hG9t : (I222 rm 9).toInt = x221_.toInt := congrArg Int32.toInt hG9
              have hGN : I222 rm 10 = N1 := (Eq.trans (up2_at (Or.inr (by decide)) eI222) (Eq.trans (up2_kk eI218 hk216 krm (by decide)) (Eq.trans (up2_kk eI215 hk211 krm (by decide)) (Eq.trans (hf207.get krm rfl) (Eq.trans (hf203.get krm rfl) (Eq.trans (hf201.get krm rfl) (Eq.trans (hf192.get krm rfl) eN1.symm)))))))
              have hGNt : (I222 rm 10).toInt = N1.toInt := congrArg Int32.toInt hGN
              have hv8 : I222 a0 8 = A9 := (Eq.trans (up2_kk eI222 krm ka0 (by decide)) (Eq.trans (up2_kk eI218 hk216 ka0 (by decide)) (Eq.trans (up2_kk eI215 hk211 ka0 (by decide)) eA9.symm)))
              have hv8t : (I222 a0 8).toInt = A9.toInt := congrArg Int32.toInt hv8
              have hv9 : I222 a0 9 = x208_ := (Eq.trans (up2_kk eI222 krm ka0 (by decide)) (Eq.trans (up2_kk eI218 hk216 ka0 (by decide)) (Eq.trans (up2_kk eI215 hk211 ka0 (by decide)) e208.symm)))
              have hv9t : (I222 a0 9).toInt = x208_.toInt := congrArg Int32.toInt hv9
              exact r_vret hC hQ hlk hr (by decide) (by decide) dX10_readKnower_167 ⟨_, _, rfl, rfl, ⟨hs222, hF222, hFJ207, (by first | (left; omega) | (right; omega)), (by omega), (by omega), (by omega)⟩⟩
            · have hG3 : I207 rm 3 = G3 := (Eq.trans (hf207.get krm rfl) (Eq.trans (hf203.get krm rfl) (Eq.trans (hf201.get krm rfl) (Eq.trans (hf192.get krm rfl) (Eq.trans (hf100.get krm rfl) (Eq.trans (hf4.get krm rfl) eG3.symm))))))
              have hG3t : (I207 rm 3).toInt = G3.toInt := congrArg Int32.toInt hG3
              have hG4 : I207 rm 4 = G4 := (Eq.trans (hf207.get krm rfl) (Eq.trans (hf203.get krm rfl) (Eq.trans (hf201.get krm rfl) (Eq.trans (hf192.get krm rfl) (Eq.trans (hf100.get krm rfl) (Eq.trans (hf4.get krm rfl) eG4.symm))))))
              have hG4t : (I207 rm 4).toInt = G4.toInt := congrArg Int32.toInt hG4
              have hG7 : I207 rm 7 = G7 := (Eq.trans (hf207.get krm rfl) (Eq.trans (hf203.get krm rfl) (Eq.trans (hf201.get krm rfl) (Eq.trans (hf192.get krm rfl) (Eq.trans (hf100.get krm rfl) (Eq.trans (hf4.get krm rfl) eG7.symm))))))
              have hG7t : (I207 rm 7).toInt = G7.toInt := congrArg Int32.toInt hG7
              have hG8 : I207 rm 8 = G8 := (Eq.trans (hf207.get krm rfl) (Eq.trans (hf203.get krm rfl) (Eq.trans (hf201.get krm rfl) (Eq.trans (hf192.get krm rfl) (Eq.trans (hf100.get krm rfl) (Eq.trans (hf4.get krm rfl) eG8.symm))))))
              have hG8t : (I207 rm 8).toInt = G8.toInt := congrArg Int32.toInt hG8
              have hG9 : I207 rm 9 = x98_ := (Eq.trans (hf207.get krm rfl) (Eq.trans (hf203.get krm rfl) (Eq.trans (hf201.get krm rfl) (Eq.trans (hf192.get krm rfl) (Eq.trans (hf100.get krm rfl) e98.symm)))))
              have hG9t : (I207 rm 9).toInt = x98_.toInt := congrArg Int32.toInt hG9
              have hGN : I207 rm 10 = N1 := (Eq.trans (hf207.get krm rfl) (Eq.trans (hf203.get krm rfl) (Eq.trans (hf201.get krm rfl) (Eq.trans (hf192.get krm rfl) eN1.symm))))
              have hGNt : (I207 rm 10).toInt = N1.toInt := congrArg Int32.toInt hGN
              have hv8 : I207 a0 8 = A9 := eA9.symm
              have hv8t : (I207 a0 8).toInt = A9.toInt := congrArg Int32.toInt hv8
              have hv9 : I207 a0 9 = x208_ := e208.symm
              have hv9t : (I207 a0 9).toInt = x208_.toInt := congrArg Int32.toInt hv9
              exact r_vret hC hQ hlk hr (by decide) (by decide) dX10_readKnower_113 ⟨_, _, rfl, rfl, ⟨hs207, hF207, hFJ207, (by first | (left; omega) | (right; omega)), (by omega), (by omega), (by omega)⟩⟩
          · refine r_aload_n hC dX10_readKnower_72 1 rfl ?_
            refine r_getr hC 4 (ci := 10) rfl u10_in (by decide) mT_4_239 dX10_readKnower_73 ka0 rfl rfl hbr ?_
            obtain ⟨a223_, hb223, hk223, hn223⟩ := hs192.row krm 26 83 19 (by decide) (by decide)
            refine r_getrN hC 26 (ci := 9) rfl u9_in (by decide) nF_26 dX10_readKnower_76 krm rfl rfl hb223 ?_
            refine r_iload_n hC dX10_readKnower_79 0 rfl ?_
            refine x_iaload hC hk223 hn223 (by decide) rfl rfl dX10_readKnower_80 (by omega) (by omega) (fun x224_ e224 => ?_)
            refine r_if_eq hC (tgt := 89) dX10_readKnower_81 (by decide) (fun c225 => ?_) (fun c225 => ?_)
            · refine r_aload_n hC dX10_readKnower_89 1 rfl ?_
              have md226 : (I192 a0 9).toInt ≠ 5 := by omega
              refine r_callV hC (As := []) (rest := []) (ci := 10) (c_X10_goesOn g (xL X) K len I192 J192 R hs192 a0 ka0) mT_5_199 mT_1_10 mT_5_196 mT_5_198 mP_49 okX10_goesOn ⟨by decide, by decide⟩ rfl (by show kO (K a0) = _; rw [ka0]; rfl) rfl rfl (Nat.le_of_ble_eq_true rfl) ⟨by decide, by decide⟩ dX10_readKnower_90 (aV2 (F := fun st M => P g X 3 93 [(1, .int x196_), (0, .ref a0)] st _ _ M) (M := (K, len, I192, J192, R)) fun I227 J227 h227 => ?_)
              obtain ⟨hs227, hf227, hfj227, k227_0, k227_1, k227_2, k227_3⟩ := h227
              show P g X 3 93 [(1, .int x196_), (0, .ref a0)] [] _ _ (K, len, I227, J227, R)
              have hF227 : Fr K [(10, 9), (10, 10), (11, 8), (11, 9), (11, 10), (11, 11), (11, 12), (11, 13), (80, 999), (81, 999), (83, 999), (84, 999)] I I227 := hF192.trans hf227 rfl rfl
              have hFJ227 : Fr K [(11, 14), (82, 999)] J J227 := hFJ192.trans hfj227 rfl rfl
              clear k192_3
              have sf227 := k227_1 md226
              replace k227_3 := k227_3 md226
              clear k227_0 k227_1 md226 sf192
              refine r_aload_n hC dX10_readKnower_93 1 rfl ?_
              refine r_ldcwS hC (i := 59) (by decide) rfl rfl dX10_readKnower_94 ?_
              refine r_iconst hC (v := (0)) dX10_readKnower_97 (by decide) (by decide) (fun x228_ e228 t228 => ?_)
              refine r_sipush hC (v := (999)) dX10_readKnower_98 (by decide) (by decide) (fun x229_ e229 t229 => ?_)
              have md230 : (I227 a0 9).toInt ≠ 5 := by omega
              refine r_callV hC (As := [.ref (g.2.2.1 59), .int x228_, .int x229_]) (rest := []) (ci := 10) (c_X10_readPart g (xL X) K len I227 J227 R hs227 a0 ka0 59 (by decide) x228_ x229_) mT_6_1 mT_1_10 mT_5_238 mT_6_0 mP_56 okX10_readPart ⟨by decide, by decide⟩ rfl (by show kO (K a0) = _; rw [ka0]; rfl) rfl rfl (Nat.le_of_ble_eq_true rfl) ⟨by decide, by decide⟩ dX10_readKnower_101 (aI2 (F := fun st M => P g X 3 104 [(1, .int x196_), (0, .ref a0)] st _ _ M) (M := (K, len, I227, J227, R)) fun x231_ I231 J231 h231 => ?_)
              obtain ⟨hs231, hf231, hfj231, k231_0, k231_1, k231_2, k231_3⟩ := h231
              show P g X 3 104 [(1, .int x196_), (0, .ref a0)] [.int x231_] _ _ (K, len, I231, J231, R)
              have hF231 : Fr K [(10, 9), (10, 10), (11, 8), (11, 9), (11, 10), (11, 11), (11, 12), (11, 13), (80, 999), (81, 999), (83, 999), (84, 999)] I I231 := hF227.trans hf231 rfl rfl
              have hFJ231 : Fr K [(11, 14), (82, 999)] J J231 := hFJ227.trans hfj231 rfl rfl
              clear k227_3
              by_cases sf231 : (I231 a0 9).toInt = 5
              · clear k231_0 k231_1 k231_3 md230 sf227
                refine r_istore_n hC (lv' := [(2, .int x231_), (1, .int x196_), (0, .ref a0)]) dX10_readKnower_104 (by decide) rfl ?_
                refine r_aload_n hC dX10_readKnower_105 2 rfl ?_
                obtain ⟨A9, eA9⟩ : ∃ z : Int32, z = I231 a0 8 := ⟨_, rfl⟩
                have fA9 : A9.toInt = (I231 a0 8).toInt := by rw [eA9]
                have rA9 := hs231.rng ka0 rfl eA9
                refine r_geti hC 9 (ci := 10) rfl u10_in (by decide) mT_5_4 dX10_readKnower_106 ka0 rfl rfl (fun x232_ e232 => ?_)
                have f232 : x232_.toInt = (I231 a0 9).toInt := by rw [e232]
                refine r_iconst hC (v := (5)) dX10_readKnower_109 (by decide) (by decide) (fun x233_ e233 t233 => ?_)
                refine r_icmp_ne hC (tgt := 114) dX10_readKnower_110 (by decide) (fun c234 => ?_) (fun c234 => ?_)
                · refine r_aload_n hC dX10_readKnower_114 2 rfl ?_
                  refine r_getr hC 4 (ci := 10) rfl u10_in (by decide) mT_4_239 dX10_readKnower_115 ka0 rfl rfl hbr ?_
                  obtain ⟨a235_, hb235, hk235, hn235⟩ := hs231.row krm 23 80 4 (by decide) (by decide)
                  refine r_getrN hC 23 (ci := 9) rfl u9_in (by decide) nF_23 dX10_readKnower_118 krm rfl rfl hb235 ?_
                  refine r_aload_n hC dX10_readKnower_121 2 rfl ?_
                  refine r_getr hC 4 (ci := 10) rfl u10_in (by decide) mT_4_239 dX10_readKnower_122 ka0 rfl rfl hbr ?_
                  refine r_getiN hC 9 (ci := 9) rfl u9_in (by decide) nF_9 dX10_readKnower_125 krm rfl rfl (fun x236_ e236 => ?_)
                  have r236 := hs231.rng krm rfl e236
                  have f236 : x236_.toInt = (I231 rm 9).toInt := by rw [e236]
                  have w236 : x236_ = x98_ := by rw [e236]; exact (Eq.trans (hf231.get krm rfl) (Eq.trans (hf227.get krm rfl) (Eq.trans (hf192.get krm rfl) (Eq.trans (hf100.get krm rfl) e98.symm))))
                  have wt236 : x236_.toInt = x98_.toInt := by rw [w236]
                  refine r_aload_n hC dX10_readKnower_128 2 rfl ?_
                  refine r_getr hC 4 (ci := 10) rfl u10_in (by decide) mT_4_239 dX10_readKnower_129 ka0 rfl rfl hbr ?_
                  obtain ⟨a237_, hb237, hk237, hn237⟩ := hs231.row krm 27 84 19 (by decide) (by decide)
                  refine r_getrN hC 27 (ci := 9) rfl u9_in (by decide) nF_27 dX10_readKnower_132 krm rfl rfl hb237 ?_
                  refine r_iload_n hC dX10_readKnower_135 1 rfl ?_
                  refine x_iaload hC hk237 hn237 (by decide) rfl rfl dX10_readKnower_136 (by omega) (by omega) (fun x238_ e238 => ?_)
                  refine x_iastore hC hk235 hn235 (by decide) rfl rfl dX10_readKnower_137 (by omega) (by omega) (fun I239 eI239 => ?_)
                  have hs239 := hs231.put0 eI239 hk235 (rng_arr (by decide) _) rfl (xF_arr (by decide) _) (by decide)
                  have hF239 := hF231.put eI239 hk235 (inS_arr rfl _)
                  refine r_aload_n hC dX10_readKnower_138 2 rfl ?_
                  refine r_getr hC 4 (ci := 10) rfl u10_in (by decide) mT_4_239 dX10_readKnower_139 ka0 rfl rfl hbr ?_
                  obtain ⟨a240_, hb240, hk240, hn240⟩ := hs239.row krm 24 81 4 (by decide) (by decide)
                  refine r_getrN hC 24 (ci := 9) rfl u9_in (by decide) nF_24 dX10_readKnower_142 krm rfl rfl hb240 ?_
                  refine r_aload_n hC dX10_readKnower_145 2 rfl ?_
                  refine r_getr hC 4 (ci := 10) rfl u10_in (by decide) mT_4_239 dX10_readKnower_146 ka0 rfl rfl hbr ?_
                  refine r_getiN hC 9 (ci := 9) rfl u9_in (by decide) nF_9 dX10_readKnower_149 krm rfl rfl (fun x241_ e241 => ?_)
                  have r241 := hs239.rng krm rfl e241
                  have f241 : x241_.toInt = (I239 rm 9).toInt := by rw [e241]
                  have w241 : x241_ = x236_ := by rw [e241]; exact (Eq.trans (up2_kk eI239 hk235 krm (by decide)) e236.symm)
                  have wt241 : x241_.toInt = x236_.toInt := by rw [w241]
                  refine r_iload_n hC dX10_readKnower_152 0 rfl ?_
                  refine x_iastore hC hk240 hn240 (by decide) rfl rfl dX10_readKnower_153 (by omega) (by omega) (fun I242 eI242 => ?_)
                  have hs242 := hs239.put0 eI242 hk240 (rng_arr (by decide) _) rfl (xF_arr (by decide) _) (by decide)
                  have hF242 := hF239.put eI242 hk240 (inS_arr rfl _)
                  refine r_aload_n hC dX10_readKnower_154 2 rfl ?_
                  refine r_getr hC 4 (ci := 10) rfl u10_in (by decide) mT_4_239 dX10_readKnower_155 ka0 rfl rfl hbr ?_
                  refine r_dup hC dX10_readKnower_158 rfl ?_
                  refine r_getiN hC 9 (ci := 9) rfl u9_in (by decide) nF_9 dX10_readKnower_159 krm rfl rfl (fun x243_ e243 => ?_)
                  have r243 := hs242.rng krm rfl e243
                  have f243 : x243_.toInt = (I242 rm 9).toInt := by rw [e243]
                  have w243 : x243_ = x241_ := by rw [e243]; exact (Eq.trans (up2_kk eI242 hk240 krm (by decide)) e241.symm)
                  have wt243 : x243_.toInt = x241_.toInt := by rw [w243]
                  refine r_iconst hC (v := (1)) dX10_readKnower_162 (by decide) (by decide) (fun x244_ e244 t244 => ?_)
                  refine r_iadd hC dX10_readKnower_163 (fun x245_ e245 => ?_)
                  try have t245 : x245_.toInt = x243_.toInt + x244_.toInt := by rw [e245]; exact ti_add (by omega) (by omega)
                  refine r_putiN hC 9 (ci := 9) rfl u9_in tyX9_ok nmX9 (by decide) nF_9 rfl rfl rfl dX10_readKnower_164 krm rfl rfl (fun I246 eI246 => ?_)
                  have hs246 := hs242.put1 eI246 krm rfl (by omega) (by omega) rfl rfl (by decide)
                  have hF246 := hF242.put eI246 krm rfl
                  have hG3 : I246 rm 3 = G3 := (Eq.trans (up2_at (Or.inr (by decide)) eI246) (Eq.trans (up2_kk eI242 hk240 krm (by decide)) (Eq.trans (up2_kk eI239 hk235 krm (by decide)) (Eq.trans (hf231.get krm rfl) (Eq.trans (hf227.get krm rfl) (Eq.trans (hf192.get krm rfl) (Eq.trans (hf100.get krm rfl) (Eq.trans (hf4.get krm rfl) eG3.symm))))))))
                  have hG3t : (I246 rm 3).toInt = G3.toInt := congrArg Int32.toInt hG3
                  have hG4 : I246 rm 4 = G4 := (Eq.trans (up2_at (Or.inr (by decide)) eI246) (Eq.trans (up2_kk eI242 hk240 krm (by decide)) (Eq.trans (up2_kk eI239 hk235 krm (by decide)) (Eq.trans (hf231.get krm rfl) (Eq.trans (hf227.get krm rfl) (Eq.trans (hf192.get krm rfl) (Eq.trans (hf100.get krm rfl) (Eq.trans (hf4.get krm rfl) eG4.symm))))))))
                  have hG4t : (I246 rm 4).toInt = G4.toInt := congrArg Int32.toInt hG4
                  have hG7 : I246 rm 7 = G7 := (Eq.trans (up2_at (Or.inr (by decide)) eI246) (Eq.trans (up2_kk eI242 hk240 krm (by decide)) (Eq.trans (up2_kk eI239 hk235 krm (by decide)) (Eq.trans (hf231.get krm rfl) (Eq.trans (hf227.get krm rfl) (Eq.trans (hf192.get krm rfl) (Eq.trans (hf100.get krm rfl) (Eq.trans (hf4.get krm rfl) eG7.symm))))))))
                  have hG7t : (I246 rm 7).toInt = G7.toInt := congrArg Int32.toInt hG7
                  have hG8 : I246 rm 8 = G8 := (Eq.trans (up2_at (Or.inr (by decide)) eI246) (Eq.trans (up2_kk eI242 hk240 krm (by decide)) (Eq.trans (up2_kk eI239 hk235 krm (by decide)) (Eq.trans (hf231.get krm rfl) (Eq.trans (hf227.get krm rfl) (Eq.trans (hf192.get krm rfl) (Eq.trans (hf100.get krm rfl) (Eq.trans (hf4.get krm rfl) eG8.symm))))))))
                  have hG8t : (I246 rm 8).toInt = G8.toInt := congrArg Int32.toInt hG8
                  have hG9 : I246 rm 9 = x245_ := (by rw [eI246]; exact up2_self _ _ _ _)
                  have hG9t : (I246 rm 9).toInt = x245_.toInt := congrArg Int32.toInt hG9
                  have hGN : I246 rm 10 = N1 := (Eq.trans (up2_at (Or.inr (by decide)) eI246) (Eq.trans (up2_kk eI242 hk240 krm (by decide)) (Eq.trans (up2_kk eI239 hk235 krm (by decide)) (Eq.trans (hf231.get krm rfl) (Eq.trans (hf227.get krm rfl) (Eq.trans (hf192.get krm rfl) eN1.symm))))))
                  have hGNt : (I246 rm 10).toInt = N1.toInt := congrArg Int32.toInt hGN
                  have hv8 : I246 a0 8 = A9 := (Eq.trans (up2_kk eI246 krm ka0 (by decide)) (Eq.trans (up2_kk eI242 hk240 ka0 (by decide)) (Eq.trans (up2_kk eI239 hk235 ka0 (by decide)) eA9.symm)))
                  have hv8t : (I246 a0 8).toInt = A9.toInt := congrArg Int32.toInt hv8
                  have hv9 : I246 a0 9 = x232_ := (Eq.trans (up2_kk eI246 krm ka0 (by decide)) (Eq.trans (up2_kk eI242 hk240 ka0 (by decide)) (Eq.trans (up2_kk eI239 hk235 ka0 (by decide)) e232.symm)))
                  have hv9t : (I246 a0 9).toInt = x232_.toInt := congrArg Int32.toInt hv9
                  exact r_vret hC hQ hlk hr (by decide) (by decide) dX10_readKnower_167 ⟨_, _, rfl, rfl, ⟨hs246, hF246, hFJ231, (by first | (left; omega) | (right; omega)), (by omega), (by omega), (by omega)⟩⟩
                · have hG3 : I231 rm 3 = G3 := (Eq.trans (hf231.get krm rfl) (Eq.trans (hf227.get krm rfl) (Eq.trans (hf192.get krm rfl) (Eq.trans (hf100.get krm rfl) (Eq.trans (hf4.get krm rfl) eG3.symm)))))
                  have hG3t : (I231 rm 3).toInt = G3.toInt := congrArg Int32.toInt hG3
                  have hG4 : I231 rm 4 = G4 := (Eq.trans (hf231.get krm rfl) (Eq.trans (hf227.get krm rfl) (Eq.trans (hf192.get krm rfl) (Eq.trans (hf100.get krm rfl) (Eq.trans (hf4.get krm rfl) eG4.symm)))))
                  have hG4t : (I231 rm 4).toInt = G4.toInt := congrArg Int32.toInt hG4
                  have hG7 : I231 rm 7 = G7 := (Eq.trans (hf231.get krm rfl) (Eq.trans (hf227.get krm rfl) (Eq.trans (hf192.get krm rfl) (Eq.trans (hf100.get krm rfl) (Eq.trans (hf4.get krm rfl) eG7.symm)))))
                  have hG7t : (I231 rm 7).toInt = G7.toInt := congrArg Int32.toInt hG7
                  have hG8 : I231 rm 8 = G8 := (Eq.trans (hf231.get krm rfl) (Eq.trans (hf227.get krm rfl) (Eq.trans (hf192.get krm rfl) (Eq.trans (hf100.get krm rfl) (Eq.trans (hf4.get krm rfl) eG8.symm)))))
                  have hG8t : (I231 rm 8).toInt = G8.toInt := congrArg Int32.toInt hG8
                  have hG9 : I231 rm 9 = x98_ := (Eq.trans (hf231.get krm rfl) (Eq.trans (hf227.get krm rfl) (Eq.trans (hf192.get krm rfl) (Eq.trans (hf100.get krm rfl) e98.symm))))
                  have hG9t : (I231 rm 9).toInt = x98_.toInt := congrArg Int32.toInt hG9
                  have hGN : I231 rm 10 = N1 := (Eq.trans (hf231.get krm rfl) (Eq.trans (hf227.get krm rfl) (Eq.trans (hf192.get krm rfl) eN1.symm)))
                  have hGNt : (I231 rm 10).toInt = N1.toInt := congrArg Int32.toInt hGN
                  have hv8 : I231 a0 8 = A9 := eA9.symm
                  have hv8t : (I231 a0 8).toInt = A9.toInt := congrArg Int32.toInt hv8
                  have hv9 : I231 a0 9 = x232_ := e232.symm
                  have hv9t : (I231 a0 9).toInt = x232_.toInt := congrArg Int32.toInt hv9
                  exact r_vret hC hQ hlk hr (by decide) (by decide) dX10_readKnower_113 ⟨_, _, rfl, rfl, ⟨hs231, hF231, hFJ231, (by first | (left; omega) | (right; omega)), (by omega), (by omega), (by omega)⟩⟩
              · replace k231_1 := k231_1 sf231
                clear k231_0 md230 sf227
                refine r_istore_n hC (lv' := [(2, .int x231_), (1, .int x196_), (0, .ref a0)]) dX10_readKnower_104 (by decide) rfl ?_
                refine r_aload_n hC dX10_readKnower_105 2 rfl ?_
                obtain ⟨A9, eA9⟩ : ∃ z : Int32, z = I231 a0 8 := ⟨_, rfl⟩
                have fA9 : A9.toInt = (I231 a0 8).toInt := by rw [eA9]
                have rA9 := hs231.rng ka0 rfl eA9
                refine r_geti hC 9 (ci := 10) rfl u10_in (by decide) mT_5_4 dX10_readKnower_106 ka0 rfl rfl (fun x247_ e247 => ?_)
                have f247 : x247_.toInt = (I231 a0 9).toInt := by rw [e247]
                refine r_iconst hC (v := (5)) dX10_readKnower_109 (by decide) (by decide) (fun x248_ e248 t248 => ?_)
                refine r_icmp_ne hC (tgt := 114) dX10_readKnower_110 (by decide) (fun c249 => ?_) (fun c249 => ?_)
                · refine r_aload_n hC dX10_readKnower_114 2 rfl ?_
                  refine r_getr hC 4 (ci := 10) rfl u10_in (by decide) mT_4_239 dX10_readKnower_115 ka0 rfl rfl hbr ?_
                  obtain ⟨a250_, hb250, hk250, hn250⟩ := hs231.row krm 23 80 4 (by decide) (by decide)
                  refine r_getrN hC 23 (ci := 9) rfl u9_in (by decide) nF_23 dX10_readKnower_118 krm rfl rfl hb250 ?_
                  refine r_aload_n hC dX10_readKnower_121 2 rfl ?_
                  refine r_getr hC 4 (ci := 10) rfl u10_in (by decide) mT_4_239 dX10_readKnower_122 ka0 rfl rfl hbr ?_
                  refine r_getiN hC 9 (ci := 9) rfl u9_in (by decide) nF_9 dX10_readKnower_125 krm rfl rfl (fun x251_ e251 => ?_)
                  have r251 := hs231.rng krm rfl e251
                  have f251 : x251_.toInt = (I231 rm 9).toInt := by rw [e251]
                  have w251 : x251_ = x98_ := by rw [e251]; exact (Eq.trans (hf231.get krm rfl) (Eq.trans (hf227.get krm rfl) (Eq.trans (hf192.get krm rfl) (Eq.trans (hf100.get krm rfl) e98.symm))))
                  have wt251 : x251_.toInt = x98_.toInt := by rw [w251]
                  refine r_aload_n hC dX10_readKnower_128 2 rfl ?_
                  refine r_getr hC 4 (ci := 10) rfl u10_in (by decide) mT_4_239 dX10_readKnower_129 ka0 rfl rfl hbr ?_
                  obtain ⟨a252_, hb252, hk252, hn252⟩ := hs231.row krm 27 84 19 (by decide) (by decide)
                  refine r_getrN hC 27 (ci := 9) rfl u9_in (by decide) nF_27 dX10_readKnower_132 krm rfl rfl hb252 ?_
                  refine r_iload_n hC dX10_readKnower_135 1 rfl ?_
                  refine x_iaload hC hk252 hn252 (by decide) rfl rfl dX10_readKnower_136 (by omega) (by omega) (fun x253_ e253 => ?_)
                  refine x_iastore hC hk250 hn250 (by decide) rfl rfl dX10_readKnower_137 (by omega) (by omega) (fun I254 eI254 => ?_)
                  have hs254 := hs231.put0 eI254 hk250 (rng_arr (by decide) _) rfl (xF_arr (by decide) _) (by decide)
                  have hF254 := hF231.put eI254 hk250 (inS_arr rfl _)
                  refine r_aload_n hC dX10_readKnower_138 2 rfl ?_
                  refine r_getr hC 4 (ci := 10) rfl u10_in (by decide) mT_4_239 dX10_readKnower_139 ka0 rfl rfl hbr ?_
                  obtain ⟨a255_, hb255, hk255, hn255⟩ := hs254.row krm 24 81 4 (by decide) (by decide)
                  refine r_getrN hC 24 (ci := 9) rfl u9_in (by decide) nF_24 dX10_readKnower_142 krm rfl rfl hb255 ?_
                  refine r_aload_n hC dX10_readKnower_145 2 rfl ?_
                  refine r_getr hC 4 (ci := 10) rfl u10_in (by decide) mT_4_239 dX10_readKnower_146 ka0 rfl rfl hbr ?_
                  refine r_getiN hC 9 (ci := 9) rfl u9_in (by decide) nF_9 dX10_readKnower_149 krm rfl rfl (fun x256_ e256 => ?_)
                  have r256 := hs254.rng krm rfl e256
                  have f256 : x256_.toInt = (I254 rm 9).toInt := by rw [e256]
                  have w256 : x256_ = x251_ := by rw [e256]; exact (Eq.trans (up2_kk eI254 hk250 krm (by decide)) e251.symm)
                  have wt256 : x256_.toInt = x251_.toInt := by rw [w256]
                  refine r_iload_n hC dX10_readKnower_152 0 rfl ?_
                  refine x_iastore hC hk255 hn255 (by decide) rfl rfl dX10_readKnower_153 (by omega) (by omega) (fun I257 eI257 => ?_)
                  have hs257 := hs254.put0 eI257 hk255 (rng_arr (by decide) _) rfl (xF_arr (by decide) _) (by decide)
                  have hF257 := hF254.put eI257 hk255 (inS_arr rfl _)
                  refine r_aload_n hC dX10_readKnower_154 2 rfl ?_
                  refine r_getr hC 4 (ci := 10) rfl u10_in (by decide) mT_4_239 dX10_readKnower_155 ka0 rfl rfl hbr ?_
                  refine r_dup hC dX10_readKnower_158 rfl ?_
                  refine r_getiN hC 9 (ci := 9) rfl u9_in (by decide) nF_9 dX10_readKnower_159 krm rfl rfl (fun x258_ e258 => ?_)
                  have r258 := hs257.rng krm rfl e258
                  have f258 : x258_.toInt = (I257 rm 9).toInt := by rw [e258]
                  have w258 : x258_ = x256_ := by rw [e258]; exact (Eq.trans (up2_kk eI257 hk255 krm (by decide)) e256.symm)
                  have wt258 : x258_.toInt = x256_.toInt := by rw [w258]
                  refine r_iconst hC (v := (1)) dX10_readKnower_162 (by decide) (by decide) (fun x259_ e259 t259 => ?_)
                  refine r_iadd hC dX10_readKnower_163 (fun x260_ e260 => ?_)
                  try have t260 : x260_.toInt = x258_.toInt + x259_.toInt := by rw [e260]; exact ti_add (by omega) (by omega)
                  refine r_putiN hC 9 (ci := 9) rfl u9_in tyX9_ok nmX9 (by decide) nF_9 rfl rfl rfl dX10_readKnower_164 krm rfl rfl (fun I261 eI261 => ?_)
                  have hs261 := hs257.put1 eI261 krm rfl (by omega) (by omega) rfl rfl (by decide)
                  have hF261 := hF257.put eI261 krm rfl
                  have hG3 : I261 rm 3 = G3 := (Eq.trans (up2_at (Or.inr (by decide)) eI261) (Eq.trans (up2_kk eI257 hk255 krm (by decide)) (Eq.trans (up2_kk eI254 hk250 krm (by decide)) (Eq.trans (hf231.get krm rfl) (Eq.trans (hf227.get krm rfl) (Eq.trans (hf192.get krm rfl) (Eq.trans (hf100.get krm rfl) (Eq.trans (hf4.get krm rfl) eG3.symm))))))))
                  have hG3t : (I261 rm 3).toInt = G3.toInt := congrArg Int32.toInt hG3
                  have hG4 : I261 rm 4 = G4 := (Eq.trans (up2_at (Or.inr (by decide)) eI261) (Eq.trans (up2_kk eI257 hk255 krm (by decide)) (Eq.trans (up2_kk eI254 hk250 krm (by decide)) (Eq.trans (hf231.get krm rfl) (Eq.trans (hf227.get krm rfl) (Eq.trans (hf192.get krm rfl) (Eq.trans (hf100.get krm rfl) (Eq.trans (hf4.get krm rfl) eG4.symm))))))))
                  have hG4t : (I261 rm 4).toInt = G4.toInt := congrArg Int32.toInt hG4
                  have hG7 : I261 rm 7 = G7 := (Eq.trans (up2_at (Or.inr (by decide)) eI261) (Eq.trans (up2_kk eI257 hk255 krm (by decide)) (Eq.trans (up2_kk eI254 hk250 krm (by decide)) (Eq.trans (hf231.get krm rfl) (Eq.trans (hf227.get krm rfl) (Eq.trans (hf192.get krm rfl) (Eq.trans (hf100.get krm rfl) (Eq.trans (hf4.get krm rfl) eG7.symm))))))))
                  have hG7t : (I261 rm 7).toInt = G7.toInt := congrArg Int32.toInt hG7
                  have hG8 : I261 rm 8 = G8 := (Eq.trans (up2_at (Or.inr (by decide)) eI261) (Eq.trans (up2_kk eI257 hk255 krm (by decide)) (Eq.trans (up2_kk eI254 hk250 krm (by decide)) (Eq.trans (hf231.get krm rfl) (Eq.trans (hf227.get krm rfl) (Eq.trans (hf192.get krm rfl) (Eq.trans (hf100.get krm rfl) (Eq.trans (hf4.get krm rfl) eG8.symm))))))))
                  have hG8t : (I261 rm 8).toInt = G8.toInt := congrArg Int32.toInt hG8
                  have hG9 : I261 rm 9 = x260_ := (by rw [eI261]; exact up2_self _ _ _ _)
                  have hG9t : (I261 rm 9).toInt = x260_.toInt := congrArg Int32.toInt hG9
                  have hGN : I261 rm 10 = N1 := (Eq.trans (up2_at (Or.inr (by decide)) eI261) (Eq.trans (up2_kk eI257 hk255 krm (by decide)) (Eq.trans (up2_kk eI254 hk250 krm (by decide)) (Eq.trans (hf231.get krm rfl) (Eq.trans (hf227.get krm rfl) (Eq.trans (hf192.get krm rfl) eN1.symm))))))
                  have hGNt : (I261 rm 10).toInt = N1.toInt := congrArg Int32.toInt hGN
                  have hv8 : I261 a0 8 = A9 := (Eq.trans (up2_kk eI261 krm ka0 (by decide)) (Eq.trans (up2_kk eI257 hk255 ka0 (by decide)) (Eq.trans (up2_kk eI254 hk250 ka0 (by decide)) eA9.symm)))
                  have hv8t : (I261 a0 8).toInt = A9.toInt := congrArg Int32.toInt hv8
                  have hv9 : I261 a0 9 = x247_ := (Eq.trans (up2_kk eI261 krm ka0 (by decide)) (Eq.trans (up2_kk eI257 hk255 ka0 (by decide)) (Eq.trans (up2_kk eI254 hk250 ka0 (by decide)) e247.symm)))
                  have hv9t : (I261 a0 9).toInt = x247_.toInt := congrArg Int32.toInt hv9
                  exact r_vret hC hQ hlk hr (by decide) (by decide) dX10_readKnower_167 ⟨_, _, rfl, rfl, ⟨hs261, hF261, hFJ231, (by first | (left; omega) | (right; omega)), (by omega), (by omega), (by omega)⟩⟩
                · have hG3 : I231 rm 3 = G3 := (Eq.trans (hf231.get krm rfl) (Eq.trans (hf227.get krm rfl) (Eq.trans (hf192.get krm rfl) (Eq.trans (hf100.get krm rfl) (Eq.trans (hf4.get krm rfl) eG3.symm)))))
                  have hG3t : (I231 rm 3).toInt = G3.toInt := congrArg Int32.toInt hG3
                  have hG4 : I231 rm 4 = G4 := (Eq.trans (hf231.get krm rfl) (Eq.trans (hf227.get krm rfl) (Eq.trans (hf192.get krm rfl) (Eq.trans (hf100.get krm rfl) (Eq.trans (hf4.get krm rfl) eG4.symm)))))
                  have hG4t : (I231 rm 4).toInt = G4.toInt := congrArg Int32.toInt hG4
                  have hG7 : I231 rm 7 = G7 := (Eq.trans (hf231.get krm rfl) (Eq.trans (hf227.get krm rfl) (Eq.trans (hf192.get krm rfl) (Eq.trans (hf100.get krm rfl) (Eq.trans (hf4.get krm rfl) eG7.symm)))))
                  have hG7t : (I231 rm 7).toInt = G7.toInt := congrArg Int32.toInt hG7
                  have hG8 : I231 rm 8 = G8 := (Eq.trans (hf231.get krm rfl) (Eq.trans (hf227.get krm rfl) (Eq.trans (hf192.get krm rfl) (Eq.trans (hf100.get krm rfl) (Eq.trans (hf4.get krm rfl) eG8.symm)))))
                  have hG8t : (I231 rm 8).toInt = G8.toInt := congrArg Int32.toInt hG8
                  have hG9 : I231 rm 9 = x98_ := (Eq.trans (hf231.get krm rfl) (Eq.trans (hf227.get krm rfl) (Eq.trans (hf192.get krm rfl) (Eq.trans (hf100.get krm rfl) e98.symm))))
                  have hG9t : (I231 rm 9).toInt = x98_.toInt := congrArg Int32.toInt hG9
                  have hGN : I231 rm 10 = N1 := (Eq.trans (hf231.get krm rfl) (Eq.trans (hf227.get krm rfl) (Eq.trans (hf192.get krm rfl) eN1.symm)))
                  have hGNt : (I231 rm 10).toInt = N1.toInt := congrArg Int32.toInt hGN
                  have hv8 : I231 a0 8 = A9 := eA9.symm
                  have hv8t : (I231 a0 8).toInt = A9.toInt := congrArg Int32.toInt hv8
                  have hv9 : I231 a0 9 = x247_ := e247.symm
                  have hv9t : (I231 a0 9).toInt = x247_.toInt := congrArg Int32.toInt hv9
                  exact r_vret hC hQ hlk hr (by decide) (by decide) dX10_readKnower_113 ⟨_, _, rfl, rfl, ⟨hs231, hF231, hFJ231, (by first | (left; omega) | (right; omega)), (by omega), (by omega), (by omega)⟩⟩
            · refine r_aload_n hC dX10_readKnower_84 1 rfl ?_
              refine r_iconst hC (v := (2)) dX10_readKnower_85 (by decide) (by decide) (fun x262_ e262 t262 => ?_)
              have md263 : (I192 a0 9).toInt ≠ 5 := by omega
              refine r_callV hC (As := [.int x262_]) (rest := []) (ci := 10) (c_X10_wrong g (xL X) K len I192 J192 R hs192 a0 ka0 x262_) mT_5_236 mT_1_10 mT_5_233 mT_5_235 mP_55 okX10_wrong ⟨by decide, by decide⟩ rfl (by show kO (K a0) = _; rw [ka0]; rfl) rfl rfl (Nat.le_of_ble_eq_true rfl) ⟨by decide, by decide⟩ dX10_readKnower_86 (aV1 (F := fun st M => P g X 3 89 [(1, .int x196_), (0, .ref a0)] st _ _ M) (M := (K, len, I192, J192, R)) fun I264 h264 => ?_)
              obtain ⟨hs264, hf264, k264_0, k264_1⟩ := h264
              show P g X 3 89 [(1, .int x196_), (0, .ref a0)] [] _ _ (K, len, I264, J192, R)
              have hF264 : Fr K [(10, 9), (10, 10), (11, 8), (11, 9), (11, 10), (11, 11), (11, 12), (11, 13), (80, 999), (81, 999), (83, 999), (84, 999)] I I264 := hF192.trans hf264 rfl rfl
              clear k192_3
              clear md263 sf192
              refine r_aload_n hC dX10_readKnower_89 1 rfl ?_
              have md265 : (I264 a0 9).toInt = 5 := by omega
              refine r_callV hC (As := []) (rest := []) (ci := 10) (c_X10_goesOn g (xL X) K len I264 J192 R hs264 a0 ka0) mT_5_199 mT_1_10 mT_5_196 mT_5_198 mP_49 okX10_goesOn ⟨by decide, by decide⟩ rfl (by show kO (K a0) = _; rw [ka0]; rfl) rfl rfl (Nat.le_of_ble_eq_true rfl) ⟨by decide, by decide⟩ dX10_readKnower_90 (aV2 (F := fun st M => P g X 3 93 [(1, .int x196_), (0, .ref a0)] st _ _ M) (M := (K, len, I264, J192, R)) fun I266 J266 h266 => ?_)
              obtain ⟨hs266, hf266, hfj266, k266_0, k266_1, k266_2, k266_3⟩ := h266
              show P g X 3 93 [(1, .int x196_), (0, .ref a0)] [] _ _ (K, len, I266, J266, R)
              have hF266 : Fr K [(10, 9), (10, 10), (11, 8), (11, 9), (11, 10), (11, 11), (11, 12), (11, 13), (80, 999), (81, 999), (83, 999), (84, 999)] I I266 := hF264.trans hf266 rfl rfl
              have hFJ266 : Fr K [(11, 14), (82, 999)] J J266 := hFJ192.trans hfj266 rfl rfl
              have sf266 := k266_0 md265
              clear k266_0 k266_1 k266_3 md265
              refine r_aload_n hC dX10_readKnower_93 1 rfl ?_
              refine r_ldcwS hC (i := 59) (by decide) rfl rfl dX10_readKnower_94 ?_
              refine r_iconst hC (v := (0)) dX10_readKnower_97 (by decide) (by decide) (fun x267_ e267 t267 => ?_)
              refine r_sipush hC (v := (999)) dX10_readKnower_98 (by decide) (by decide) (fun x268_ e268 t268 => ?_)
              have md269 : (I266 a0 9).toInt = 5 := by omega
              refine r_callV hC (As := [.ref (g.2.2.1 59), .int x267_, .int x268_]) (rest := []) (ci := 10) (c_X10_readPart g (xL X) K len I266 J266 R hs266 a0 ka0 59 (by decide) x267_ x268_) mT_6_1 mT_1_10 mT_5_238 mT_6_0 mP_56 okX10_readPart ⟨by decide, by decide⟩ rfl (by show kO (K a0) = _; rw [ka0]; rfl) rfl rfl (Nat.le_of_ble_eq_true rfl) ⟨by decide, by decide⟩ dX10_readKnower_101 (aI2 (F := fun st M => P g X 3 104 [(1, .int x196_), (0, .ref a0)] st _ _ M) (M := (K, len, I266, J266, R)) fun x270_ I270 J270 h270 => ?_)
              obtain ⟨hs270, hf270, hfj270, k270_0, k270_1, k270_2, k270_3⟩ := h270
              show P g X 3 104 [(1, .int x196_), (0, .ref a0)] [.int x270_] _ _ (K, len, I270, J270, R)
              have hF270 : Fr K [(10, 9), (10, 10), (11, 8), (11, 9), (11, 10), (11, 11), (11, 12), (11, 13), (80, 999), (81, 999), (83, 999), (84, 999)] I I270 := hF266.trans hf270 rfl rfl
              have hFJ270 : Fr K [(11, 14), (82, 999)] J J270 := hFJ266.trans hfj270 rfl rfl
              have sf270 := k270_0 md269
              clear k270_0 k270_1 k270_3 md269 sf266
              refine r_istore_n hC (lv' := [(2, .int x270_), (1, .int x196_), (0, .ref a0)]) dX10_readKnower_104 (by decide) rfl ?_
              refine r_aload_n hC dX10_readKnower_105 2 rfl ?_
              obtain ⟨A9, eA9⟩ : ∃ z : Int32, z = I270 a0 8 := ⟨_, rfl⟩
              have fA9 : A9.toInt = (I270 a0 8).toInt := by rw [eA9]
              have rA9 := hs270.rng ka0 rfl eA9
              refine r_geti hC 9 (ci := 10) rfl u10_in (by decide) mT_5_4 dX10_readKnower_106 ka0 rfl rfl (fun x271_ e271 => ?_)
              have f271 : x271_.toInt = (I270 a0 9).toInt := by rw [e271]
              refine r_iconst hC (v := (5)) dX10_readKnower_109 (by decide) (by decide) (fun x272_ e272 t272 => ?_)
              refine r_icmp_ne hC (tgt := 114) dX10_readKnower_110 (by decide) (fun c273 => ?_) (fun c273 => ?_)
              · refine r_aload_n hC dX10_readKnower_114 2 rfl ?_
                refine r_getr hC 4 (ci := 10) rfl u10_in (by decide) mT_4_239 dX10_readKnower_115 ka0 rfl rfl hbr ?_
                obtain ⟨a274_, hb274, hk274, hn274⟩ := hs270.row krm 23 80 4 (by decide) (by decide)
                refine r_getrN hC 23 (ci := 9) rfl u9_in (by decide) nF_23 dX10_readKnower_118 krm rfl rfl hb274 ?_
                refine r_aload_n hC dX10_readKnower_121 2 rfl ?_
                refine r_getr hC 4 (ci := 10) rfl u10_in (by decide) mT_4_239 dX10_readKnower_122 ka0 rfl rfl hbr ?_
                refine r_getiN hC 9 (ci := 9) rfl u9_in (by decide) nF_9 dX10_readKnower_125 krm rfl rfl (fun x275_ e275 => ?_)
                have r275 := hs270.rng krm rfl e275
                have f275 : x275_.toInt = (I270 rm 9).toInt := by rw [e275]
                have w275 : x275_ = x98_ := by rw [e275]; exact (Eq.trans (hf270.get krm rfl) (Eq.trans (hf266.get krm rfl) (Eq.trans (hf264.get krm rfl) (Eq.trans (hf192.get krm rfl) (Eq.trans (hf100.get krm rfl) e98.symm)))))
                have wt275 : x275_.toInt = x98_.toInt := by rw [w275]
                refine r_aload_n hC dX10_readKnower_128 2 rfl ?_
                refine r_getr hC 4 (ci := 10) rfl u10_in (by decide) mT_4_239 dX10_readKnower_129 ka0 rfl rfl hbr ?_
                obtain ⟨a276_, hb276, hk276, hn276⟩ := hs270.row krm 27 84 19 (by decide) (by decide)
                refine r_getrN hC 27 (ci := 9) rfl u9_in (by decide) nF_27 dX10_readKnower_132 krm rfl rfl hb276 ?_
                refine r_iload_n hC dX10_readKnower_135 1 rfl ?_
                refine x_iaload hC hk276 hn276 (by decide) rfl rfl dX10_readKnower_136 (by omega) (by omega) (fun x277_ e277 => ?_)
                refine x_iastore hC hk274 hn274 (by decide) rfl rfl dX10_readKnower_137 (by omega) (by omega) (fun I278 eI278 => ?_)
                have hs278 := hs270.put0 eI278 hk274 (rng_arr (by decide) _) rfl (xF_arr (by decide) _) (by decide)
                have hF278 := hF270.put eI278 hk274 (inS_arr rfl _)
                refine r_aload_n hC dX10_readKnower_138 2 rfl ?_
                refine r_getr hC 4 (ci := 10) rfl u10_in (by decide) mT_4_239 dX10_readKnower_139 ka0 rfl rfl hbr ?_
                obtain ⟨a279_, hb279, hk279, hn279⟩ := hs278.row krm 24 81 4 (by decide) (by decide)
                refine r_getrN hC 24 (ci := 9) rfl u9_in (by decide) nF_24 dX10_readKnower_142 krm rfl rfl hb279 ?_
                refine r_aload_n hC dX10_readKnower_145 2 rfl ?_
                refine r_getr hC 4 (ci := 10) rfl u10_in (by decide) mT_4_239 dX10_readKnower_146 ka0 rfl rfl hbr ?_
                refine r_getiN hC 9 (ci := 9) rfl u9_in (by decide) nF_9 dX10_readKnower_149 krm rfl rfl (fun x280_ e280 => ?_)
                have r280 := hs278.rng krm rfl e280
                have f280 : x280_.toInt = (I278 rm 9).toInt := by rw [e280]
                have w280 : x280_ = x275_ := by rw [e280]; exact (Eq.trans (up2_kk eI278 hk274 krm (by decide)) e275.symm)
                have wt280 : x280_.toInt = x275_.toInt := by rw [w280]
                refine r_iload_n hC dX10_readKnower_152 0 rfl ?_
                refine x_iastore hC hk279 hn279 (by decide) rfl rfl dX10_readKnower_153 (by omega) (by omega) (fun I281 eI281 => ?_)
                have hs281 := hs278.put0 eI281 hk279 (rng_arr (by decide) _) rfl (xF_arr (by decide) _) (by decide)
                have hF281 := hF278.put eI281 hk279 (inS_arr rfl _)
                refine r_aload_n hC dX10_readKnower_154 2 rfl ?_
                refine r_getr hC 4 (ci := 10) rfl u10_in (by decide) mT_4_239 dX10_readKnower_155 ka0 rfl rfl hbr ?_
                refine r_dup hC dX10_readKnower_158 rfl ?_
                refine r_getiN hC 9 (ci := 9) rfl u9_in (by decide) nF_9 dX10_readKnower_159 krm rfl rfl (fun x282_ e282 => ?_)
                have r282 := hs281.rng krm rfl e282
                have f282 : x282_.toInt = (I281 rm 9).toInt := by rw [e282]
                have w282 : x282_ = x280_ := by rw [e282]; exact (Eq.trans (up2_kk eI281 hk279 krm (by decide)) e280.symm)
                have wt282 : x282_.toInt = x280_.toInt := by rw [w282]
                refine r_iconst hC (v := (1)) dX10_readKnower_162 (by decide) (by decide) (fun x283_ e283 t283 => ?_)
                refine r_iadd hC dX10_readKnower_163 (fun x284_ e284 => ?_)
                try have t284 : x284_.toInt = x282_.toInt + x283_.toInt := by rw [e284]; exact ti_add (by omega) (by omega)
                refine r_putiN hC 9 (ci := 9) rfl u9_in tyX9_ok nmX9 (by decide) nF_9 rfl rfl rfl dX10_readKnower_164 krm rfl rfl (fun I285 eI285 => ?_)
                have hs285 := hs281.put1 eI285 krm rfl (by omega) (by omega) rfl rfl (by decide)
                have hF285 := hF281.put eI285 krm rfl
                have hG3 : I285 rm 3 = G3 := (Eq.trans (up2_at (Or.inr (by decide)) eI285) (Eq.trans (up2_kk eI281 hk279 krm (by decide)) (Eq.trans (up2_kk eI278 hk274 krm (by decide)) (Eq.trans (hf270.get krm rfl) (Eq.trans (hf266.get krm rfl) (Eq.trans (hf264.get krm rfl) (Eq.trans (hf192.get krm rfl) (Eq.trans (hf100.get krm rfl) (Eq.trans (hf4.get krm rfl) eG3.symm)))))))))
                have hG3t : (I285 rm 3).toInt = G3.toInt := congrArg Int32.toInt hG3
                have hG4 : I285 rm 4 = G4 := (Eq.trans (up2_at (Or.inr (by decide)) eI285) (Eq.trans (up2_kk eI281 hk279 krm (by decide)) (Eq.trans (up2_kk eI278 hk274 krm (by decide)) (Eq.trans (hf270.get krm rfl) (Eq.trans (hf266.get krm rfl) (Eq.trans (hf264.get krm rfl) (Eq.trans (hf192.get krm rfl) (Eq.trans (hf100.get krm rfl) (Eq.trans (hf4.get krm rfl) eG4.symm)))))))))
                have hG4t : (I285 rm 4).toInt = G4.toInt := congrArg Int32.toInt hG4
                have hG7 : I285 rm 7 = G7 := (Eq.trans (up2_at (Or.inr (by decide)) eI285) (Eq.trans (up2_kk eI281 hk279 krm (by decide)) (Eq.trans (up2_kk eI278 hk274 krm (by decide)) (Eq.trans (hf270.get krm rfl) (Eq.trans (hf266.get krm rfl) (Eq.trans (hf264.get krm rfl) (Eq.trans (hf192.get krm rfl) (Eq.trans (hf100.get krm rfl) (Eq.trans (hf4.get krm rfl) eG7.symm)))))))))
                have hG7t : (I285 rm 7).toInt = G7.toInt := congrArg Int32.toInt hG7
                have hG8 : I285 rm 8 = G8 := (Eq.trans (up2_at (Or.inr (by decide)) eI285) (Eq.trans (up2_kk eI281 hk279 krm (by decide)) (Eq.trans (up2_kk eI278 hk274 krm (by decide)) (Eq.trans (hf270.get krm rfl) (Eq.trans (hf266.get krm rfl) (Eq.trans (hf264.get krm rfl) (Eq.trans (hf192.get krm rfl) (Eq.trans (hf100.get krm rfl) (Eq.trans (hf4.get krm rfl) eG8.symm)))))))))
                have hG8t : (I285 rm 8).toInt = G8.toInt := congrArg Int32.toInt hG8
                have hG9 : I285 rm 9 = x284_ := (by rw [eI285]; exact up2_self _ _ _ _)
                have hG9t : (I285 rm 9).toInt = x284_.toInt := congrArg Int32.toInt hG9
                have hGN : I285 rm 10 = N1 := (Eq.trans (up2_at (Or.inr (by decide)) eI285) (Eq.trans (up2_kk eI281 hk279 krm (by decide)) (Eq.trans (up2_kk eI278 hk274 krm (by decide)) (Eq.trans (hf270.get krm rfl) (Eq.trans (hf266.get krm rfl) (Eq.trans (hf264.get krm rfl) (Eq.trans (hf192.get krm rfl) eN1.symm)))))))
                have hGNt : (I285 rm 10).toInt = N1.toInt := congrArg Int32.toInt hGN
                have hv8 : I285 a0 8 = A9 := (Eq.trans (up2_kk eI285 krm ka0 (by decide)) (Eq.trans (up2_kk eI281 hk279 ka0 (by decide)) (Eq.trans (up2_kk eI278 hk274 ka0 (by decide)) eA9.symm)))
                have hv8t : (I285 a0 8).toInt = A9.toInt := congrArg Int32.toInt hv8
                have hv9 : I285 a0 9 = x271_ := (Eq.trans (up2_kk eI285 krm ka0 (by decide)) (Eq.trans (up2_kk eI281 hk279 ka0 (by decide)) (Eq.trans (up2_kk eI278 hk274 ka0 (by decide)) e271.symm)))
                have hv9t : (I285 a0 9).toInt = x271_.toInt := congrArg Int32.toInt hv9
                exact r_vret hC hQ hlk hr (by decide) (by decide) dX10_readKnower_167 ⟨_, _, rfl, rfl, ⟨hs285, hF285, hFJ270, (by first | (left; omega) | (right; omega)), (by omega), (by omega), (by omega)⟩⟩
              · have hG3 : I270 rm 3 = G3 := (Eq.trans (hf270.get krm rfl) (Eq.trans (hf266.get krm rfl) (Eq.trans (hf264.get krm rfl) (Eq.trans (hf192.get krm rfl) (Eq.trans (hf100.get krm rfl) (Eq.trans (hf4.get krm rfl) eG3.symm))))))
                have hG3t : (I270 rm 3).toInt = G3.toInt := congrArg Int32.toInt hG3
                have hG4 : I270 rm 4 = G4 := (Eq.trans (hf270.get krm rfl) (Eq.trans (hf266.get krm rfl) (Eq.trans (hf264.get krm rfl) (Eq.trans (hf192.get krm rfl) (Eq.trans (hf100.get krm rfl) (Eq.trans (hf4.get krm rfl) eG4.symm))))))
                have hG4t : (I270 rm 4).toInt = G4.toInt := congrArg Int32.toInt hG4
                have hG7 : I270 rm 7 = G7 := (Eq.trans (hf270.get krm rfl) (Eq.trans (hf266.get krm rfl) (Eq.trans (hf264.get krm rfl) (Eq.trans (hf192.get krm rfl) (Eq.trans (hf100.get krm rfl) (Eq.trans (hf4.get krm rfl) eG7.symm))))))
                have hG7t : (I270 rm 7).toInt = G7.toInt := congrArg Int32.toInt hG7
                have hG8 : I270 rm 8 = G8 := (Eq.trans (hf270.get krm rfl) (Eq.trans (hf266.get krm rfl) (Eq.trans (hf264.get krm rfl) (Eq.trans (hf192.get krm rfl) (Eq.trans (hf100.get krm rfl) (Eq.trans (hf4.get krm rfl) eG8.symm))))))
                have hG8t : (I270 rm 8).toInt = G8.toInt := congrArg Int32.toInt hG8
                have hG9 : I270 rm 9 = x98_ := (Eq.trans (hf270.get krm rfl) (Eq.trans (hf266.get krm rfl) (Eq.trans (hf264.get krm rfl) (Eq.trans (hf192.get krm rfl) (Eq.trans (hf100.get krm rfl) e98.symm)))))
                have hG9t : (I270 rm 9).toInt = x98_.toInt := congrArg Int32.toInt hG9
                have hGN : I270 rm 10 = N1 := (Eq.trans (hf270.get krm rfl) (Eq.trans (hf266.get krm rfl) (Eq.trans (hf264.get krm rfl) (Eq.trans (hf192.get krm rfl) eN1.symm))))
                have hGNt : (I270 rm 10).toInt = N1.toInt := congrArg Int32.toInt hGN
                have hv8 : I270 a0 8 = A9 := eA9.symm
                have hv8t : (I270 a0 8).toInt = A9.toInt := congrArg Int32.toInt hv8
                have hv9 : I270 a0 9 = x271_ := e271.symm
                have hv9t : (I270 a0 9).toInt = x271_.toInt := congrArg Int32.toInt hv9
                exact r_vret hC hQ hlk hr (by decide) (by decide) dX10_readKnower_113 ⟨_, _, rfl, rfl, ⟨hs270, hF270, hFJ270, (by first | (left; omega) | (right; omega)), (by omega), (by omega), (by omega)⟩⟩
        · clear k193_2
          refine r_aload_n hC dX10_readKnower_50 0 rfl ?_
          refine r_iconst hC (v := (1)) dX10_readKnower_51 (by decide) (by decide) (fun x286_ e286 t286 => ?_)
          have md287 : (I192 a0 9).toInt ≠ 5 := by omega
          refine r_callV hC (As := [.int x286_]) (rest := []) (ci := 10) (c_X10_wrong g (xL X) K len I192 J192 R hs192 a0 ka0 x286_) mT_5_236 mT_1_10 mT_5_233 mT_5_235 mP_55 okX10_wrong ⟨by decide, by decide⟩ rfl (by show kO (K a0) = _; rw [ka0]; rfl) rfl rfl (Nat.le_of_ble_eq_true rfl) ⟨by decide, by decide⟩ dX10_readKnower_52 (aV1 (F := fun st M => P g X 3 55 [(0, .ref a0)] st _ _ M) (M := (K, len, I192, J192, R)) fun I288 h288 => ?_)
          obtain ⟨hs288, hf288, k288_0, k288_1⟩ := h288
          show P g X 3 55 [(0, .ref a0)] [] _ _ (K, len, I288, J192, R)
          have hF288 : Fr K [(10, 9), (10, 10), (11, 8), (11, 9), (11, 10), (11, 11), (11, 12), (11, 13), (80, 999), (81, 999), (83, 999), (84, 999)] I I288 := hF192.trans hf288 rfl rfl
          clear k192_3
          clear md287 sf192
          refine r_aload_n hC dX10_readKnower_55 0 rfl ?_
          refine r_getr hC 4 (ci := 10) rfl u10_in (by decide) mT_4_239 dX10_readKnower_56 ka0 rfl rfl hbr ?_
          refine r_aload_n hC dX10_readKnower_59 0 rfl ?_
          refine r_getj hC 14 (ci := 10) rfl u10_in (by decide) mT_5_9 dX10_readKnower_60 ka0 rfl rfl (fun y289_ e289 => ?_)
          refine r_callV hC (As := [.long y289_]) (rest := []) (ci := 9) (c_X9_find g (xL X) K len I288 J192 R hs288 rm krm y289_) mT_6_36 mT_1_17 mT_6_33 mT_6_34 mT_6_35 okX9_find ⟨by decide, by decide⟩ rfl (by show kO (K rm) = _; rw [krm]; rfl) rfl rfl (Nat.le_of_ble_eq_true rfl) ⟨by decide, by decide⟩ dX10_readKnower_63 (aI0 (F := fun st M => P g X 3 66 [(0, .ref a0)] st _ _ M) (M := (K, len, I288, J192, R)) fun x290_ h290 => ?_)
          obtain ⟨k290_0, k290_1⟩ := h290
          show P g X 3 66 [(0, .ref a0)] [.int x290_] _ _ (K, len, I288, J192, R)
          refine r_istore_n hC (lv' := [(1, .int x290_), (0, .ref a0)]) dX10_readKnower_66 (by decide) rfl ?_
          refine r_iload_n hC dX10_readKnower_67 0 rfl ?_
          refine r_iconst hC (v := (-1)) dX10_readKnower_68 (by decide) (by decide) (fun x291_ e291 t291 => ?_)
          refine r_icmp_eq hC (tgt := 84) dX10_readKnower_69 (by decide) (fun c292 => ?_) (fun c292 => ?_)
          · refine r_aload_n hC dX10_readKnower_84 1 rfl ?_
            refine r_iconst hC (v := (2)) dX10_readKnower_85 (by decide) (by decide) (fun x293_ e293 t293 => ?_)
            have md294 : (I288 a0 9).toInt = 5 := by omega
            refine r_callV hC (As := [.int x293_]) (rest := []) (ci := 10) (c_X10_wrong g (xL X) K len I288 J192 R hs288 a0 ka0 x293_) mT_5_236 mT_1_10 mT_5_233 mT_5_235 mP_55 okX10_wrong ⟨by decide, by decide⟩ rfl (by show kO (K a0) = _; rw [ka0]; rfl) rfl rfl (Nat.le_of_ble_eq_true rfl) ⟨by decide, by decide⟩ dX10_readKnower_86 (aV1 (F := fun st M => P g X 3 89 [(1, .int x290_), (0, .ref a0)] st _ _ M) (M := (K, len, I288, J192, R)) fun I295 h295 => ?_)
            obtain ⟨hs295, hf295, k295_0, k295_1⟩ := h295
            show P g X 3 89 [(1, .int x290_), (0, .ref a0)] [] _ _ (K, len, I295, J192, R)
            have hF295 : Fr K [(10, 9), (10, 10), (11, 8), (11, 9), (11, 10), (11, 11), (11, 12), (11, 13), (80, 999), (81, 999), (83, 999), (84, 999)] I I295 := hF288.trans hf295 rfl rfl
            clear md294
            refine r_aload_n hC dX10_readKnower_89 1 rfl ?_
            have md296 : (I295 a0 9).toInt = 5 := by omega
            refine r_callV hC (As := []) (rest := []) (ci := 10) (c_X10_goesOn g (xL X) K len I295 J192 R hs295 a0 ka0) mT_5_199 mT_1_10 mT_5_196 mT_5_198 mP_49 okX10_goesOn ⟨by decide, by decide⟩ rfl (by show kO (K a0) = _; rw [ka0]; rfl) rfl rfl (Nat.le_of_ble_eq_true rfl) ⟨by decide, by decide⟩ dX10_readKnower_90 (aV2 (F := fun st M => P g X 3 93 [(1, .int x290_), (0, .ref a0)] st _ _ M) (M := (K, len, I295, J192, R)) fun I297 J297 h297 => ?_)
            obtain ⟨hs297, hf297, hfj297, k297_0, k297_1, k297_2, k297_3⟩ := h297
            show P g X 3 93 [(1, .int x290_), (0, .ref a0)] [] _ _ (K, len, I297, J297, R)
            have hF297 : Fr K [(10, 9), (10, 10), (11, 8), (11, 9), (11, 10), (11, 11), (11, 12), (11, 13), (80, 999), (81, 999), (83, 999), (84, 999)] I I297 := hF295.trans hf297 rfl rfl
            have hFJ297 : Fr K [(11, 14), (82, 999)] J J297 := hFJ192.trans hfj297 rfl rfl
            have sf297 := k297_0 md296
            clear k297_0 k297_1 k297_3 md296
            refine r_aload_n hC dX10_readKnower_93 1 rfl ?_
            refine r_ldcwS hC (i := 59) (by decide) rfl rfl dX10_readKnower_94 ?_
            refine r_iconst hC (v := (0)) dX10_readKnower_97 (by decide) (by decide) (fun x298_ e298 t298 => ?_)
            refine r_sipush hC (v := (999)) dX10_readKnower_98 (by decide) (by decide) (fun x299_ e299 t299 => ?_)
            have md300 : (I297 a0 9).toInt = 5 := by omega
            refine r_callV hC (As := [.ref (g.2.2.1 59), .int x298_, .int x299_]) (rest := []) (ci := 10) (c_X10_readPart g (xL X) K len I297 J297 R hs297 a0 ka0 59 (by decide) x298_ x299_) mT_6_1 mT_1_10 mT_5_238 mT_6_0 mP_56 okX10_readPart ⟨by decide, by decide⟩ rfl (by show kO (K a0) = _; rw [ka0]; rfl) rfl rfl (Nat.le_of_ble_eq_true rfl) ⟨by decide, by decide⟩ dX10_readKnower_101 (aI2 (F := fun st M => P g X 3 104 [(1, .int x290_), (0, .ref a0)] st _ _ M) (M := (K, len, I297, J297, R)) fun x301_ I301 J301 h301 => ?_)
            obtain ⟨hs301, hf301, hfj301, k301_0, k301_1, k301_2, k301_3⟩ := h301
            show P g X 3 104 [(1, .int x290_), (0, .ref a0)] [.int x301_] _ _ (K, len, I301, J301, R)
            have hF301 : Fr K [(10, 9), (10, 10), (11, 8), (11, 9), (11, 10), (11, 11), (11, 12), (11, 13), (80, 999), (81, 999), (83, 999), (84, 999)] I I301 := hF297.trans hf301 rfl rfl
            have hFJ301 : Fr K [(11, 14), (82, 999)] J J301 := hFJ297.trans hfj301 rfl rfl
            have sf301 := k301_0 md300
            clear k301_0 k301_1 k301_3 md300 sf297
            refine r_istore_n hC (lv' := [(2, .int x301_), (1, .int x290_), (0, .ref a0)]) dX10_readKnower_104 (by decide) rfl ?_
            refine r_aload_n hC dX10_readKnower_105 2 rfl ?_
            obtain ⟨A9, eA9⟩ : ∃ z : Int32, z = I301 a0 8 := ⟨_, rfl⟩
            have fA9 : A9.toInt = (I301 a0 8).toInt := by rw [eA9]
            have rA9 := hs301.rng ka0 rfl eA9
            refine r_geti hC 9 (ci := 10) rfl u10_in (by decide) mT_5_4 dX10_readKnower_106 ka0 rfl rfl (fun x302_ e302 => ?_)
            have f302 : x302_.toInt = (I301 a0 9).toInt := by rw [e302]
            refine r_iconst hC (v := (5)) dX10_readKnower_109 (by decide) (by decide) (fun x303_ e303 t303 => ?_)
            refine r_icmp_ne hC (tgt := 114) dX10_readKnower_110 (by decide) (fun c304 => ?_) (fun c304 => ?_)
            · refine r_aload_n hC dX10_readKnower_114 2 rfl ?_
              refine r_getr hC 4 (ci := 10) rfl u10_in (by decide) mT_4_239 dX10_readKnower_115 ka0 rfl rfl hbr ?_
              obtain ⟨a305_, hb305, hk305, hn305⟩ := hs301.row krm 23 80 4 (by decide) (by decide)
              refine r_getrN hC 23 (ci := 9) rfl u9_in (by decide) nF_23 dX10_readKnower_118 krm rfl rfl hb305 ?_
              refine r_aload_n hC dX10_readKnower_121 2 rfl ?_
              refine r_getr hC 4 (ci := 10) rfl u10_in (by decide) mT_4_239 dX10_readKnower_122 ka0 rfl rfl hbr ?_
              refine r_getiN hC 9 (ci := 9) rfl u9_in (by decide) nF_9 dX10_readKnower_125 krm rfl rfl (fun x306_ e306 => ?_)
              have r306 := hs301.rng krm rfl e306
              have f306 : x306_.toInt = (I301 rm 9).toInt := by rw [e306]
              have w306 : x306_ = x98_ := by rw [e306]; exact (Eq.trans (hf301.get krm rfl) (Eq.trans (hf297.get krm rfl) (Eq.trans (hf295.get krm rfl) (Eq.trans (hf288.get krm rfl) (Eq.trans (hf192.get krm rfl) (Eq.trans (hf100.get krm rfl) e98.symm))))))
              have wt306 : x306_.toInt = x98_.toInt := by rw [w306]
              refine r_aload_n hC dX10_readKnower_128 2 rfl ?_
              refine r_getr hC 4 (ci := 10) rfl u10_in (by decide) mT_4_239 dX10_readKnower_129 ka0 rfl rfl hbr ?_
              obtain ⟨a307_, hb307, hk307, hn307⟩ := hs301.row krm 27 84 19 (by decide) (by decide)
              refine r_getrN hC 27 (ci := 9) rfl u9_in (by decide) nF_27 dX10_readKnower_132 krm rfl rfl hb307 ?_
              refine r_iload_n hC dX10_readKnower_135 1 rfl ?_
              refine x_iaload hC hk307 hn307 (by decide) rfl rfl dX10_readKnower_136 (by omega) (by omega) (fun x308_ e308 => ?_)
              refine x_iastore hC hk305 hn305 (by decide) rfl rfl dX10_readKnower_137 (by omega) (by omega) (fun I309 eI309 => ?_)
              have hs309 := hs301.put0 eI309 hk305 (rng_arr (by decide) _) rfl (xF_arr (by decide) _) (by decide)
              have hF309 := hF301.put eI309 hk305 (inS_arr rfl _)
              refine r_aload_n hC dX10_readKnower_138 2 rfl ?_
              refine r_getr hC 4 (ci := 10) rfl u10_in (by decide) mT_4_239 dX10_readKnower_139 ka0 rfl rfl hbr ?_
              obtain ⟨a310_, hb310, hk310, hn310⟩ := hs309.row krm 24 81 4 (by decide) (by decide)
              refine r_getrN hC 24 (ci := 9) rfl u9_in (by decide) nF_24 dX10_readKnower_142 krm rfl rfl hb310 ?_
              refine r_aload_n hC dX10_readKnower_145 2 rfl ?_
              refine r_getr hC 4 (ci := 10) rfl u10_in (by decide) mT_4_239 dX10_readKnower_146 ka0 rfl rfl hbr ?_
              refine r_getiN hC 9 (ci := 9) rfl u9_in (by decide) nF_9 dX10_readKnower_149 krm rfl rfl (fun x311_ e311 => ?_)
              have r311 := hs309.rng krm rfl e311
              have f311 : x311_.toInt = (I309 rm 9).toInt := by rw [e311]
              have w311 : x311_ = x306_ := by rw [e311]; exact (Eq.trans (up2_kk eI309 hk305 krm (by decide)) e306.symm)
              have wt311 : x311_.toInt = x306_.toInt := by rw [w311]
              refine r_iload_n hC dX10_readKnower_152 0 rfl ?_
              refine x_iastore hC hk310 hn310 (by decide) rfl rfl dX10_readKnower_153 (by omega) (by omega) (fun I312 eI312 => ?_)
              have hs312 := hs309.put0 eI312 hk310 (rng_arr (by decide) _) rfl (xF_arr (by decide) _) (by decide)
              have hF312 := hF309.put eI312 hk310 (inS_arr rfl _)
              refine r_aload_n hC dX10_readKnower_154 2 rfl ?_
              refine r_getr hC 4 (ci := 10) rfl u10_in (by decide) mT_4_239 dX10_readKnower_155 ka0 rfl rfl hbr ?_
              refine r_dup hC dX10_readKnower_158 rfl ?_
              refine r_getiN hC 9 (ci := 9) rfl u9_in (by decide) nF_9 dX10_readKnower_159 krm rfl rfl (fun x313_ e313 => ?_)
              have r313 := hs312.rng krm rfl e313
              have f313 : x313_.toInt = (I312 rm 9).toInt := by rw [e313]
              have w313 : x313_ = x311_ := by rw [e313]; exact (Eq.trans (up2_kk eI312 hk310 krm (by decide)) e311.symm)
              have wt313 : x313_.toInt = x311_.toInt := by rw [w313]
              refine r_iconst hC (v := (1)) dX10_readKnower_162 (by decide) (by decide) (fun x314_ e314 t314 => ?_)
              refine r_iadd hC dX10_readKnower_163 (fun x315_ e315 => ?_)
              try have t315 : x315_.toInt = x313_.toInt + x314_.toInt := by rw [e315]; exact ti_add (by omega) (by omega)
              refine r_putiN hC 9 (ci := 9) rfl u9_in tyX9_ok nmX9 (by decide) nF_9 rfl rfl rfl dX10_readKnower_164 krm rfl rfl (fun I316 eI316 => ?_)
              have hs316 := hs312.put1 eI316 krm rfl (by omega) (by omega) rfl rfl (by decide)
              have hF316 := hF312.put eI316 krm rfl
              have hG3 : I316 rm 3 = G3 := (Eq.trans (up2_at (Or.inr (by decide)) eI316) (Eq.trans (up2_kk eI312 hk310 krm (by decide)) (Eq.trans (up2_kk eI309 hk305 krm (by decide)) (Eq.trans (hf301.get krm rfl) (Eq.trans (hf297.get krm rfl) (Eq.trans (hf295.get krm rfl) (Eq.trans (hf288.get krm rfl) (Eq.trans (hf192.get krm rfl) (Eq.trans (hf100.get krm rfl) (Eq.trans (hf4.get krm rfl) eG3.symm))))))))))
              have hG3t : (I316 rm 3).toInt = G3.toInt := congrArg Int32.toInt hG3
              have hG4 : I316 rm 4 = G4 := (Eq.trans (up2_at (Or.inr (by decide)) eI316) (Eq.trans (up2_kk eI312 hk310 krm (by decide)) (Eq.trans (up2_kk eI309 hk305 krm (by decide)) (Eq.trans (hf301.get krm rfl) (Eq.trans (hf297.get krm rfl) (Eq.trans (hf295.get krm rfl) (Eq.trans (hf288.get krm rfl) (Eq.trans (hf192.get krm rfl) (Eq.trans (hf100.get krm rfl) (Eq.trans (hf4.get krm rfl) eG4.symm))))))))))
              have hG4t : (I316 rm 4).toInt = G4.toInt := congrArg Int32.toInt hG4
              have hG7 : I316 rm 7 = G7 := (Eq.trans (up2_at (Or.inr (by decide)) eI316) (Eq.trans (up2_kk eI312 hk310 krm (by decide)) (Eq.trans (up2_kk eI309 hk305 krm (by decide)) (Eq.trans (hf301.get krm rfl) (Eq.trans (hf297.get krm rfl) (Eq.trans (hf295.get krm rfl) (Eq.trans (hf288.get krm rfl) (Eq.trans (hf192.get krm rfl) (Eq.trans (hf100.get krm rfl) (Eq.trans (hf4.get krm rfl) eG7.symm))))))))))
              have hG7t : (I316 rm 7).toInt = G7.toInt := congrArg Int32.toInt hG7
              have hG8 : I316 rm 8 = G8 := (Eq.trans (up2_at (Or.inr (by decide)) eI316) (Eq.trans (up2_kk eI312 hk310 krm (by decide)) (Eq.trans (up2_kk eI309 hk305 krm (by decide)) (Eq.trans (hf301.get krm rfl) (Eq.trans (hf297.get krm rfl) (Eq.trans (hf295.get krm rfl) (Eq.trans (hf288.get krm rfl) (Eq.trans (hf192.get krm rfl) (Eq.trans (hf100.get krm rfl) (Eq.trans (hf4.get krm rfl) eG8.symm))))))))))
              have hG8t : (I316 rm 8).toInt = G8.toInt := congrArg Int32.toInt hG8
              have hG9 : I316 rm 9 = x315_ := (by rw [eI316]; exact up2_self _ _ _ _)
              have hG9t : (I316 rm 9).toInt = x315_.toInt := congrArg Int32.toInt hG9
              have hGN : I316 rm 10 = N1 := (Eq.trans (up2_at (Or.inr (by decide)) eI316) (Eq.trans (up2_kk eI312 hk310 krm (by decide)) (Eq.trans (up2_kk eI309 hk305 krm (by decide)) (Eq.trans (hf301.get krm rfl) (Eq.trans (hf297.get krm rfl) (Eq.trans (hf295.get krm rfl) (Eq.trans (hf288.get krm rfl) (Eq.trans (hf192.get krm rfl) eN1.symm))))))))
              have hGNt : (I316 rm 10).toInt = N1.toInt := congrArg Int32.toInt hGN
              have hv8 : I316 a0 8 = A9 := (Eq.trans (up2_kk eI316 krm ka0 (by decide)) (Eq.trans (up2_kk eI312 hk310 ka0 (by decide)) (Eq.trans (up2_kk eI309 hk305 ka0 (by decide)) eA9.symm)))
              have hv8t : (I316 a0 8).toInt = A9.toInt := congrArg Int32.toInt hv8
              have hv9 : I316 a0 9 = x302_ := (Eq.trans (up2_kk eI316 krm ka0 (by decide)) (Eq.trans (up2_kk eI312 hk310 ka0 (by decide)) (Eq.trans (up2_kk eI309 hk305 ka0 (by decide)) e302.symm)))
              have hv9t : (I316 a0 9).toInt = x302_.toInt := congrArg Int32.toInt hv9
              exact r_vret hC hQ hlk hr (by decide) (by decide) dX10_readKnower_167 ⟨_, _, rfl, rfl, ⟨hs316, hF316, hFJ301, (by first | (left; omega) | (right; omega)), (by omega), (by omega), (by omega)⟩⟩
            · have hG3 : I301 rm 3 = G3 := (Eq.trans (hf301.get krm rfl) (Eq.trans (hf297.get krm rfl) (Eq.trans (hf295.get krm rfl) (Eq.trans (hf288.get krm rfl) (Eq.trans (hf192.get krm rfl) (Eq.trans (hf100.get krm rfl) (Eq.trans (hf4.get krm rfl) eG3.symm)))))))
              have hG3t : (I301 rm 3).toInt = G3.toInt := congrArg Int32.toInt hG3
              have hG4 : I301 rm 4 = G4 := (Eq.trans (hf301.get krm rfl) (Eq.trans (hf297.get krm rfl) (Eq.trans (hf295.get krm rfl) (Eq.trans (hf288.get krm rfl) (Eq.trans (hf192.get krm rfl) (Eq.trans (hf100.get krm rfl) (Eq.trans (hf4.get krm rfl) eG4.symm)))))))
              have hG4t : (I301 rm 4).toInt = G4.toInt := congrArg Int32.toInt hG4
              have hG7 : I301 rm 7 = G7 := (Eq.trans (hf301.get krm rfl) (Eq.trans (hf297.get krm rfl) (Eq.trans (hf295.get krm rfl) (Eq.trans (hf288.get krm rfl) (Eq.trans (hf192.get krm rfl) (Eq.trans (hf100.get krm rfl) (Eq.trans (hf4.get krm rfl) eG7.symm)))))))
              have hG7t : (I301 rm 7).toInt = G7.toInt := congrArg Int32.toInt hG7
              have hG8 : I301 rm 8 = G8 := (Eq.trans (hf301.get krm rfl) (Eq.trans (hf297.get krm rfl) (Eq.trans (hf295.get krm rfl) (Eq.trans (hf288.get krm rfl) (Eq.trans (hf192.get krm rfl) (Eq.trans (hf100.get krm rfl) (Eq.trans (hf4.get krm rfl) eG8.symm)))))))
              have hG8t : (I301 rm 8).toInt = G8.toInt := congrArg Int32.toInt hG8
              have hG9 : I301 rm 9 = x98_ := (Eq.trans (hf301.get krm rfl) (Eq.trans (hf297.get krm rfl) (Eq.trans (hf295.get krm rfl) (Eq.trans (hf288.get krm rfl) (Eq.trans (hf192.get krm rfl) (Eq.trans (hf100.get krm rfl) e98.symm))))))
              have hG9t : (I301 rm 9).toInt = x98_.toInt := congrArg Int32.toInt hG9
              have hGN : I301 rm 10 = N1 := (Eq.trans (hf301.get krm rfl) (Eq.trans (hf297.get krm rfl) (Eq.trans (hf295.get krm rfl) (Eq.trans (hf288.get krm rfl) (Eq.trans (hf192.get krm rfl) eN1.symm)))))
              have hGNt : (I301 rm 10).toInt = N1.toInt := congrArg Int32.toInt hGN
              have hv8 : I301 a0 8 = A9 := eA9.symm
              have hv8t : (I301 a0 8).toInt = A9.toInt := congrArg Int32.toInt hv8
              have hv9 : I301 a0 9 = x302_ := e302.symm
              have hv9t : (I301 a0 9).toInt = x302_.toInt := congrArg Int32.toInt hv9
              exact r_vret hC hQ hlk hr (by decide) (by decide) dX10_readKnower_113 ⟨_, _, rfl, rfl, ⟨hs301, hF301, hFJ301, (by first | (left; omega) | (right; omega)), (by omega), (by omega), (by omega)⟩⟩
          · refine r_aload_n hC dX10_readKnower_72 1 rfl ?_
            refine r_getr hC 4 (ci := 10) rfl u10_in (by decide) mT_4_239 dX10_readKnower_73 ka0 rfl rfl hbr ?_
            obtain ⟨a317_, hb317, hk317, hn317⟩ := hs288.row krm 26 83 19 (by decide) (by decide)
            refine r_getrN hC 26 (ci := 9) rfl u9_in (by decide) nF_26 dX10_readKnower_76 krm rfl rfl hb317 ?_
            refine r_iload_n hC dX10_readKnower_79 0 rfl ?_
            refine x_iaload hC hk317 hn317 (by decide) rfl rfl dX10_readKnower_80 (by omega) (by omega) (fun x318_ e318 => ?_)
            refine r_if_eq hC (tgt := 89) dX10_readKnower_81 (by decide) (fun c319 => ?_) (fun c319 => ?_)
            · refine r_aload_n hC dX10_readKnower_89 1 rfl ?_
              have md320 : (I288 a0 9).toInt = 5 := by omega
              refine r_callV hC (As := []) (rest := []) (ci := 10) (c_X10_goesOn g (xL X) K len I288 J192 R hs288 a0 ka0) mT_5_199 mT_1_10 mT_5_196 mT_5_198 mP_49 okX10_goesOn ⟨by decide, by decide⟩ rfl (by show kO (K a0) = _; rw [ka0]; rfl) rfl rfl (Nat.le_of_ble_eq_true rfl) ⟨by decide, by decide⟩ dX10_readKnower_90 (aV2 (F := fun st M => P g X 3 93 [(1, .int x290_), (0, .ref a0)] st _ _ M) (M := (K, len, I288, J192, R)) fun I321 J321 h321 => ?_)
              obtain ⟨hs321, hf321, hfj321, k321_0, k321_1, k321_2, k321_3⟩ := h321
              show P g X 3 93 [(1, .int x290_), (0, .ref a0)] [] _ _ (K, len, I321, J321, R)
              have hF321 : Fr K [(10, 9), (10, 10), (11, 8), (11, 9), (11, 10), (11, 11), (11, 12), (11, 13), (80, 999), (81, 999), (83, 999), (84, 999)] I I321 := hF288.trans hf321 rfl rfl
              have hFJ321 : Fr K [(11, 14), (82, 999)] J J321 := hFJ192.trans hfj321 rfl rfl
              have sf321 := k321_0 md320
              clear k321_0 k321_1 k321_3 md320
              refine r_aload_n hC dX10_readKnower_93 1 rfl ?_
              refine r_ldcwS hC (i := 59) (by decide) rfl rfl dX10_readKnower_94 ?_
              refine r_iconst hC (v := (0)) dX10_readKnower_97 (by decide) (by decide) (fun x322_ e322 t322 => ?_)
              refine r_sipush hC (v := (999)) dX10_readKnower_98 (by decide) (by decide) (fun x323_ e323 t323 => ?_)
              have md324 : (I321 a0 9).toInt = 5 := by omega
              refine r_callV hC (As := [.ref (g.2.2.1 59), .int x322_, .int x323_]) (rest := []) (ci := 10) (c_X10_readPart g (xL X) K len I321 J321 R hs321 a0 ka0 59 (by decide) x322_ x323_) mT_6_1 mT_1_10 mT_5_238 mT_6_0 mP_56 okX10_readPart ⟨by decide, by decide⟩ rfl (by show kO (K a0) = _; rw [ka0]; rfl) rfl rfl (Nat.le_of_ble_eq_true rfl) ⟨by decide, by decide⟩ dX10_readKnower_101 (aI2 (F := fun st M => P g X 3 104 [(1, .int x290_), (0, .ref a0)] st _ _ M) (M := (K, len, I321, J321, R)) fun x325_ I325 J325 h325 => ?_)
              obtain ⟨hs325, hf325, hfj325, k325_0, k325_1, k325_2, k325_3⟩ := h325
              show P g X 3 104 [(1, .int x290_), (0, .ref a0)] [.int x325_] _ _ (K, len, I325, J325, R)
              have hF325 : Fr K [(10, 9), (10, 10), (11, 8), (11, 9), (11, 10), (11, 11), (11, 12), (11, 13), (80, 999), (81, 999), (83, 999), (84, 999)] I I325 := hF321.trans hf325 rfl rfl
              have hFJ325 : Fr K [(11, 14), (82, 999)] J J325 := hFJ321.trans hfj325 rfl rfl
              have sf325 := k325_0 md324
              clear k325_0 k325_1 k325_3 md324 sf321
              refine r_istore_n hC (lv' := [(2, .int x325_), (1, .int x290_), (0, .ref a0)]) dX10_readKnower_104 (by decide) rfl ?_
              refine r_aload_n hC dX10_readKnower_105 2 rfl ?_
              obtain ⟨A9, eA9⟩ : ∃ z : Int32, z = I325 a0 8 := ⟨_, rfl⟩
              have fA9 : A9.toInt = (I325 a0 8).toInt := by rw [eA9]
              have rA9 := hs325.rng ka0 rfl eA9
              refine r_geti hC 9 (ci := 10) rfl u10_in (by decide) mT_5_4 dX10_readKnower_106 ka0 rfl rfl (fun x326_ e326 => ?_)
              have f326 : x326_.toInt = (I325 a0 9).toInt := by rw [e326]
              refine r_iconst hC (v := (5)) dX10_readKnower_109 (by decide) (by decide) (fun x327_ e327 t327 => ?_)
              refine r_icmp_ne hC (tgt := 114) dX10_readKnower_110 (by decide) (fun c328 => ?_) (fun c328 => ?_)
              · refine r_aload_n hC dX10_readKnower_114 2 rfl ?_
                refine r_getr hC 4 (ci := 10) rfl u10_in (by decide) mT_4_239 dX10_readKnower_115 ka0 rfl rfl hbr ?_
                obtain ⟨a329_, hb329, hk329, hn329⟩ := hs325.row krm 23 80 4 (by decide) (by decide)
                refine r_getrN hC 23 (ci := 9) rfl u9_in (by decide) nF_23 dX10_readKnower_118 krm rfl rfl hb329 ?_
                refine r_aload_n hC dX10_readKnower_121 2 rfl ?_
                refine r_getr hC 4 (ci := 10) rfl u10_in (by decide) mT_4_239 dX10_readKnower_122 ka0 rfl rfl hbr ?_
                refine r_getiN hC 9 (ci := 9) rfl u9_in (by decide) nF_9 dX10_readKnower_125 krm rfl rfl (fun x330_ e330 => ?_)
                have r330 := hs325.rng krm rfl e330
                have f330 : x330_.toInt = (I325 rm 9).toInt := by rw [e330]
                have w330 : x330_ = x98_ := by rw [e330]; exact (Eq.trans (hf325.get krm rfl) (Eq.trans (hf321.get krm rfl) (Eq.trans (hf288.get krm rfl) (Eq.trans (hf192.get krm rfl) (Eq.trans (hf100.get krm rfl) e98.symm)))))
                have wt330 : x330_.toInt = x98_.toInt := by rw [w330]
                refine r_aload_n hC dX10_readKnower_128 2 rfl ?_
                refine r_getr hC 4 (ci := 10) rfl u10_in (by decide) mT_4_239 dX10_readKnower_129 ka0 rfl rfl hbr ?_
                obtain ⟨a331_, hb331, hk331, hn331⟩ := hs325.row krm 27 84 19 (by decide) (by decide)
                refine r_getrN hC 27 (ci := 9) rfl u9_in (by decide) nF_27 dX10_readKnower_132 krm rfl rfl hb331 ?_
                refine r_iload_n hC dX10_readKnower_135 1 rfl ?_
                refine x_iaload hC hk331 hn331 (by decide) rfl rfl dX10_readKnower_136 (by omega) (by omega) (fun x332_ e332 => ?_)
                refine x_iastore hC hk329 hn329 (by decide) rfl rfl dX10_readKnower_137 (by omega) (by omega) (fun I333 eI333 => ?_)
                have hs333 := hs325.put0 eI333 hk329 (rng_arr (by decide) _) rfl (xF_arr (by decide) _) (by decide)
                have hF333 := hF325.put eI333 hk329 (inS_arr rfl _)
                refine r_aload_n hC dX10_readKnower_138 2 rfl ?_
                refine r_getr hC 4 (ci := 10) rfl u10_in (by decide) mT_4_239 dX10_readKnower_139 ka0 rfl rfl hbr ?_
                obtain ⟨a334_, hb334, hk334, hn334⟩ := hs333.row krm 24 81 4 (by decide) (by decide)
                refine r_getrN hC 24 (ci := 9) rfl u9_in (by decide) nF_24 dX10_readKnower_142 krm rfl rfl hb334 ?_
                refine r_aload_n hC dX10_readKnower_145 2 rfl ?_
                refine r_getr hC 4 (ci := 10) rfl u10_in (by decide) mT_4_239 dX10_readKnower_146 ka0 rfl rfl hbr ?_
                refine r_getiN hC 9 (ci := 9) rfl u9_in (by decide) nF_9 dX10_readKnower_149 krm rfl rfl (fun x335_ e335 => ?_)
                have r335 := hs333.rng krm rfl e335
                have f335 : x335_.toInt = (I333 rm 9).toInt := by rw [e335]
                have w335 : x335_ = x330_ := by rw [e335]; exact (Eq.trans (up2_kk eI333 hk329 krm (by decide)) e330.symm)
                have wt335 : x335_.toInt = x330_.toInt := by rw [w335]
                refine r_iload_n hC dX10_readKnower_152 0 rfl ?_
                refine x_iastore hC hk334 hn334 (by decide) rfl rfl dX10_readKnower_153 (by omega) (by omega) (fun I336 eI336 => ?_)
                have hs336 := hs333.put0 eI336 hk334 (rng_arr (by decide) _) rfl (xF_arr (by decide) _) (by decide)
                have hF336 := hF333.put eI336 hk334 (inS_arr rfl _)
                refine r_aload_n hC dX10_readKnower_154 2 rfl ?_
                refine r_getr hC 4 (ci := 10) rfl u10_in (by decide) mT_4_239 dX10_readKnower_155 ka0 rfl rfl hbr ?_
                refine r_dup hC dX10_readKnower_158 rfl ?_
                refine r_getiN hC 9 (ci := 9) rfl u9_in (by decide) nF_9 dX10_readKnower_159 krm rfl rfl (fun x337_ e337 => ?_)
                have r337 := hs336.rng krm rfl e337
                have f337 : x337_.toInt = (I336 rm 9).toInt := by rw [e337]
                have w337 : x337_ = x335_ := by rw [e337]; exact (Eq.trans (up2_kk eI336 hk334 krm (by decide)) e335.symm)
                have wt337 : x337_.toInt = x335_.toInt := by rw [w337]
                refine r_iconst hC (v := (1)) dX10_readKnower_162 (by decide) (by decide) (fun x338_ e338 t338 => ?_)
                refine r_iadd hC dX10_readKnower_163 (fun x339_ e339 => ?_)
                try have t339 : x339_.toInt = x337_.toInt + x338_.toInt := by rw [e339]; exact ti_add (by omega) (by omega)
                refine r_putiN hC 9 (ci := 9) rfl u9_in tyX9_ok nmX9 (by decide) nF_9 rfl rfl rfl dX10_readKnower_164 krm rfl rfl (fun I340 eI340 => ?_)
                have hs340 := hs336.put1 eI340 krm rfl (by omega) (by omega) rfl rfl (by decide)
                have hF340 := hF336.put eI340 krm rfl
                have hG3 : I340 rm 3 = G3 := (Eq.trans (up2_at (Or.inr (by decide)) eI340) (Eq.trans (up2_kk eI336 hk334 krm (by decide)) (Eq.trans (up2_kk eI333 hk329 krm (by decide)) (Eq.trans (hf325.get krm rfl) (Eq.trans (hf321.get krm rfl) (Eq.trans (hf288.get krm rfl) (Eq.trans (hf192.get krm rfl) (Eq.trans (hf100.get krm rfl) (Eq.trans (hf4.get krm rfl) eG3.symm)))))))))
                have hG3t : (I340 rm 3).toInt = G3.toInt := congrArg Int32.toInt hG3
                have hG4 : I340 rm 4 = G4 := (Eq.trans (up2_at (Or.inr (by decide)) eI340) (Eq.trans (up2_kk eI336 hk334 krm (by decide)) (Eq.trans (up2_kk eI333 hk329 krm (by decide)) (Eq.trans (hf325.get krm rfl) (Eq.trans (hf321.get krm rfl) (Eq.trans (hf288.get krm rfl) (Eq.trans (hf192.get krm rfl) (Eq.trans (hf100.get krm rfl) (Eq.trans (hf4.get krm rfl) eG4.symm)))))))))
                have hG4t : (I340 rm 4).toInt = G4.toInt := congrArg Int32.toInt hG4
                have hG7 : I340 rm 7 = G7 := (Eq.trans (up2_at (Or.inr (by decide)) eI340) (Eq.trans (up2_kk eI336 hk334 krm (by decide)) (Eq.trans (up2_kk eI333 hk329 krm (by decide)) (Eq.trans (hf325.get krm rfl) (Eq.trans (hf321.get krm rfl) (Eq.trans (hf288.get krm rfl) (Eq.trans (hf192.get krm rfl) (Eq.trans (hf100.get krm rfl) (Eq.trans (hf4.get krm rfl) eG7.symm)))))))))
                have hG7t : (I340 rm 7).toInt = G7.toInt := congrArg Int32.toInt hG7
                have hG8 : I340 rm 8 = G8 := (Eq.trans (up2_at (Or.inr (by decide)) eI340) (Eq.trans (up2_kk eI336 hk334 krm (by decide)) (Eq.trans (up2_kk eI333 hk329 krm (by decide)) (Eq.trans (hf325.get krm rfl) (Eq.trans (hf321.get krm rfl) (Eq.trans (hf288.get krm rfl) (Eq.trans (hf192.get krm rfl) (Eq.trans (hf100.get krm rfl) (Eq.trans (hf4.get krm rfl) eG8.symm)))))))))
                have hG8t : (I340 rm 8).toInt = G8.toInt := congrArg Int32.toInt hG8
                have hG9 : I340 rm 9 = x339_ := (by rw [eI340]; exact up2_self _ _ _ _)
                have hG9t : (I340 rm 9).toInt = x339_.toInt := congrArg Int32.toInt hG9
                have hGN : I340 rm 10 = N1 := (Eq.trans (up2_at (Or.inr (by decide)) eI340) (Eq.trans (up2_kk eI336 hk334 krm (by decide)) (Eq.trans (up2_kk eI333 hk329 krm (by decide)) (Eq.trans (hf325.get krm rfl) (Eq.trans (hf321.get krm rfl) (Eq.trans (hf288.get krm rfl) (Eq.trans (hf192.get krm rfl) eN1.symm)))))))
                have hGNt : (I340 rm 10).toInt = N1.toInt := congrArg Int32.toInt hGN
                have hv8 : I340 a0 8 = A9 := (Eq.trans (up2_kk eI340 krm ka0 (by decide)) (Eq.trans (up2_kk eI336 hk334 ka0 (by decide)) (Eq.trans (up2_kk eI333 hk329 ka0 (by decide)) eA9.symm)))
                have hv8t : (I340 a0 8).toInt = A9.toInt := congrArg Int32.toInt hv8
                have hv9 : I340 a0 9 = x326_ := (Eq.trans (up2_kk eI340 krm ka0 (by decide)) (Eq.trans (up2_kk eI336 hk334 ka0 (by decide)) (Eq.trans (up2_kk eI333 hk329 ka0 (by decide)) e326.symm)))
                have hv9t : (I340 a0 9).toInt = x326_.toInt := congrArg Int32.toInt hv9
                exact r_vret hC hQ hlk hr (by decide) (by decide) dX10_readKnower_167 ⟨_, _, rfl, rfl, ⟨hs340, hF340, hFJ325, (by first | (left; omega) | (right; omega)), (by omega), (by omega), (by omega)⟩⟩
              · have hG3 : I325 rm 3 = G3 := (Eq.trans (hf325.get krm rfl) (Eq.trans (hf321.get krm rfl) (Eq.trans (hf288.get krm rfl) (Eq.trans (hf192.get krm rfl) (Eq.trans (hf100.get krm rfl) (Eq.trans (hf4.get krm rfl) eG3.symm))))))
                have hG3t : (I325 rm 3).toInt = G3.toInt := congrArg Int32.toInt hG3
                have hG4 : I325 rm 4 = G4 := (Eq.trans (hf325.get krm rfl) (Eq.trans (hf321.get krm rfl) (Eq.trans (hf288.get krm rfl) (Eq.trans (hf192.get krm rfl) (Eq.trans (hf100.get krm rfl) (Eq.trans (hf4.get krm rfl) eG4.symm))))))
                have hG4t : (I325 rm 4).toInt = G4.toInt := congrArg Int32.toInt hG4
                have hG7 : I325 rm 7 = G7 := (Eq.trans (hf325.get krm rfl) (Eq.trans (hf321.get krm rfl) (Eq.trans (hf288.get krm rfl) (Eq.trans (hf192.get krm rfl) (Eq.trans (hf100.get krm rfl) (Eq.trans (hf4.get krm rfl) eG7.symm))))))
                have hG7t : (I325 rm 7).toInt = G7.toInt := congrArg Int32.toInt hG7
                have hG8 : I325 rm 8 = G8 := (Eq.trans (hf325.get krm rfl) (Eq.trans (hf321.get krm rfl) (Eq.trans (hf288.get krm rfl) (Eq.trans (hf192.get krm rfl) (Eq.trans (hf100.get krm rfl) (Eq.trans (hf4.get krm rfl) eG8.symm))))))
                have hG8t : (I325 rm 8).toInt = G8.toInt := congrArg Int32.toInt hG8
                have hG9 : I325 rm 9 = x98_ := (Eq.trans (hf325.get krm rfl) (Eq.trans (hf321.get krm rfl) (Eq.trans (hf288.get krm rfl) (Eq.trans (hf192.get krm rfl) (Eq.trans (hf100.get krm rfl) e98.symm)))))
                have hG9t : (I325 rm 9).toInt = x98_.toInt := congrArg Int32.toInt hG9
                have hGN : I325 rm 10 = N1 := (Eq.trans (hf325.get krm rfl) (Eq.trans (hf321.get krm rfl) (Eq.trans (hf288.get krm rfl) (Eq.trans (hf192.get krm rfl) eN1.symm))))
                have hGNt : (I325 rm 10).toInt = N1.toInt := congrArg Int32.toInt hGN
                have hv8 : I325 a0 8 = A9 := eA9.symm
                have hv8t : (I325 a0 8).toInt = A9.toInt := congrArg Int32.toInt hv8
                have hv9 : I325 a0 9 = x326_ := e326.symm
                have hv9t : (I325 a0 9).toInt = x326_.toInt := congrArg Int32.toInt hv9
                exact r_vret hC hQ hlk hr (by decide) (by decide) dX10_readKnower_113 ⟨_, _, rfl, rfl, ⟨hs325, hF325, hFJ325, (by first | (left; omega) | (right; omega)), (by omega), (by omega), (by omega)⟩⟩
            · refine r_aload_n hC dX10_readKnower_84 1 rfl ?_
              refine r_iconst hC (v := (2)) dX10_readKnower_85 (by decide) (by decide) (fun x341_ e341 t341 => ?_)
              have md342 : (I288 a0 9).toInt = 5 := by omega
              refine r_callV hC (As := [.int x341_]) (rest := []) (ci := 10) (c_X10_wrong g (xL X) K len I288 J192 R hs288 a0 ka0 x341_) mT_5_236 mT_1_10 mT_5_233 mT_5_235 mP_55 okX10_wrong ⟨by decide, by decide⟩ rfl (by show kO (K a0) = _; rw [ka0]; rfl) rfl rfl (Nat.le_of_ble_eq_true rfl) ⟨by decide, by decide⟩ dX10_readKnower_86 (aV1 (F := fun st M => P g X 3 89 [(1, .int x290_), (0, .ref a0)] st _ _ M) (M := (K, len, I288, J192, R)) fun I343 h343 => ?_)
              obtain ⟨hs343, hf343, k343_0, k343_1⟩ := h343
              show P g X 3 89 [(1, .int x290_), (0, .ref a0)] [] _ _ (K, len, I343, J192, R)
              have hF343 : Fr K [(10, 9), (10, 10), (11, 8), (11, 9), (11, 10), (11, 11), (11, 12), (11, 13), (80, 999), (81, 999), (83, 999), (84, 999)] I I343 := hF288.trans hf343 rfl rfl
              clear md342
              refine r_aload_n hC dX10_readKnower_89 1 rfl ?_
              have md344 : (I343 a0 9).toInt = 5 := by omega
              refine r_callV hC (As := []) (rest := []) (ci := 10) (c_X10_goesOn g (xL X) K len I343 J192 R hs343 a0 ka0) mT_5_199 mT_1_10 mT_5_196 mT_5_198 mP_49 okX10_goesOn ⟨by decide, by decide⟩ rfl (by show kO (K a0) = _; rw [ka0]; rfl) rfl rfl (Nat.le_of_ble_eq_true rfl) ⟨by decide, by decide⟩ dX10_readKnower_90 (aV2 (F := fun st M => P g X 3 93 [(1, .int x290_), (0, .ref a0)] st _ _ M) (M := (K, len, I343, J192, R)) fun I345 J345 h345 => ?_)
              obtain ⟨hs345, hf345, hfj345, k345_0, k345_1, k345_2, k345_3⟩ := h345
              show P g X 3 93 [(1, .int x290_), (0, .ref a0)] [] _ _ (K, len, I345, J345, R)
              have hF345 : Fr K [(10, 9), (10, 10), (11, 8), (11, 9), (11, 10), (11, 11), (11, 12), (11, 13), (80, 999), (81, 999), (83, 999), (84, 999)] I I345 := hF343.trans hf345 rfl rfl
              have hFJ345 : Fr K [(11, 14), (82, 999)] J J345 := hFJ192.trans hfj345 rfl rfl
              have sf345 := k345_0 md344
              clear k345_0 k345_1 k345_3 md344
              refine r_aload_n hC dX10_readKnower_93 1 rfl ?_
              refine r_ldcwS hC (i := 59) (by decide) rfl rfl dX10_readKnower_94 ?_
              refine r_iconst hC (v := (0)) dX10_readKnower_97 (by decide) (by decide) (fun x346_ e346 t346 => ?_)
              refine r_sipush hC (v := (999)) dX10_readKnower_98 (by decide) (by decide) (fun x347_ e347 t347 => ?_)
              have md348 : (I345 a0 9).toInt = 5 := by omega
              refine r_callV hC (As := [.ref (g.2.2.1 59), .int x346_, .int x347_]) (rest := []) (ci := 10) (c_X10_readPart g (xL X) K len I345 J345 R hs345 a0 ka0 59 (by decide) x346_ x347_) mT_6_1 mT_1_10 mT_5_238 mT_6_0 mP_56 okX10_readPart ⟨by decide, by decide⟩ rfl (by show kO (K a0) = _; rw [ka0]; rfl) rfl rfl (Nat.le_of_ble_eq_true rfl) ⟨by decide, by decide⟩ dX10_readKnower_101 (aI2 (F := fun st M => P g X 3 104 [(1, .int x290_), (0, .ref a0)] st _ _ M) (M := (K, len, I345, J345, R)) fun x349_ I349 J349 h349 => ?_)
              obtain ⟨hs349, hf349, hfj349, k349_0, k349_1, k349_2, k349_3⟩ := h349
              show P g X 3 104 [(1, .int x290_), (0, .ref a0)] [.int x349_] _ _ (K, len, I349, J349, R)
              have hF349 : Fr K [(10, 9), (10, 10), (11, 8), (11, 9), (11, 10), (11, 11), (11, 12), (11, 13), (80, 999), (81, 999), (83, 999), (84, 999)] I I349 := hF345.trans hf349 rfl rfl
              have hFJ349 : Fr K [(11, 14), (82, 999)] J J349 := hFJ345.trans hfj349 rfl rfl
              have sf349 := k349_0 md348
              clear k349_0 k349_1 k349_3 md348 sf345
              refine r_istore_n hC (lv' := [(2, .int x349_), (1, .int x290_), (0, .ref a0)]) dX10_readKnower_104 (by decide) rfl ?_
              refine r_aload_n hC dX10_readKnower_105 2 rfl ?_
              obtain ⟨A9, eA9⟩ : ∃ z : Int32, z = I349 a0 8 := ⟨_, rfl⟩
              have fA9 : A9.toInt = (I349 a0 8).toInt := by rw [eA9]
              have rA9 := hs349.rng ka0 rfl eA9
              refine r_geti hC 9 (ci := 10) rfl u10_in (by decide) mT_5_4 dX10_readKnower_106 ka0 rfl rfl (fun x350_ e350 => ?_)
              have f350 : x350_.toInt = (I349 a0 9).toInt := by rw [e350]
              refine r_iconst hC (v := (5)) dX10_readKnower_109 (by decide) (by decide) (fun x351_ e351 t351 => ?_)
              refine r_icmp_ne hC (tgt := 114) dX10_readKnower_110 (by decide) (fun c352 => ?_) (fun c352 => ?_)
              · refine r_aload_n hC dX10_readKnower_114 2 rfl ?_
                refine r_getr hC 4 (ci := 10) rfl u10_in (by decide) mT_4_239 dX10_readKnower_115 ka0 rfl rfl hbr ?_
                obtain ⟨a353_, hb353, hk353, hn353⟩ := hs349.row krm 23 80 4 (by decide) (by decide)
                refine r_getrN hC 23 (ci := 9) rfl u9_in (by decide) nF_23 dX10_readKnower_118 krm rfl rfl hb353 ?_
                refine r_aload_n hC dX10_readKnower_121 2 rfl ?_
                refine r_getr hC 4 (ci := 10) rfl u10_in (by decide) mT_4_239 dX10_readKnower_122 ka0 rfl rfl hbr ?_
                refine r_getiN hC 9 (ci := 9) rfl u9_in (by decide) nF_9 dX10_readKnower_125 krm rfl rfl (fun x354_ e354 => ?_)
                have r354 := hs349.rng krm rfl e354
                have f354 : x354_.toInt = (I349 rm 9).toInt := by rw [e354]
                have w354 : x354_ = x98_ := by rw [e354]; exact (Eq.trans (hf349.get krm rfl) (Eq.trans (hf345.get krm rfl) (Eq.trans (hf343.get krm rfl) (Eq.trans (hf288.get krm rfl) (Eq.trans (hf192.get krm rfl) (Eq.trans (hf100.get krm rfl) e98.symm))))))
                have wt354 : x354_.toInt = x98_.toInt := by rw [w354]
                refine r_aload_n hC dX10_readKnower_128 2 rfl ?_
                refine r_getr hC 4 (ci := 10) rfl u10_in (by decide) mT_4_239 dX10_readKnower_129 ka0 rfl rfl hbr ?_
                obtain ⟨a355_, hb355, hk355, hn355⟩ := hs349.row krm 27 84 19 (by decide) (by decide)
                refine r_getrN hC 27 (ci := 9) rfl u9_in (by decide) nF_27 dX10_readKnower_132 krm rfl rfl hb355 ?_
                refine r_iload_n hC dX10_readKnower_135 1 rfl ?_
                refine x_iaload hC hk355 hn355 (by decide) rfl rfl dX10_readKnower_136 (by omega) (by omega) (fun x356_ e356 => ?_)
                refine x_iastore hC hk353 hn353 (by decide) rfl rfl dX10_readKnower_137 (by omega) (by omega) (fun I357 eI357 => ?_)
                have hs357 := hs349.put0 eI357 hk353 (rng_arr (by decide) _) rfl (xF_arr (by decide) _) (by decide)
                have hF357 := hF349.put eI357 hk353 (inS_arr rfl _)
                refine r_aload_n hC dX10_readKnower_138 2 rfl ?_
                refine r_getr hC 4 (ci := 10) rfl u10_in (by decide) mT_4_239 dX10_readKnower_139 ka0 rfl rfl hbr ?_
                obtain ⟨a358_, hb358, hk358, hn358⟩ := hs357.row krm 24 81 4 (by decide) (by decide)
                refine r_getrN hC 24 (ci := 9) rfl u9_in (by decide) nF_24 dX10_readKnower_142 krm rfl rfl hb358 ?_
                refine r_aload_n hC dX10_readKnower_145 2 rfl ?_
                refine r_getr hC 4 (ci := 10) rfl u10_in (by decide) mT_4_239 dX10_readKnower_146 ka0 rfl rfl hbr ?_
                refine r_getiN hC 9 (ci := 9) rfl u9_in (by decide) nF_9 dX10_readKnower_149 krm rfl rfl (fun x359_ e359 => ?_)
                have r359 := hs357.rng krm rfl e359
                have f359 : x359_.toInt = (I357 rm 9).toInt := by rw [e359]
                have w359 : x359_ = x354_ := by rw [e359]; exact (Eq.trans (up2_kk eI357 hk353 krm (by decide)) e354.symm)
                have wt359 : x359_.toInt = x354_.toInt := by rw [w359]
                refine r_iload_n hC dX10_readKnower_152 0 rfl ?_
                refine x_iastore hC hk358 hn358 (by decide) rfl rfl dX10_readKnower_153 (by omega) (by omega) (fun I360 eI360 => ?_)
                have hs360 := hs357.put0 eI360 hk358 (rng_arr (by decide) _) rfl (xF_arr (by decide) _) (by decide)
                have hF360 := hF357.put eI360 hk358 (inS_arr rfl _)
                refine r_aload_n hC dX10_readKnower_154 2 rfl ?_
                refine r_getr hC 4 (ci := 10) rfl u10_in (by decide) mT_4_239 dX10_readKnower_155 ka0 rfl rfl hbr ?_
                refine r_dup hC dX10_readKnower_158 rfl ?_
                refine r_getiN hC 9 (ci := 9) rfl u9_in (by decide) nF_9 dX10_readKnower_159 krm rfl rfl (fun x361_ e361 => ?_)
                have r361 := hs360.rng krm rfl e361
                have f361 : x361_.toInt = (I360 rm 9).toInt := by rw [e361]
                have w361 : x361_ = x359_ := by rw [e361]; exact (Eq.trans (up2_kk eI360 hk358 krm (by decide)) e359.symm)
                have wt361 : x361_.toInt = x359_.toInt := by rw [w361]
                refine r_iconst hC (v := (1)) dX10_readKnower_162 (by decide) (by decide) (fun x362_ e362 t362 => ?_)
                refine r_iadd hC dX10_readKnower_163 (fun x363_ e363 => ?_)
                try have t363 : x363_.toInt = x361_.toInt + x362_.toInt := by rw [e363]; exact ti_add (by omega) (by omega)
                refine r_putiN hC 9 (ci := 9) rfl u9_in tyX9_ok nmX9 (by decide) nF_9 rfl rfl rfl dX10_readKnower_164 krm rfl rfl (fun I364 eI364 => ?_)
                have hs364 := hs360.put1 eI364 krm rfl (by omega) (by omega) rfl rfl (by decide)
                have hF364 := hF360.put eI364 krm rfl
                have hG3 : I364 rm 3 = G3 := (Eq.trans (up2_at (Or.inr (by decide)) eI364) (Eq.trans (up2_kk eI360 hk358 krm (by decide)) (Eq.trans (up2_kk eI357 hk353 krm (by decide)) (Eq.trans (hf349.get krm rfl) (Eq.trans (hf345.get krm rfl) (Eq.trans (hf343.get krm rfl) (Eq.trans (hf288.get krm rfl) (Eq.trans (hf192.get krm rfl) (Eq.trans (hf100.get krm rfl) (Eq.trans (hf4.get krm rfl) eG3.symm))))))))))
                have hG3t : (I364 rm 3).toInt = G3.toInt := congrArg Int32.toInt hG3
                have hG4 : I364 rm 4 = G4 := (Eq.trans (up2_at (Or.inr (by decide)) eI364) (Eq.trans (up2_kk eI360 hk358 krm (by decide)) (Eq.trans (up2_kk eI357 hk353 krm (by decide)) (Eq.trans (hf349.get krm rfl) (Eq.trans (hf345.get krm rfl) (Eq.trans (hf343.get krm rfl) (Eq.trans (hf288.get krm rfl) (Eq.trans (hf192.get krm rfl) (Eq.trans (hf100.get krm rfl) (Eq.trans (hf4.get krm rfl) eG4.symm))))))))))
                have hG4t : (I364 rm 4).toInt = G4.toInt := congrArg Int32.toInt hG4
                have hG7 : I364 rm 7 = G7 := (Eq.trans (up2_at (Or.inr (by decide)) eI364) (Eq.trans (up2_kk eI360 hk358 krm (by decide)) (Eq.trans (up2_kk eI357 hk353 krm (by decide)) (Eq.trans (hf349.get krm rfl) (Eq.trans (hf345.get krm rfl) (Eq.trans (hf343.get krm rfl) (Eq.trans (hf288.get krm rfl) (Eq.trans (hf192.get krm rfl) (Eq.trans (hf100.get krm rfl) (Eq.trans (hf4.get krm rfl) eG7.symm))))))))))
                have hG7t : (I364 rm 7).toInt = G7.toInt := congrArg Int32.toInt hG7
                have hG8 : I364 rm 8 = G8 := (Eq.trans (up2_at (Or.inr (by decide)) eI364) (Eq.trans (up2_kk eI360 hk358 krm (by decide)) (Eq.trans (up2_kk eI357 hk353 krm (by decide)) (Eq.trans (hf349.get krm rfl) (Eq.trans (hf345.get krm rfl) (Eq.trans (hf343.get krm rfl) (Eq.trans (hf288.get krm rfl) (Eq.trans (hf192.get krm rfl) (Eq.trans (hf100.get krm rfl) (Eq.trans (hf4.get krm rfl) eG8.symm))))))))))
                have hG8t : (I364 rm 8).toInt = G8.toInt := congrArg Int32.toInt hG8
                have hG9 : I364 rm 9 = x363_ := (by rw [eI364]; exact up2_self _ _ _ _)
                have hG9t : (I364 rm 9).toInt = x363_.toInt := congrArg Int32.toInt hG9
                have hGN : I364 rm 10 = N1 := (Eq.trans (up2_at (Or.inr (by decide)) eI364) (Eq.trans (up2_kk eI360 hk358 krm (by decide)) (Eq.trans (up2_kk eI357 hk353 krm (by decide)) (Eq.trans (hf349.get krm rfl) (Eq.trans (hf345.get krm rfl) (Eq.trans (hf343.get krm rfl) (Eq.trans (hf288.get krm rfl) (Eq.trans (hf192.get krm rfl) eN1.symm))))))))
                have hGNt : (I364 rm 10).toInt = N1.toInt := congrArg Int32.toInt hGN
                have hv8 : I364 a0 8 = A9 := (Eq.trans (up2_kk eI364 krm ka0 (by decide)) (Eq.trans (up2_kk eI360 hk358 ka0 (by decide)) (Eq.trans (up2_kk eI357 hk353 ka0 (by decide)) eA9.symm)))
                have hv8t : (I364 a0 8).toInt = A9.toInt := congrArg Int32.toInt hv8
                have hv9 : I364 a0 9 = x350_ := (Eq.trans (up2_kk eI364 krm ka0 (by decide)) (Eq.trans (up2_kk eI360 hk358 ka0 (by decide)) (Eq.trans (up2_kk eI357 hk353 ka0 (by decide)) e350.symm)))
                have hv9t : (I364 a0 9).toInt = x350_.toInt := congrArg Int32.toInt hv9
                exact r_vret hC hQ hlk hr (by decide) (by decide) dX10_readKnower_167 ⟨_, _, rfl, rfl, ⟨hs364, hF364, hFJ349, (by first | (left; omega) | (right; omega)), (by omega), (by omega), (by omega)⟩⟩
              · have hG3 : I349 rm 3 = G3 := (Eq.trans (hf349.get krm rfl) (Eq.trans (hf345.get krm rfl) (Eq.trans (hf343.get krm rfl) (Eq.trans (hf288.get krm rfl) (Eq.trans (hf192.get krm rfl) (Eq.trans (hf100.get krm rfl) (Eq.trans (hf4.get krm rfl) eG3.symm)))))))
                have hG3t : (I349 rm 3).toInt = G3.toInt := congrArg Int32.toInt hG3
                have hG4 : I349 rm 4 = G4 := (Eq.trans (hf349.get krm rfl) (Eq.trans (hf345.get krm rfl) (Eq.trans (hf343.get krm rfl) (Eq.trans (hf288.get krm rfl) (Eq.trans (hf192.get krm rfl) (Eq.trans (hf100.get krm rfl) (Eq.trans (hf4.get krm rfl) eG4.symm)))))))
                have hG4t : (I349 rm 4).toInt = G4.toInt := congrArg Int32.toInt hG4
                have hG7 : I349 rm 7 = G7 := (Eq.trans (hf349.get krm rfl) (Eq.trans (hf345.get krm rfl) (Eq.trans (hf343.get krm rfl) (Eq.trans (hf288.get krm rfl) (Eq.trans (hf192.get krm rfl) (Eq.trans (hf100.get krm rfl) (Eq.trans (hf4.get krm rfl) eG7.symm)))))))
                have hG7t : (I349 rm 7).toInt = G7.toInt := congrArg Int32.toInt hG7
                have hG8 : I349 rm 8 = G8 := (Eq.trans (hf349.get krm rfl) (Eq.trans (hf345.get krm rfl) (Eq.trans (hf343.get krm rfl) (Eq.trans (hf288.get krm rfl) (Eq.trans (hf192.get krm rfl) (Eq.trans (hf100.get krm rfl) (Eq.trans (hf4.get krm rfl) eG8.symm)))))))
                have hG8t : (I349 rm 8).toInt = G8.toInt := congrArg Int32.toInt hG8
                have hG9 : I349 rm 9 = x98_ := (Eq.trans (hf349.get krm rfl) (Eq.trans (hf345.get krm rfl) (Eq.trans (hf343.get krm rfl) (Eq.trans (hf288.get krm rfl) (Eq.trans (hf192.get krm rfl) (Eq.trans (hf100.get krm rfl) e98.symm))))))
                have hG9t : (I349 rm 9).toInt = x98_.toInt := congrArg Int32.toInt hG9
                have hGN : I349 rm 10 = N1 := (Eq.trans (hf349.get krm rfl) (Eq.trans (hf345.get krm rfl) (Eq.trans (hf343.get krm rfl) (Eq.trans (hf288.get krm rfl) (Eq.trans (hf192.get krm rfl) eN1.symm)))))
                have hGNt : (I349 rm 10).toInt = N1.toInt := congrArg Int32.toInt hGN
                have hv8 : I349 a0 8 = A9 := eA9.symm
                have hv8t : (I349 a0 8).toInt = A9.toInt := congrArg Int32.toInt hv8
                have hv9 : I349 a0 9 = x350_ := e350.symm
                have hv9t : (I349 a0 9).toInt = x350_.toInt := congrArg Int32.toInt hv9
                exact r_vret hC hQ hlk hr (by decide) (by decide) dX10_readKnower_113 ⟨_, _, rfl, rfl, ⟨hs349, hF349, hFJ349, (by first | (left; omega) | (right; omega)), (by omega), (by omega), (by omega)⟩⟩
      · clear k189_2
        refine r_aload_n hC dX10_readKnower_34 0 rfl ?_
        refine r_iconst hC (v := (1)) dX10_readKnower_35 (by decide) (by decide) (fun x365_ e365 t365 => ?_)
        have md366 : (I100 a0 9).toInt ≠ 5 := by omega
        refine r_callV hC (As := [.int x365_]) (rest := []) (ci := 10) (c_X10_wrong g (xL X) K len I100 J100 R hs100 a0 ka0 x365_) mT_5_236 mT_1_10 mT_5_233 mT_5_235 mP_55 okX10_wrong ⟨by decide, by decide⟩ rfl (by show kO (K a0) = _; rw [ka0]; rfl) rfl rfl (Nat.le_of_ble_eq_true rfl) ⟨by decide, by decide⟩ dX10_readKnower_36 (aV1 (F := fun st M => P g X 3 39 [(0, .ref a0)] st _ _ M) (M := (K, len, I100, J100, R)) fun I367 h367 => ?_)
        obtain ⟨hs367, hf367, k367_0, k367_1⟩ := h367
        show P g X 3 39 [(0, .ref a0)] [] _ _ (K, len, I367, J100, R)
        have hF367 : Fr K [(10, 9), (10, 10), (11, 8), (11, 9), (11, 10), (11, 11), (11, 12), (11, 13), (80, 999), (81, 999), (83, 999), (84, 999)] I I367 := hF100.trans hf367 rfl rfl
        clear k100_2
        clear md366 sf100
        refine r_aload_n hC dX10_readKnower_39 0 rfl ?_
        have md368 : (I367 a0 9).toInt = 5 := by omega
        refine r_callV hC (As := []) (rest := []) (ci := 10) (c_X10_goesOn g (xL X) K len I367 J100 R hs367 a0 ka0) mT_5_199 mT_1_10 mT_5_196 mT_5_198 mP_49 okX10_goesOn ⟨by decide, by decide⟩ rfl (by show kO (K a0) = _; rw [ka0]; rfl) rfl rfl (Nat.le_of_ble_eq_true rfl) ⟨by decide, by decide⟩ dX10_readKnower_40 (aV2 (F := fun st M => P g X 3 43 [(0, .ref a0)] st _ _ M) (M := (K, len, I367, J100, R)) fun I369 J369 h369 => ?_)
        obtain ⟨hs369, hf369, hfj369, k369_0, k369_1, k369_2, k369_3⟩ := h369
        show P g X 3 43 [(0, .ref a0)] [] _ _ (K, len, I369, J369, R)
        have hF369 : Fr K [(10, 9), (10, 10), (11, 8), (11, 9), (11, 10), (11, 11), (11, 12), (11, 13), (80, 999), (81, 999), (83, 999), (84, 999)] I I369 := hF367.trans hf369 rfl rfl
        have hFJ369 : Fr K [(11, 14), (82, 999)] J J369 := hFJ100.trans hfj369 rfl rfl
        have sf369 := k369_0 md368
        clear k369_0 k369_1 k369_3 md368
        refine r_aload_n hC dX10_readKnower_43 0 rfl ?_
        refine r_callV hC (As := []) (rest := []) (ci := 10) (c_X10_isName g (xL X) K len I369 J369 R hs369 a0 ka0) mT_6_27 mT_1_10 mT_6_24 mT_6_26 mP_61 okX10_isName ⟨by decide, by decide⟩ rfl (by show kO (K a0) = _; rw [ka0]; rfl) rfl rfl (Nat.le_of_ble_eq_true rfl) ⟨by decide, by decide⟩ dX10_readKnower_44 (aI0 (F := fun st M => P g X 3 47 [(0, .ref a0)] st _ _ M) (M := (K, len, I369, J369, R)) fun x370_ h370 => ?_)
        obtain ⟨k370_0, k370_1, k370_2⟩ := h370
        show P g X 3 47 [(0, .ref a0)] [.int x370_] _ _ (K, len, I369, J369, R)
        refine r_if_ne hC (tgt := 55) dX10_readKnower_47 (by decide) (fun c371 => ?_) (fun c371 => ?_)
        · exfalso; have h9 := k370_2 c371; omega
        clear k370_2
        refine r_aload_n hC dX10_readKnower_50 0 rfl ?_
        refine r_iconst hC (v := (1)) dX10_readKnower_51 (by decide) (by decide) (fun x372_ e372 t372 => ?_)
        have md373 : (I369 a0 9).toInt = 5 := by omega
        refine r_callV hC (As := [.int x372_]) (rest := []) (ci := 10) (c_X10_wrong g (xL X) K len I369 J369 R hs369 a0 ka0 x372_) mT_5_236 mT_1_10 mT_5_233 mT_5_235 mP_55 okX10_wrong ⟨by decide, by decide⟩ rfl (by show kO (K a0) = _; rw [ka0]; rfl) rfl rfl (Nat.le_of_ble_eq_true rfl) ⟨by decide, by decide⟩ dX10_readKnower_52 (aV1 (F := fun st M => P g X 3 55 [(0, .ref a0)] st _ _ M) (M := (K, len, I369, J369, R)) fun I374 h374 => ?_)
        obtain ⟨hs374, hf374, k374_0, k374_1⟩ := h374
        show P g X 3 55 [(0, .ref a0)] [] _ _ (K, len, I374, J369, R)
        have hF374 : Fr K [(10, 9), (10, 10), (11, 8), (11, 9), (11, 10), (11, 11), (11, 12), (11, 13), (80, 999), (81, 999), (83, 999), (84, 999)] I I374 := hF369.trans hf374 rfl rfl
        clear md373 sf369
        refine r_aload_n hC dX10_readKnower_55 0 rfl ?_
        refine r_getr hC 4 (ci := 10) rfl u10_in (by decide) mT_4_239 dX10_readKnower_56 ka0 rfl rfl hbr ?_
        refine r_aload_n hC dX10_readKnower_59 0 rfl ?_
        refine r_getj hC 14 (ci := 10) rfl u10_in (by decide) mT_5_9 dX10_readKnower_60 ka0 rfl rfl (fun y375_ e375 => ?_)
        refine r_callV hC (As := [.long y375_]) (rest := []) (ci := 9) (c_X9_find g (xL X) K len I374 J369 R hs374 rm krm y375_) mT_6_36 mT_1_17 mT_6_33 mT_6_34 mT_6_35 okX9_find ⟨by decide, by decide⟩ rfl (by show kO (K rm) = _; rw [krm]; rfl) rfl rfl (Nat.le_of_ble_eq_true rfl) ⟨by decide, by decide⟩ dX10_readKnower_63 (aI0 (F := fun st M => P g X 3 66 [(0, .ref a0)] st _ _ M) (M := (K, len, I374, J369, R)) fun x376_ h376 => ?_)
        obtain ⟨k376_0, k376_1⟩ := h376
        show P g X 3 66 [(0, .ref a0)] [.int x376_] _ _ (K, len, I374, J369, R)
        refine r_istore_n hC (lv' := [(1, .int x376_), (0, .ref a0)]) dX10_readKnower_66 (by decide) rfl ?_
        refine r_iload_n hC dX10_readKnower_67 0 rfl ?_
        refine r_iconst hC (v := (-1)) dX10_readKnower_68 (by decide) (by decide) (fun x377_ e377 t377 => ?_)
        refine r_icmp_eq hC (tgt := 84) dX10_readKnower_69 (by decide) (fun c378 => ?_) (fun c378 => ?_)
        · refine r_aload_n hC dX10_readKnower_84 1 rfl ?_
          refine r_iconst hC (v := (2)) dX10_readKnower_85 (by decide) (by decide) (fun x379_ e379 t379 => ?_)
          have md380 : (I374 a0 9).toInt = 5 := by omega
          refine r_callV hC (As := [.int x379_]) (rest := []) (ci := 10) (c_X10_wrong g (xL X) K len I374 J369 R hs374 a0 ka0 x379_) mT_5_236 mT_1_10 mT_5_233 mT_5_235 mP_55 okX10_wrong ⟨by decide, by decide⟩ rfl (by show kO (K a0) = _; rw [ka0]; rfl) rfl rfl (Nat.le_of_ble_eq_true rfl) ⟨by decide, by decide⟩ dX10_readKnower_86 (aV1 (F := fun st M => P g X 3 89 [(1, .int x376_), (0, .ref a0)] st _ _ M) (M := (K, len, I374, J369, R)) fun I381 h381 => ?_)
          obtain ⟨hs381, hf381, k381_0, k381_1⟩ := h381
          show P g X 3 89 [(1, .int x376_), (0, .ref a0)] [] _ _ (K, len, I381, J369, R)
          have hF381 : Fr K [(10, 9), (10, 10), (11, 8), (11, 9), (11, 10), (11, 11), (11, 12), (11, 13), (80, 999), (81, 999), (83, 999), (84, 999)] I I381 := hF374.trans hf381 rfl rfl
          clear md380
          refine r_aload_n hC dX10_readKnower_89 1 rfl ?_
          have md382 : (I381 a0 9).toInt = 5 := by omega
          refine r_callV hC (As := []) (rest := []) (ci := 10) (c_X10_goesOn g (xL X) K len I381 J369 R hs381 a0 ka0) mT_5_199 mT_1_10 mT_5_196 mT_5_198 mP_49 okX10_goesOn ⟨by decide, by decide⟩ rfl (by show kO (K a0) = _; rw [ka0]; rfl) rfl rfl (Nat.le_of_ble_eq_true rfl) ⟨by decide, by decide⟩ dX10_readKnower_90 (aV2 (F := fun st M => P g X 3 93 [(1, .int x376_), (0, .ref a0)] st _ _ M) (M := (K, len, I381, J369, R)) fun I383 J383 h383 => ?_)
          obtain ⟨hs383, hf383, hfj383, k383_0, k383_1, k383_2, k383_3⟩ := h383
          show P g X 3 93 [(1, .int x376_), (0, .ref a0)] [] _ _ (K, len, I383, J383, R)
          have hF383 : Fr K [(10, 9), (10, 10), (11, 8), (11, 9), (11, 10), (11, 11), (11, 12), (11, 13), (80, 999), (81, 999), (83, 999), (84, 999)] I I383 := hF381.trans hf383 rfl rfl
          have hFJ383 : Fr K [(11, 14), (82, 999)] J J383 := hFJ369.trans hfj383 rfl rfl
          have sf383 := k383_0 md382
          clear k383_0 k383_1 k383_3 md382
          refine r_aload_n hC dX10_readKnower_93 1 rfl ?_
          refine r_ldcwS hC (i := 59) (by decide) rfl rfl dX10_readKnower_94 ?_
          refine r_iconst hC (v := (0)) dX10_readKnower_97 (by decide) (by decide) (fun x384_ e384 t384 => ?_)
          refine r_sipush hC (v := (999)) dX10_readKnower_98 (by decide) (by decide) (fun x385_ e385 t385 => ?_)
          have md386 : (I383 a0 9).toInt = 5 := by omega
          refine r_callV hC (As := [.ref (g.2.2.1 59), .int x384_, .int x385_]) (rest := []) (ci := 10) (c_X10_readPart g (xL X) K len I383 J383 R hs383 a0 ka0 59 (by decide) x384_ x385_) mT_6_1 mT_1_10 mT_5_238 mT_6_0 mP_56 okX10_readPart ⟨by decide, by decide⟩ rfl (by show kO (K a0) = _; rw [ka0]; rfl) rfl rfl (Nat.le_of_ble_eq_true rfl) ⟨by decide, by decide⟩ dX10_readKnower_101 (aI2 (F := fun st M => P g X 3 104 [(1, .int x376_), (0, .ref a0)] st _ _ M) (M := (K, len, I383, J383, R)) fun x387_ I387 J387 h387 => ?_)
          obtain ⟨hs387, hf387, hfj387, k387_0, k387_1, k387_2, k387_3⟩ := h387
          show P g X 3 104 [(1, .int x376_), (0, .ref a0)] [.int x387_] _ _ (K, len, I387, J387, R)
          have hF387 : Fr K [(10, 9), (10, 10), (11, 8), (11, 9), (11, 10), (11, 11), (11, 12), (11, 13), (80, 999), (81, 999), (83, 999), (84, 999)] I I387 := hF383.trans hf387 rfl rfl
          have hFJ387 : Fr K [(11, 14), (82, 999)] J J387 := hFJ383.trans hfj387 rfl rfl
          have sf387 := k387_0 md386
          clear k387_0 k387_1 k387_3 md386 sf383
          refine r_istore_n hC (lv' := [(2, .int x387_), (1, .int x376_), (0, .ref a0)]) dX10_readKnower_104 (by decide) rfl ?_
          refine r_aload_n hC dX10_readKnower_105 2 rfl ?_
          obtain ⟨A9, eA9⟩ : ∃ z : Int32, z = I387 a0 8 := ⟨_, rfl⟩
          have fA9 : A9.toInt = (I387 a0 8).toInt := by rw [eA9]
          have rA9 := hs387.rng ka0 rfl eA9
          refine r_geti hC 9 (ci := 10) rfl u10_in (by decide) mT_5_4 dX10_readKnower_106 ka0 rfl rfl (fun x388_ e388 => ?_)
          have f388 : x388_.toInt = (I387 a0 9).toInt := by rw [e388]
          refine r_iconst hC (v := (5)) dX10_readKnower_109 (by decide) (by decide) (fun x389_ e389 t389 => ?_)
          refine r_icmp_ne hC (tgt := 114) dX10_readKnower_110 (by decide) (fun c390 => ?_) (fun c390 => ?_)
          · refine r_aload_n hC dX10_readKnower_114 2 rfl ?_
            refine r_getr hC 4 (ci := 10) rfl u10_in (by decide) mT_4_239 dX10_readKnower_115 ka0 rfl rfl hbr ?_
            obtain ⟨a391_, hb391, hk391, hn391⟩ := hs387.row krm 23 80 4 (by decide) (by decide)
            refine r_getrN hC 23 (ci := 9) rfl u9_in (by decide) nF_23 dX10_readKnower_118 krm rfl rfl hb391 ?_
            refine r_aload_n hC dX10_readKnower_121 2 rfl ?_
            refine r_getr hC 4 (ci := 10) rfl u10_in (by decide) mT_4_239 dX10_readKnower_122 ka0 rfl rfl hbr ?_
            refine r_getiN hC 9 (ci := 9) rfl u9_in (by decide) nF_9 dX10_readKnower_125 krm rfl rfl (fun x392_ e392 => ?_)
            have r392 := hs387.rng krm rfl e392
            have f392 : x392_.toInt = (I387 rm 9).toInt := by rw [e392]
            have w392 : x392_ = x98_ := by rw [e392]; exact (Eq.trans (hf387.get krm rfl) (Eq.trans (hf383.get krm rfl) (Eq.trans (hf381.get krm rfl) (Eq.trans (hf374.get krm rfl) (Eq.trans (hf369.get krm rfl) (Eq.trans (hf367.get krm rfl) (Eq.trans (hf100.get krm rfl) e98.symm)))))))
            have wt392 : x392_.toInt = x98_.toInt := by rw [w392]
            refine r_aload_n hC dX10_readKnower_128 2 rfl ?_
            refine r_getr hC 4 (ci := 10) rfl u10_in (by decide) mT_4_239 dX10_readKnower_129 ka0 rfl rfl hbr ?_
            obtain ⟨a393_, hb393, hk393, hn393⟩ := hs387.row krm 27 84 19 (by decide) (by decide)
            refine r_getrN hC 27 (ci := 9) rfl u9_in (by decide) nF_27 dX10_readKnower_132 krm rfl rfl hb393 ?_
            refine r_iload_n hC dX10_readKnower_135 1 rfl ?_
            refine x_iaload hC hk393 hn393 (by decide) rfl rfl dX10_readKnower_136 (by omega) (by omega) (fun x394_ e394 => ?_)
            refine x_iastore hC hk391 hn391 (by decide) rfl rfl dX10_readKnower_137 (by omega) (by omega) (fun I395 eI395 => ?_)
            have hs395 := hs387.put0 eI395 hk391 (rng_arr (by decide) _) rfl (xF_arr (by decide) _) (by decide)
            have hF395 := hF387.put eI395 hk391 (inS_arr rfl _)
            refine r_aload_n hC dX10_readKnower_138 2 rfl ?_
            refine r_getr hC 4 (ci := 10) rfl u10_in (by decide) mT_4_239 dX10_readKnower_139 ka0 rfl rfl hbr ?_
            obtain ⟨a396_, hb396, hk396, hn396⟩ := hs395.row krm 24 81 4 (by decide) (by decide)
            refine r_getrN hC 24 (ci := 9) rfl u9_in (by decide) nF_24 dX10_readKnower_142 krm rfl rfl hb396 ?_
            refine r_aload_n hC dX10_readKnower_145 2 rfl ?_
            refine r_getr hC 4 (ci := 10) rfl u10_in (by decide) mT_4_239 dX10_readKnower_146 ka0 rfl rfl hbr ?_
            refine r_getiN hC 9 (ci := 9) rfl u9_in (by decide) nF_9 dX10_readKnower_149 krm rfl rfl (fun x397_ e397 => ?_)
            have r397 := hs395.rng krm rfl e397
            have f397 : x397_.toInt = (I395 rm 9).toInt := by rw [e397]
            have w397 : x397_ = x392_ := by rw [e397]; exact (Eq.trans (up2_kk eI395 hk391 krm (by decide)) e392.symm)
            have wt397 : x397_.toInt = x392_.toInt := by rw [w397]
            refine r_iload_n hC dX10_readKnower_152 0 rfl ?_
            refine x_iastore hC hk396 hn396 (by decide) rfl rfl dX10_readKnower_153 (by omega) (by omega) (fun I398 eI398 => ?_)
            have hs398 := hs395.put0 eI398 hk396 (rng_arr (by decide) _) rfl (xF_arr (by decide) _) (by decide)
            have hF398 := hF395.put eI398 hk396 (inS_arr rfl _)
            refine r_aload_n hC dX10_readKnower_154 2 rfl ?_
            refine r_getr hC 4 (ci := 10) rfl u10_in (by decide) mT_4_239 dX10_readKnower_155 ka0 rfl rfl hbr ?_
            refine r_dup hC dX10_readKnower_158 rfl ?_
            refine r_getiN hC 9 (ci := 9) rfl u9_in (by decide) nF_9 dX10_readKnower_159 krm rfl rfl (fun x399_ e399 => ?_)
            have r399 := hs398.rng krm rfl e399
            have f399 : x399_.toInt = (I398 rm 9).toInt := by rw [e399]
            have w399 : x399_ = x397_ := by rw [e399]; exact (Eq.trans (up2_kk eI398 hk396 krm (by decide)) e397.symm)
            have wt399 : x399_.toInt = x397_.toInt := by rw [w399]
            refine r_iconst hC (v := (1)) dX10_readKnower_162 (by decide) (by decide) (fun x400_ e400 t400 => ?_)
            refine r_iadd hC dX10_readKnower_163 (fun x401_ e401 => ?_)
            try have t401 : x401_.toInt = x399_.toInt + x400_.toInt := by rw [e401]; exact ti_add (by omega) (by omega)
            refine r_putiN hC 9 (ci := 9) rfl u9_in tyX9_ok nmX9 (by decide) nF_9 rfl rfl rfl dX10_readKnower_164 krm rfl rfl (fun I402 eI402 => ?_)
            have hs402 := hs398.put1 eI402 krm rfl (by omega) (by omega) rfl rfl (by decide)
            have hF402 := hF398.put eI402 krm rfl
            have hG3 : I402 rm 3 = G3 := (Eq.trans (up2_at (Or.inr (by decide)) eI402) (Eq.trans (up2_kk eI398 hk396 krm (by decide)) (Eq.trans (up2_kk eI395 hk391 krm (by decide)) (Eq.trans (hf387.get krm rfl) (Eq.trans (hf383.get krm rfl) (Eq.trans (hf381.get krm rfl) (Eq.trans (hf374.get krm rfl) (Eq.trans (hf369.get krm rfl) (Eq.trans (hf367.get krm rfl) (Eq.trans (hf100.get krm rfl) (Eq.trans (hf4.get krm rfl) eG3.symm)))))))))))
            have hG3t : (I402 rm 3).toInt = G3.toInt := congrArg Int32.toInt hG3
            have hG4 : I402 rm 4 = G4 := (Eq.trans (up2_at (Or.inr (by decide)) eI402) (Eq.trans (up2_kk eI398 hk396 krm (by decide)) (Eq.trans (up2_kk eI395 hk391 krm (by decide)) (Eq.trans (hf387.get krm rfl) (Eq.trans (hf383.get krm rfl) (Eq.trans (hf381.get krm rfl) (Eq.trans (hf374.get krm rfl) (Eq.trans (hf369.get krm rfl) (Eq.trans (hf367.get krm rfl) (Eq.trans (hf100.get krm rfl) (Eq.trans (hf4.get krm rfl) eG4.symm)))))))))))
            have hG4t : (I402 rm 4).toInt = G4.toInt := congrArg Int32.toInt hG4
            have hG7 : I402 rm 7 = G7 := (Eq.trans (up2_at (Or.inr (by decide)) eI402) (Eq.trans (up2_kk eI398 hk396 krm (by decide)) (Eq.trans (up2_kk eI395 hk391 krm (by decide)) (Eq.trans (hf387.get krm rfl) (Eq.trans (hf383.get krm rfl) (Eq.trans (hf381.get krm rfl) (Eq.trans (hf374.get krm rfl) (Eq.trans (hf369.get krm rfl) (Eq.trans (hf367.get krm rfl) (Eq.trans (hf100.get krm rfl) (Eq.trans (hf4.get krm rfl) eG7.symm)))))))))))
            have hG7t : (I402 rm 7).toInt = G7.toInt := congrArg Int32.toInt hG7
            have hG8 : I402 rm 8 = G8 := (Eq.trans (up2_at (Or.inr (by decide)) eI402) (Eq.trans (up2_kk eI398 hk396 krm (by decide)) (Eq.trans (up2_kk eI395 hk391 krm (by decide)) (Eq.trans (hf387.get krm rfl) (Eq.trans (hf383.get krm rfl) (Eq.trans (hf381.get krm rfl) (Eq.trans (hf374.get krm rfl) (Eq.trans (hf369.get krm rfl) (Eq.trans (hf367.get krm rfl) (Eq.trans (hf100.get krm rfl) (Eq.trans (hf4.get krm rfl) eG8.symm)))))))))))
            have hG8t : (I402 rm 8).toInt = G8.toInt := congrArg Int32.toInt hG8
            have hG9 : I402 rm 9 = x401_ := (by rw [eI402]; exact up2_self _ _ _ _)
            have hG9t : (I402 rm 9).toInt = x401_.toInt := congrArg Int32.toInt hG9
            have hGN : I402 rm 10 = N1 := (Eq.trans (up2_at (Or.inr (by decide)) eI402) (Eq.trans (up2_kk eI398 hk396 krm (by decide)) (Eq.trans (up2_kk eI395 hk391 krm (by decide)) (Eq.trans (hf387.get krm rfl) (Eq.trans (hf383.get krm rfl) (Eq.trans (hf381.get krm rfl) (Eq.trans (hf374.get krm rfl) (Eq.trans (hf369.get krm rfl) (Eq.trans (hf367.get krm rfl) eN1.symm)))))))))
            have hGNt : (I402 rm 10).toInt = N1.toInt := congrArg Int32.toInt hGN
            have hv8 : I402 a0 8 = A9 := (Eq.trans (up2_kk eI402 krm ka0 (by decide)) (Eq.trans (up2_kk eI398 hk396 ka0 (by decide)) (Eq.trans (up2_kk eI395 hk391 ka0 (by decide)) eA9.symm)))
            have hv8t : (I402 a0 8).toInt = A9.toInt := congrArg Int32.toInt hv8
            have hv9 : I402 a0 9 = x388_ := (Eq.trans (up2_kk eI402 krm ka0 (by decide)) (Eq.trans (up2_kk eI398 hk396 ka0 (by decide)) (Eq.trans (up2_kk eI395 hk391 ka0 (by decide)) e388.symm)))
            have hv9t : (I402 a0 9).toInt = x388_.toInt := congrArg Int32.toInt hv9
            exact r_vret hC hQ hlk hr (by decide) (by decide) dX10_readKnower_167 ⟨_, _, rfl, rfl, ⟨hs402, hF402, hFJ387, (by first | (left; omega) | (right; omega)), (by omega), (by omega), (by omega)⟩⟩
          · have hG3 : I387 rm 3 = G3 := (Eq.trans (hf387.get krm rfl) (Eq.trans (hf383.get krm rfl) (Eq.trans (hf381.get krm rfl) (Eq.trans (hf374.get krm rfl) (Eq.trans (hf369.get krm rfl) (Eq.trans (hf367.get krm rfl) (Eq.trans (hf100.get krm rfl) (Eq.trans (hf4.get krm rfl) eG3.symm))))))))
            have hG3t : (I387 rm 3).toInt = G3.toInt := congrArg Int32.toInt hG3
            have hG4 : I387 rm 4 = G4 := (Eq.trans (hf387.get krm rfl) (Eq.trans (hf383.get krm rfl) (Eq.trans (hf381.get krm rfl) (Eq.trans (hf374.get krm rfl) (Eq.trans (hf369.get krm rfl) (Eq.trans (hf367.get krm rfl) (Eq.trans (hf100.get krm rfl) (Eq.trans (hf4.get krm rfl) eG4.symm))))))))
            have hG4t : (I387 rm 4).toInt = G4.toInt := congrArg Int32.toInt hG4
            have hG7 : I387 rm 7 = G7 := (Eq.trans (hf387.get krm rfl) (Eq.trans (hf383.get krm rfl) (Eq.trans (hf381.get krm rfl) (Eq.trans (hf374.get krm rfl) (Eq.trans (hf369.get krm rfl) (Eq.trans (hf367.get krm rfl) (Eq.trans (hf100.get krm rfl) (Eq.trans (hf4.get krm rfl) eG7.symm))))))))
            have hG7t : (I387 rm 7).toInt = G7.toInt := congrArg Int32.toInt hG7
            have hG8 : I387 rm 8 = G8 := (Eq.trans (hf387.get krm rfl) (Eq.trans (hf383.get krm rfl) (Eq.trans (hf381.get krm rfl) (Eq.trans (hf374.get krm rfl) (Eq.trans (hf369.get krm rfl) (Eq.trans (hf367.get krm rfl) (Eq.trans (hf100.get krm rfl) (Eq.trans (hf4.get krm rfl) eG8.symm))))))))
            have hG8t : (I387 rm 8).toInt = G8.toInt := congrArg Int32.toInt hG8
            have hG9 : I387 rm 9 = x98_ := (Eq.trans (hf387.get krm rfl) (Eq.trans (hf383.get krm rfl) (Eq.trans (hf381.get krm rfl) (Eq.trans (hf374.get krm rfl) (Eq.trans (hf369.get krm rfl) (Eq.trans (hf367.get krm rfl) (Eq.trans (hf100.get krm rfl) e98.symm)))))))
            have hG9t : (I387 rm 9).toInt = x98_.toInt := congrArg Int32.toInt hG9
            have hGN : I387 rm 10 = N1 := (Eq.trans (hf387.get krm rfl) (Eq.trans (hf383.get krm rfl) (Eq.trans (hf381.get krm rfl) (Eq.trans (hf374.get krm rfl) (Eq.trans (hf369.get krm rfl) (Eq.trans (hf367.get krm rfl) eN1.symm))))))
            have hGNt : (I387 rm 10).toInt = N1.toInt := congrArg Int32.toInt hGN
            have hv8 : I387 a0 8 = A9 := eA9.symm
            have hv8t : (I387 a0 8).toInt = A9.toInt := congrArg Int32.toInt hv8
            have hv9 : I387 a0 9 = x388_ := e388.symm
            have hv9t : (I387 a0 9).toInt = x388_.toInt := congrArg Int32.toInt hv9
            exact r_vret hC hQ hlk hr (by decide) (by decide) dX10_readKnower_113 ⟨_, _, rfl, rfl, ⟨hs387, hF387, hFJ387, (by first | (left; omega) | (right; omega)), (by omega), (by omega), (by omega)⟩⟩
        · refine r_aload_n hC dX10_readKnower_72 1 rfl ?_
          refine r_getr hC 4 (ci := 10) rfl u10_in (by decide) mT_4_239 dX10_readKnower_73 ka0 rfl rfl hbr ?_
          obtain ⟨a403_, hb403, hk403, hn403⟩ := hs374.row krm 26 83 19 (by decide) (by decide)
          refine r_getrN hC 26 (ci := 9) rfl u9_in (by decide) nF_26 dX10_readKnower_76 krm rfl rfl hb403 ?_
          refine r_iload_n hC dX10_readKnower_79 0 rfl ?_
          refine x_iaload hC hk403 hn403 (by decide) rfl rfl dX10_readKnower_80 (by omega) (by omega) (fun x404_ e404 => ?_)
          refine r_if_eq hC (tgt := 89) dX10_readKnower_81 (by decide) (fun c405 => ?_) (fun c405 => ?_)
          · refine r_aload_n hC dX10_readKnower_89 1 rfl ?_
            have md406 : (I374 a0 9).toInt = 5 := by omega
            refine r_callV hC (As := []) (rest := []) (ci := 10) (c_X10_goesOn g (xL X) K len I374 J369 R hs374 a0 ka0) mT_5_199 mT_1_10 mT_5_196 mT_5_198 mP_49 okX10_goesOn ⟨by decide, by decide⟩ rfl (by show kO (K a0) = _; rw [ka0]; rfl) rfl rfl (Nat.le_of_ble_eq_true rfl) ⟨by decide, by decide⟩ dX10_readKnower_90 (aV2 (F := fun st M => P g X 3 93 [(1, .int x376_), (0, .ref a0)] st _ _ M) (M := (K, len, I374, J369, R)) fun I407 J407 h407 => ?_)
            obtain ⟨hs407, hf407, hfj407, k407_0, k407_1, k407_2, k407_3⟩ := h407
            show P g X 3 93 [(1, .int x376_), (0, .ref a0)] [] _ _ (K, len, I407, J407, R)
            have hF407 : Fr K [(10, 9), (10, 10), (11, 8), (11, 9), (11, 10), (11, 11), (11, 12), (11, 13), (80, 999), (81, 999), (83, 999), (84, 999)] I I407 := hF374.trans hf407 rfl rfl
            have hFJ407 : Fr K [(11, 14), (82, 999)] J J407 := hFJ369.trans hfj407 rfl rfl
            have sf407 := k407_0 md406
            clear k407_0 k407_1 k407_3 md406
            refine r_aload_n hC dX10_readKnower_93 1 rfl ?_
            refine r_ldcwS hC (i := 59) (by decide) rfl rfl dX10_readKnower_94 ?_
            refine r_iconst hC (v := (0)) dX10_readKnower_97 (by decide) (by decide) (fun x408_ e408 t408 => ?_)
            refine r_sipush hC (v := (999)) dX10_readKnower_98 (by decide) (by decide) (fun x409_ e409 t409 => ?_)
            have md410 : (I407 a0 9).toInt = 5 := by omega
            refine r_callV hC (As := [.ref (g.2.2.1 59), .int x408_, .int x409_]) (rest := []) (ci := 10) (c_X10_readPart g (xL X) K len I407 J407 R hs407 a0 ka0 59 (by decide) x408_ x409_) mT_6_1 mT_1_10 mT_5_238 mT_6_0 mP_56 okX10_readPart ⟨by decide, by decide⟩ rfl (by show kO (K a0) = _; rw [ka0]; rfl) rfl rfl (Nat.le_of_ble_eq_true rfl) ⟨by decide, by decide⟩ dX10_readKnower_101 (aI2 (F := fun st M => P g X 3 104 [(1, .int x376_), (0, .ref a0)] st _ _ M) (M := (K, len, I407, J407, R)) fun x411_ I411 J411 h411 => ?_)
            obtain ⟨hs411, hf411, hfj411, k411_0, k411_1, k411_2, k411_3⟩ := h411
            show P g X 3 104 [(1, .int x376_), (0, .ref a0)] [.int x411_] _ _ (K, len, I411, J411, R)
            have hF411 : Fr K [(10, 9), (10, 10), (11, 8), (11, 9), (11, 10), (11, 11), (11, 12), (11, 13), (80, 999), (81, 999), (83, 999), (84, 999)] I I411 := hF407.trans hf411 rfl rfl
            have hFJ411 : Fr K [(11, 14), (82, 999)] J J411 := hFJ407.trans hfj411 rfl rfl
            have sf411 := k411_0 md410
            clear k411_0 k411_1 k411_3 md410 sf407
            refine r_istore_n hC (lv' := [(2, .int x411_), (1, .int x376_), (0, .ref a0)]) dX10_readKnower_104 (by decide) rfl ?_
            refine r_aload_n hC dX10_readKnower_105 2 rfl ?_
            obtain ⟨A9, eA9⟩ : ∃ z : Int32, z = I411 a0 8 := ⟨_, rfl⟩
            have fA9 : A9.toInt = (I411 a0 8).toInt := by rw [eA9]
            have rA9 := hs411.rng ka0 rfl eA9
            refine r_geti hC 9 (ci := 10) rfl u10_in (by decide) mT_5_4 dX10_readKnower_106 ka0 rfl rfl (fun x412_ e412 => ?_)
            have f412 : x412_.toInt = (I411 a0 9).toInt := by rw [e412]
            refine r_iconst hC (v := (5)) dX10_readKnower_109 (by decide) (by decide) (fun x413_ e413 t413 => ?_)
            refine r_icmp_ne hC (tgt := 114) dX10_readKnower_110 (by decide) (fun c414 => ?_) (fun c414 => ?_)
            · refine r_aload_n hC dX10_readKnower_114 2 rfl ?_
              refine r_getr hC 4 (ci := 10) rfl u10_in (by decide) mT_4_239 dX10_readKnower_115 ka0 rfl rfl hbr ?_
              obtain ⟨a415_, hb415, hk415, hn415⟩ := hs411.row krm 23 80 4 (by decide) (by decide)
              refine r_getrN hC 23 (ci := 9) rfl u9_in (by decide) nF_23 dX10_readKnower_118 krm rfl rfl hb415 ?_
              refine r_aload_n hC dX10_readKnower_121 2 rfl ?_
              refine r_getr hC 4 (ci := 10) rfl u10_in (by decide) mT_4_239 dX10_readKnower_122 ka0 rfl rfl hbr ?_
              refine r_getiN hC 9 (ci := 9) rfl u9_in (by decide) nF_9 dX10_readKnower_125 krm rfl rfl (fun x416_ e416 => ?_)
              have r416 := hs411.rng krm rfl e416
              have f416 : x416_.toInt = (I411 rm 9).toInt := by rw [e416]
              have w416 : x416_ = x98_ := by rw [e416]; exact (Eq.trans (hf411.get krm rfl) (Eq.trans (hf407.get krm rfl) (Eq.trans (hf374.get krm rfl) (Eq.trans (hf369.get krm rfl) (Eq.trans (hf367.get krm rfl) (Eq.trans (hf100.get krm rfl) e98.symm))))))
              have wt416 : x416_.toInt = x98_.toInt := by rw [w416]
              refine r_aload_n hC dX10_readKnower_128 2 rfl ?_
              refine r_getr hC 4 (ci := 10) rfl u10_in (by decide) mT_4_239 dX10_readKnower_129 ka0 rfl rfl hbr ?_
              obtain ⟨a417_, hb417, hk417, hn417⟩ := hs411.row krm 27 84 19 (by decide) (by decide)
              refine r_getrN hC 27 (ci := 9) rfl u9_in (by decide) nF_27 dX10_readKnower_132 krm rfl rfl hb417 ?_
              refine r_iload_n hC dX10_readKnower_135 1 rfl ?_
              refine x_iaload hC hk417 hn417 (by decide) rfl rfl dX10_readKnower_136 (by omega) (by omega) (fun x418_ e418 => ?_)
              refine x_iastore hC hk415 hn415 (by decide) rfl rfl dX10_readKnower_137 (by omega) (by omega) (fun I419 eI419 => ?_)
              have hs419 := hs411.put0 eI419 hk415 (rng_arr (by decide) _) rfl (xF_arr (by decide) _) (by decide)
              have hF419 := hF411.put eI419 hk415 (inS_arr rfl _)
              refine r_aload_n hC dX10_readKnower_138 2 rfl ?_
              refine r_getr hC 4 (ci := 10) rfl u10_in (by decide) mT_4_239 dX10_readKnower_139 ka0 rfl rfl hbr ?_
              obtain ⟨a420_, hb420, hk420, hn420⟩ := hs419.row krm 24 81 4 (by decide) (by decide)
              refine r_getrN hC 24 (ci := 9) rfl u9_in (by decide) nF_24 dX10_readKnower_142 krm rfl rfl hb420 ?_
              refine r_aload_n hC dX10_readKnower_145 2 rfl ?_
              refine r_getr hC 4 (ci := 10) rfl u10_in (by decide) mT_4_239 dX10_readKnower_146 ka0 rfl rfl hbr ?_
              refine r_getiN hC 9 (ci := 9) rfl u9_in (by decide) nF_9 dX10_readKnower_149 krm rfl rfl (fun x421_ e421 => ?_)
              have r421 := hs419.rng krm rfl e421
              have f421 : x421_.toInt = (I419 rm 9).toInt := by rw [e421]
              have w421 : x421_ = x416_ := by rw [e421]; exact (Eq.trans (up2_kk eI419 hk415 krm (by decide)) e416.symm)
              have wt421 : x421_.toInt = x416_.toInt := by rw [w421]
              refine r_iload_n hC dX10_readKnower_152 0 rfl ?_
              refine x_iastore hC hk420 hn420 (by decide) rfl rfl dX10_readKnower_153 (by omega) (by omega) (fun I422 eI422 => ?_)
              have hs422 := hs419.put0 eI422 hk420 (rng_arr (by decide) _) rfl (xF_arr (by decide) _) (by decide)
              have hF422 := hF419.put eI422 hk420 (inS_arr rfl _)
              refine r_aload_n hC dX10_readKnower_154 2 rfl ?_
              refine r_getr hC 4 (ci := 10) rfl u10_in (by decide) mT_4_239 dX10_readKnower_155 ka0 rfl rfl hbr ?_
              refine r_dup hC dX10_readKnower_158 rfl ?_
              refine r_getiN hC 9 (ci := 9) rfl u9_in (by decide) nF_9 dX10_readKnower_159 krm rfl rfl (fun x423_ e423 => ?_)
              have r423 := hs422.rng krm rfl e423
              have f423 : x423_.toInt = (I422 rm 9).toInt := by rw [e423]
              have w423 : x423_ = x421_ := by rw [e423]; exact (Eq.trans (up2_kk eI422 hk420 krm (by decide)) e421.symm)
              have wt423 : x423_.toInt = x421_.toInt := by rw [w423]
              refine r_iconst hC (v := (1)) dX10_readKnower_162 (by decide) (by decide) (fun x424_ e424 t424 => ?_)
              refine r_iadd hC dX10_readKnower_163 (fun x425_ e425 => ?_)
              try have t425 : x425_.toInt = x423_.toInt + x424_.toInt := by rw [e425]; exact ti_add (by omega) (by omega)
              refine r_putiN hC 9 (ci := 9) rfl u9_in tyX9_ok nmX9 (by decide) nF_9 rfl rfl rfl dX10_readKnower_164 krm rfl rfl (fun I426 eI426 => ?_)
              have hs426 := hs422.put1 eI426 krm rfl (by omega) (by omega) rfl rfl (by decide)
              have hF426 := hF422.put eI426 krm rfl
              have hG3 : I426 rm 3 = G3 := (Eq.trans (up2_at (Or.inr (by decide)) eI426) (Eq.trans (up2_kk eI422 hk420 krm (by decide)) (Eq.trans (up2_kk eI419 hk415 krm (by decide)) (Eq.trans (hf411.get krm rfl) (Eq.trans (hf407.get krm rfl) (Eq.trans (hf374.get krm rfl) (Eq.trans (hf369.get krm rfl) (Eq.trans (hf367.get krm rfl) (Eq.trans (hf100.get krm rfl) (Eq.trans (hf4.get krm rfl) eG3.symm))))))))))
              have hG3t : (I426 rm 3).toInt = G3.toInt := congrArg Int32.toInt hG3
              have hG4 : I426 rm 4 = G4 := (Eq.trans (up2_at (Or.inr (by decide)) eI426) (Eq.trans (up2_kk eI422 hk420 krm (by decide)) (Eq.trans (up2_kk eI419 hk415 krm (by decide)) (Eq.trans (hf411.get krm rfl) (Eq.trans (hf407.get krm rfl) (Eq.trans (hf374.get krm rfl) (Eq.trans (hf369.get krm rfl) (Eq.trans (hf367.get krm rfl) (Eq.trans (hf100.get krm rfl) (Eq.trans (hf4.get krm rfl) eG4.symm))))))))))
              have hG4t : (I426 rm 4).toInt = G4.toInt := congrArg Int32.toInt hG4
              have hG7 : I426 rm 7 = G7 := (Eq.trans (up2_at (Or.inr (by decide)) eI426) (Eq.trans (up2_kk eI422 hk420 krm (by decide)) (Eq.trans (up2_kk eI419 hk415 krm (by decide)) (Eq.trans (hf411.get krm rfl) (Eq.trans (hf407.get krm rfl) (Eq.trans (hf374.get krm rfl) (Eq.trans (hf369.get krm rfl) (Eq.trans (hf367.get krm rfl) (Eq.trans (hf100.get krm rfl) (Eq.trans (hf4.get krm rfl) eG7.symm))))))))))
              have hG7t : (I426 rm 7).toInt = G7.toInt := congrArg Int32.toInt hG7
              have hG8 : I426 rm 8 = G8 := (Eq.trans (up2_at (Or.inr (by decide)) eI426) (Eq.trans (up2_kk eI422 hk420 krm (by decide)) (Eq.trans (up2_kk eI419 hk415 krm (by decide)) (Eq.trans (hf411.get krm rfl) (Eq.trans (hf407.get krm rfl) (Eq.trans (hf374.get krm rfl) (Eq.trans (hf369.get krm rfl) (Eq.trans (hf367.get krm rfl) (Eq.trans (hf100.get krm rfl) (Eq.trans (hf4.get krm rfl) eG8.symm))))))))))
              have hG8t : (I426 rm 8).toInt = G8.toInt := congrArg Int32.toInt hG8
              have hG9 : I426 rm 9 = x425_ := (by rw [eI426]; exact up2_self _ _ _ _)
              have hG9t : (I426 rm 9).toInt = x425_.toInt := congrArg Int32.toInt hG9
              have hGN : I426 rm 10 = N1 := (Eq.trans (up2_at (Or.inr (by decide)) eI426) (Eq.trans (up2_kk eI422 hk420 krm (by decide)) (Eq.trans (up2_kk eI419 hk415 krm (by decide)) (Eq.trans (hf411.get krm rfl) (Eq.trans (hf407.get krm rfl) (Eq.trans (hf374.get krm rfl) (Eq.trans (hf369.get krm rfl) (Eq.trans (hf367.get krm rfl) eN1.symm))))))))
              have hGNt : (I426 rm 10).toInt = N1.toInt := congrArg Int32.toInt hGN
              have hv8 : I426 a0 8 = A9 := (Eq.trans (up2_kk eI426 krm ka0 (by decide)) (Eq.trans (up2_kk eI422 hk420 ka0 (by decide)) (Eq.trans (up2_kk eI419 hk415 ka0 (by decide)) eA9.symm)))
              have hv8t : (I426 a0 8).toInt = A9.toInt := congrArg Int32.toInt hv8
              have hv9 : I426 a0 9 = x412_ := (Eq.trans (up2_kk eI426 krm ka0 (by decide)) (Eq.trans (up2_kk eI422 hk420 ka0 (by decide)) (Eq.trans (up2_kk eI419 hk415 ka0 (by decide)) e412.symm)))
              have hv9t : (I426 a0 9).toInt = x412_.toInt := congrArg Int32.toInt hv9
              exact r_vret hC hQ hlk hr (by decide) (by decide) dX10_readKnower_167 ⟨_, _, rfl, rfl, ⟨hs426, hF426, hFJ411, (by first | (left; omega) | (right; omega)), (by omega), (by omega), (by omega)⟩⟩
            · have hG3 : I411 rm 3 = G3 := (Eq.trans (hf411.get krm rfl) (Eq.trans (hf407.get krm rfl) (Eq.trans (hf374.get krm rfl) (Eq.trans (hf369.get krm rfl) (Eq.trans (hf367.get krm rfl) (Eq.trans (hf100.get krm rfl) (Eq.trans (hf4.get krm rfl) eG3.symm)))))))
              have hG3t : (I411 rm 3).toInt = G3.toInt := congrArg Int32.toInt hG3
              have hG4 : I411 rm 4 = G4 := (Eq.trans (hf411.get krm rfl) (Eq.trans (hf407.get krm rfl) (Eq.trans (hf374.get krm rfl) (Eq.trans (hf369.get krm rfl) (Eq.trans (hf367.get krm rfl) (Eq.trans (hf100.get krm rfl) (Eq.trans (hf4.get krm rfl) eG4.symm)))))))
              have hG4t : (I411 rm 4).toInt = G4.toInt := congrArg Int32.toInt hG4
              have hG7 : I411 rm 7 = G7 := (Eq.trans (hf411.get krm rfl) (Eq.trans (hf407.get krm rfl) (Eq.trans (hf374.get krm rfl) (Eq.trans (hf369.get krm rfl) (Eq.trans (hf367.get krm rfl) (Eq.trans (hf100.get krm rfl) (Eq.trans (hf4.get krm rfl) eG7.symm)))))))
              have hG7t : (I411 rm 7).toInt = G7.toInt := congrArg Int32.toInt hG7
              have hG8 : I411 rm 8 = G8 := (Eq.trans (hf411.get krm rfl) (Eq.trans (hf407.get krm rfl) (Eq.trans (hf374.get krm rfl) (Eq.trans (hf369.get krm rfl) (Eq.trans (hf367.get krm rfl) (Eq.trans (hf100.get krm rfl) (Eq.trans (hf4.get krm rfl) eG8.symm)))))))
              have hG8t : (I411 rm 8).toInt = G8.toInt := congrArg Int32.toInt hG8
              have hG9 : I411 rm 9 = x98_ := (Eq.trans (hf411.get krm rfl) (Eq.trans (hf407.get krm rfl) (Eq.trans (hf374.get krm rfl) (Eq.trans (hf369.get krm rfl) (Eq.trans (hf367.get krm rfl) (Eq.trans (hf100.get krm rfl) e98.symm))))))
              have hG9t : (I411 rm 9).toInt = x98_.toInt := congrArg Int32.toInt hG9
              have hGN : I411 rm 10 = N1 := (Eq.trans (hf411.get krm rfl) (Eq.trans (hf407.get krm rfl) (Eq.trans (hf374.get krm rfl) (Eq.trans (hf369.get krm rfl) (Eq.trans (hf367.get krm rfl) eN1.symm)))))
              have hGNt : (I411 rm 10).toInt = N1.toInt := congrArg Int32.toInt hGN
              have hv8 : I411 a0 8 = A9 := eA9.symm
              have hv8t : (I411 a0 8).toInt = A9.toInt := congrArg Int32.toInt hv8
              have hv9 : I411 a0 9 = x412_ := e412.symm
              have hv9t : (I411 a0 9).toInt = x412_.toInt := congrArg Int32.toInt hv9
              exact r_vret hC hQ hlk hr (by decide) (by decide) dX10_readKnower_113 ⟨_, _, rfl, rfl, ⟨hs411, hF411, hFJ411, (by first | (left; omega) | (right; omega)), (by omega), (by omega), (by omega)⟩⟩
          · refine r_aload_n hC dX10_readKnower_84 1 rfl ?_
            refine r_iconst hC (v := (2)) dX10_readKnower_85 (by decide) (by decide) (fun x427_ e427 t427 => ?_)
            have md428 : (I374 a0 9).toInt = 5 := by omega
            refine r_callV hC (As := [.int x427_]) (rest := []) (ci := 10) (c_X10_wrong g (xL X) K len I374 J369 R hs374 a0 ka0 x427_) mT_5_236 mT_1_10 mT_5_233 mT_5_235 mP_55 okX10_wrong ⟨by decide, by decide⟩ rfl (by show kO (K a0) = _; rw [ka0]; rfl) rfl rfl (Nat.le_of_ble_eq_true rfl) ⟨by decide, by decide⟩ dX10_readKnower_86 (aV1 (F := fun st M => P g X 3 89 [(1, .int x376_), (0, .ref a0)] st _ _ M) (M := (K, len, I374, J369, R)) fun I429 h429 => ?_)
            obtain ⟨hs429, hf429, k429_0, k429_1⟩ := h429
            show P g X 3 89 [(1, .int x376_), (0, .ref a0)] [] _ _ (K, len, I429, J369, R)
            have hF429 : Fr K [(10, 9), (10, 10), (11, 8), (11, 9), (11, 10), (11, 11), (11, 12), (11, 13), (80, 999), (81, 999), (83, 999), (84, 999)] I I429 := hF374.trans hf429 rfl rfl
            clear md428
            refine r_aload_n hC dX10_readKnower_89 1 rfl ?_
            have md430 : (I429 a0 9).toInt = 5 := by omega
            refine r_callV hC (As := []) (rest := []) (ci := 10) (c_X10_goesOn g (xL X) K len I429 J369 R hs429 a0 ka0) mT_5_199 mT_1_10 mT_5_196 mT_5_198 mP_49 okX10_goesOn ⟨by decide, by decide⟩ rfl (by show kO (K a0) = _; rw [ka0]; rfl) rfl rfl (Nat.le_of_ble_eq_true rfl) ⟨by decide, by decide⟩ dX10_readKnower_90 (aV2 (F := fun st M => P g X 3 93 [(1, .int x376_), (0, .ref a0)] st _ _ M) (M := (K, len, I429, J369, R)) fun I431 J431 h431 => ?_)
            obtain ⟨hs431, hf431, hfj431, k431_0, k431_1, k431_2, k431_3⟩ := h431
            show P g X 3 93 [(1, .int x376_), (0, .ref a0)] [] _ _ (K, len, I431, J431, R)
            have hF431 : Fr K [(10, 9), (10, 10), (11, 8), (11, 9), (11, 10), (11, 11), (11, 12), (11, 13), (80, 999), (81, 999), (83, 999), (84, 999)] I I431 := hF429.trans hf431 rfl rfl
            have hFJ431 : Fr K [(11, 14), (82, 999)] J J431 := hFJ369.trans hfj431 rfl rfl
            have sf431 := k431_0 md430
            clear k431_0 k431_1 k431_3 md430
            refine r_aload_n hC dX10_readKnower_93 1 rfl ?_
            refine r_ldcwS hC (i := 59) (by decide) rfl rfl dX10_readKnower_94 ?_
            refine r_iconst hC (v := (0)) dX10_readKnower_97 (by decide) (by decide) (fun x432_ e432 t432 => ?_)
            refine r_sipush hC (v := (999)) dX10_readKnower_98 (by decide) (by decide) (fun x433_ e433 t433 => ?_)
            have md434 : (I431 a0 9).toInt = 5 := by omega
            refine r_callV hC (As := [.ref (g.2.2.1 59), .int x432_, .int x433_]) (rest := []) (ci := 10) (c_X10_readPart g (xL X) K len I431 J431 R hs431 a0 ka0 59 (by decide) x432_ x433_) mT_6_1 mT_1_10 mT_5_238 mT_6_0 mP_56 okX10_readPart ⟨by decide, by decide⟩ rfl (by show kO (K a0) = _; rw [ka0]; rfl) rfl rfl (Nat.le_of_ble_eq_true rfl) ⟨by decide, by decide⟩ dX10_readKnower_101 (aI2 (F := fun st M => P g X 3 104 [(1, .int x376_), (0, .ref a0)] st _ _ M) (M := (K, len, I431, J431, R)) fun x435_ I435 J435 h435 => ?_)
            obtain ⟨hs435, hf435, hfj435, k435_0, k435_1, k435_2, k435_3⟩ := h435
            show P g X 3 104 [(1, .int x376_), (0, .ref a0)] [.int x435_] _ _ (K, len, I435, J435, R)
            have hF435 : Fr K [(10, 9), (10, 10), (11, 8), (11, 9), (11, 10), (11, 11), (11, 12), (11, 13), (80, 999), (81, 999), (83, 999), (84, 999)] I I435 := hF431.trans hf435 rfl rfl
            have hFJ435 : Fr K [(11, 14), (82, 999)] J J435 := hFJ431.trans hfj435 rfl rfl
            have sf435 := k435_0 md434
            clear k435_0 k435_1 k435_3 md434 sf431
            refine r_istore_n hC (lv' := [(2, .int x435_), (1, .int x376_), (0, .ref a0)]) dX10_readKnower_104 (by decide) rfl ?_
            refine r_aload_n hC dX10_readKnower_105 2 rfl ?_
            obtain ⟨A9, eA9⟩ : ∃ z : Int32, z = I435 a0 8 := ⟨_, rfl⟩
            have fA9 : A9.toInt = (I435 a0 8).toInt := by rw [eA9]
            have rA9 := hs435.rng ka0 rfl eA9
            refine r_geti hC 9 (ci := 10) rfl u10_in (by decide) mT_5_4 dX10_readKnower_106 ka0 rfl rfl (fun x436_ e436 => ?_)
            have f436 : x436_.toInt = (I435 a0 9).toInt := by rw [e436]
            refine r_iconst hC (v := (5)) dX10_readKnower_109 (by decide) (by decide) (fun x437_ e437 t437 => ?_)
            refine r_icmp_ne hC (tgt := 114) dX10_readKnower_110 (by decide) (fun c438 => ?_) (fun c438 => ?_)
            · refine r_aload_n hC dX10_readKnower_114 2 rfl ?_
              refine r_getr hC 4 (ci := 10) rfl u10_in (by decide) mT_4_239 dX10_readKnower_115 ka0 rfl rfl hbr ?_
              obtain ⟨a439_, hb439, hk439, hn439⟩ := hs435.row krm 23 80 4 (by decide) (by decide)
              refine r_getrN hC 23 (ci := 9) rfl u9_in (by decide) nF_23 dX10_readKnower_118 krm rfl rfl hb439 ?_
              refine r_aload_n hC dX10_readKnower_121 2 rfl ?_
              refine r_getr hC 4 (ci := 10) rfl u10_in (by decide) mT_4_239 dX10_readKnower_122 ka0 rfl rfl hbr ?_
              refine r_getiN hC 9 (ci := 9) rfl u9_in (by decide) nF_9 dX10_readKnower_125 krm rfl rfl (fun x440_ e440 => ?_)
              have r440 := hs435.rng krm rfl e440
              have f440 : x440_.toInt = (I435 rm 9).toInt := by rw [e440]
              have w440 : x440_ = x98_ := by rw [e440]; exact (Eq.trans (hf435.get krm rfl) (Eq.trans (hf431.get krm rfl) (Eq.trans (hf429.get krm rfl) (Eq.trans (hf374.get krm rfl) (Eq.trans (hf369.get krm rfl) (Eq.trans (hf367.get krm rfl) (Eq.trans (hf100.get krm rfl) e98.symm)))))))
              have wt440 : x440_.toInt = x98_.toInt := by rw [w440]
              refine r_aload_n hC dX10_readKnower_128 2 rfl ?_
              refine r_getr hC 4 (ci := 10) rfl u10_in (by decide) mT_4_239 dX10_readKnower_129 ka0 rfl rfl hbr ?_
              obtain ⟨a441_, hb441, hk441, hn441⟩ := hs435.row krm 27 84 19 (by decide) (by decide)
              refine r_getrN hC 27 (ci := 9) rfl u9_in (by decide) nF_27 dX10_readKnower_132 krm rfl rfl hb441 ?_
              refine r_iload_n hC dX10_readKnower_135 1 rfl ?_
              refine x_iaload hC hk441 hn441 (by decide) rfl rfl dX10_readKnower_136 (by omega) (by omega) (fun x442_ e442 => ?_)
              refine x_iastore hC hk439 hn439 (by decide) rfl rfl dX10_readKnower_137 (by omega) (by omega) (fun I443 eI443 => ?_)
              have hs443 := hs435.put0 eI443 hk439 (rng_arr (by decide) _) rfl (xF_arr (by decide) _) (by decide)
              have hF443 := hF435.put eI443 hk439 (inS_arr rfl _)
              refine r_aload_n hC dX10_readKnower_138 2 rfl ?_
              refine r_getr hC 4 (ci := 10) rfl u10_in (by decide) mT_4_239 dX10_readKnower_139 ka0 rfl rfl hbr ?_
              obtain ⟨a444_, hb444, hk444, hn444⟩ := hs443.row krm 24 81 4 (by decide) (by decide)
              refine r_getrN hC 24 (ci := 9) rfl u9_in (by decide) nF_24 dX10_readKnower_142 krm rfl rfl hb444 ?_
              refine r_aload_n hC dX10_readKnower_145 2 rfl ?_
              refine r_getr hC 4 (ci := 10) rfl u10_in (by decide) mT_4_239 dX10_readKnower_146 ka0 rfl rfl hbr ?_
              refine r_getiN hC 9 (ci := 9) rfl u9_in (by decide) nF_9 dX10_readKnower_149 krm rfl rfl (fun x445_ e445 => ?_)
              have r445 := hs443.rng krm rfl e445
              have f445 : x445_.toInt = (I443 rm 9).toInt := by rw [e445]
              have w445 : x445_ = x440_ := by rw [e445]; exact (Eq.trans (up2_kk eI443 hk439 krm (by decide)) e440.symm)
              have wt445 : x445_.toInt = x440_.toInt := by rw [w445]
              refine r_iload_n hC dX10_readKnower_152 0 rfl ?_
              refine x_iastore hC hk444 hn444 (by decide) rfl rfl dX10_readKnower_153 (by omega) (by omega) (fun I446 eI446 => ?_)
              have hs446 := hs443.put0 eI446 hk444 (rng_arr (by decide) _) rfl (xF_arr (by decide) _) (by decide)
              have hF446 := hF443.put eI446 hk444 (inS_arr rfl _)
              refine r_aload_n hC dX10_readKnower_154 2 rfl ?_
              refine r_getr hC 4 (ci := 10) rfl u10_in (by decide) mT_4_239 dX10_readKnower_155 ka0 rfl rfl hbr ?_
              refine r_dup hC dX10_readKnower_158 rfl ?_
              refine r_getiN hC 9 (ci := 9) rfl u9_in (by decide) nF_9 dX10_readKnower_159 krm rfl rfl (fun x447_ e447 => ?_)
              have r447 := hs446.rng krm rfl e447
              have f447 : x447_.toInt = (I446 rm 9).toInt := by rw [e447]
              have w447 : x447_ = x445_ := by rw [e447]; exact (Eq.trans (up2_kk eI446 hk444 krm (by decide)) e445.symm)
              have wt447 : x447_.toInt = x445_.toInt := by rw [w447]
              refine r_iconst hC (v := (1)) dX10_readKnower_162 (by decide) (by decide) (fun x448_ e448 t448 => ?_)
              refine r_iadd hC dX10_readKnower_163 (fun x449_ e449 => ?_)
              try have t449 : x449_.toInt = x447_.toInt + x448_.toInt := by rw [e449]; exact ti_add (by omega) (by omega)
              refine r_putiN hC 9 (ci := 9) rfl u9_in tyX9_ok nmX9 (by decide) nF_9 rfl rfl rfl dX10_readKnower_164 krm rfl rfl (fun I450 eI450 => ?_)
              have hs450 := hs446.put1 eI450 krm rfl (by omega) (by omega) rfl rfl (by decide)
              have hF450 := hF446.put eI450 krm rfl
              have hG3 : I450 rm 3 = G3 := (Eq.trans (up2_at (Or.inr (by decide)) eI450) (Eq.trans (up2_kk eI446 hk444 krm (by decide)) (Eq.trans (up2_kk eI443 hk439 krm (by decide)) (Eq.trans (hf435.get krm rfl) (Eq.trans (hf431.get krm rfl) (Eq.trans (hf429.get krm rfl) (Eq.trans (hf374.get krm rfl) (Eq.trans (hf369.get krm rfl) (Eq.trans (hf367.get krm rfl) (Eq.trans (hf100.get krm rfl) (Eq.trans (hf4.get krm rfl) eG3.symm)))))))))))
              have hG3t : (I450 rm 3).toInt = G3.toInt := congrArg Int32.toInt hG3
              have hG4 : I450 rm 4 = G4 := (Eq.trans (up2_at (Or.inr (by decide)) eI450) (Eq.trans (up2_kk eI446 hk444 krm (by decide)) (Eq.trans (up2_kk eI443 hk439 krm (by decide)) (Eq.trans (hf435.get krm rfl) (Eq.trans (hf431.get krm rfl) (Eq.trans (hf429.get krm rfl) (Eq.trans (hf374.get krm rfl) (Eq.trans (hf369.get krm rfl) (Eq.trans (hf367.get krm rfl) (Eq.trans (hf100.get krm rfl) (Eq.trans (hf4.get krm rfl) eG4.symm)))))))))))
              have hG4t : (I450 rm 4).toInt = G4.toInt := congrArg Int32.toInt hG4
              have hG7 : I450 rm 7 = G7 := (Eq.trans (up2_at (Or.inr (by decide)) eI450) (Eq.trans (up2_kk eI446 hk444 krm (by decide)) (Eq.trans (up2_kk eI443 hk439 krm (by decide)) (Eq.trans (hf435.get krm rfl) (Eq.trans (hf431.get krm rfl) (Eq.trans (hf429.get krm rfl) (Eq.trans (hf374.get krm rfl) (Eq.trans (hf369.get krm rfl) (Eq.trans (hf367.get krm rfl) (Eq.trans (hf100.get krm rfl) (Eq.trans (hf4.get krm rfl) eG7.symm)))))))))))
              have hG7t : (I450 rm 7).toInt = G7.toInt := congrArg Int32.toInt hG7
              have hG8 : I450 rm 8 = G8 := (Eq.trans (up2_at (Or.inr (by decide)) eI450) (Eq.trans (up2_kk eI446 hk444 krm (by decide)) (Eq.trans (up2_kk eI443 hk439 krm (by decide)) (Eq.trans (hf435.get krm rfl) (Eq.trans (hf431.get krm rfl) (Eq.trans (hf429.get krm rfl) (Eq.trans (hf374.get krm rfl) (Eq.trans (hf369.get krm rfl) (Eq.trans (hf367.get krm rfl) (Eq.trans (hf100.get krm rfl) (Eq.trans (hf4.get krm rfl) eG8.symm)))))))))))
              have hG8t : (I450 rm 8).toInt = G8.toInt := congrArg Int32.toInt hG8
              have hG9 : I450 rm 9 = x449_ := (by rw [eI450]; exact up2_self _ _ _ _)
              have hG9t : (I450 rm 9).toInt = x449_.toInt := congrArg Int32.toInt hG9
              have hGN : I450 rm 10 = N1 := (Eq.trans (up2_at (Or.inr (by decide)) eI450) (Eq.trans (up2_kk eI446 hk444 krm (by decide)) (Eq.trans (up2_kk eI443 hk439 krm (by decide)) (Eq.trans (hf435.get krm rfl) (Eq.trans (hf431.get krm rfl) (Eq.trans (hf429.get krm rfl) (Eq.trans (hf374.get krm rfl) (Eq.trans (hf369.get krm rfl) (Eq.trans (hf367.get krm rfl) eN1.symm)))))))))
              have hGNt : (I450 rm 10).toInt = N1.toInt := congrArg Int32.toInt hGN
              have hv8 : I450 a0 8 = A9 := (Eq.trans (up2_kk eI450 krm ka0 (by decide)) (Eq.trans (up2_kk eI446 hk444 ka0 (by decide)) (Eq.trans (up2_kk eI443 hk439 ka0 (by decide)) eA9.symm)))
              have hv8t : (I450 a0 8).toInt = A9.toInt := congrArg Int32.toInt hv8
              have hv9 : I450 a0 9 = x436_ := (Eq.trans (up2_kk eI450 krm ka0 (by decide)) (Eq.trans (up2_kk eI446 hk444 ka0 (by decide)) (Eq.trans (up2_kk eI443 hk439 ka0 (by decide)) e436.symm)))
              have hv9t : (I450 a0 9).toInt = x436_.toInt := congrArg Int32.toInt hv9
              exact r_vret hC hQ hlk hr (by decide) (by decide) dX10_readKnower_167 ⟨_, _, rfl, rfl, ⟨hs450, hF450, hFJ435, (by first | (left; omega) | (right; omega)), (by omega), (by omega), (by omega)⟩⟩
            · have hG3 : I435 rm 3 = G3 := (Eq.trans (hf435.get krm rfl) (Eq.trans (hf431.get krm rfl) (Eq.trans (hf429.get krm rfl) (Eq.trans (hf374.get krm rfl) (Eq.trans (hf369.get krm rfl) (Eq.trans (hf367.get krm rfl) (Eq.trans (hf100.get krm rfl) (Eq.trans (hf4.get krm rfl) eG3.symm))))))))
              have hG3t : (I435 rm 3).toInt = G3.toInt := congrArg Int32.toInt hG3
              have hG4 : I435 rm 4 = G4 := (Eq.trans (hf435.get krm rfl) (Eq.trans (hf431.get krm rfl) (Eq.trans (hf429.get krm rfl) (Eq.trans (hf374.get krm rfl) (Eq.trans (hf369.get krm rfl) (Eq.trans (hf367.get krm rfl) (Eq.trans (hf100.get krm rfl) (Eq.trans (hf4.get krm rfl) eG4.symm))))))))
              have hG4t : (I435 rm 4).toInt = G4.toInt := congrArg Int32.toInt hG4
              have hG7 : I435 rm 7 = G7 := (Eq.trans (hf435.get krm rfl) (Eq.trans (hf431.get krm rfl) (Eq.trans (hf429.get krm rfl) (Eq.trans (hf374.get krm rfl) (Eq.trans (hf369.get krm rfl) (Eq.trans (hf367.get krm rfl) (Eq.trans (hf100.get krm rfl) (Eq.trans (hf4.get krm rfl) eG7.symm))))))))
              have hG7t : (I435 rm 7).toInt = G7.toInt := congrArg Int32.toInt hG7
              have hG8 : I435 rm 8 = G8 := (Eq.trans (hf435.get krm rfl) (Eq.trans (hf431.get krm rfl) (Eq.trans (hf429.get krm rfl) (Eq.trans (hf374.get krm rfl) (Eq.trans (hf369.get krm rfl) (Eq.trans (hf367.get krm rfl) (Eq.trans (hf100.get krm rfl) (Eq.trans (hf4.get krm rfl) eG8.symm))))))))
              have hG8t : (I435 rm 8).toInt = G8.toInt := congrArg Int32.toInt hG8
              have hG9 : I435 rm 9 = x98_ := (Eq.trans (hf435.get krm rfl) (Eq.trans (hf431.get krm rfl) (Eq.trans (hf429.get krm rfl) (Eq.trans (hf374.get krm rfl) (Eq.trans (hf369.get krm rfl) (Eq.trans (hf367.get krm rfl) (Eq.trans (hf100.get krm rfl) e98.symm)))))))
              have hG9t : (I435 rm 9).toInt = x98_.toInt := congrArg Int32.toInt hG9
              have hGN : I435 rm 10 = N1 := (Eq.trans (hf435.get krm rfl) (Eq.trans (hf431.get krm rfl) (Eq.trans (hf429.get krm rfl) (Eq.trans (hf374.get krm rfl) (Eq.trans (hf369.get krm rfl) (Eq.trans (hf367.get krm rfl) eN1.symm))))))
              have hGNt : (I435 rm 10).toInt = N1.toInt := congrArg Int32.toInt hGN
              have hv8 : I435 a0 8 = A9 := eA9.symm
              have hv8t : (I435 a0 8).toInt = A9.toInt := congrArg Int32.toInt hv8
              have hv9 : I435 a0 9 = x436_ := e436.symm
              have hv9t : (I435 a0 9).toInt = x436_.toInt := congrArg Int32.toInt hv9
              exact r_vret hC hQ hlk hr (by decide) (by decide) dX10_readKnower_113 ⟨_, _, rfl, rfl, ⟨hs435, hF435, hFJ435, (by first | (left; omega) | (right; omega)), (by omega), (by omega), (by omega)⟩⟩
