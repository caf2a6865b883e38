abbrev rmX10_readLake : Room := { frames := 7, cells := 0, slots := 0, locals := 152 }
abbrev rmX10_readPeg : Room := { frames := 8, cells := 0, slots := 0, locals := 171 }
abbrev rmX10_readFrom : Room := { frames := 7, cells := 0, slots := 0, locals := 152 }
abbrev rmX10_readRain : Room := { frames := 7, cells := 0, slots := 0, locals := 152 }
abbrev rmX10_readStory : Room := { frames := 8, cells := 0, slots := 0, locals := 171 }
abbrev rmX10_readVillage : Room := { frames := 8, cells := 0, slots := 0, locals := 171 }
abbrev rmX10_readKnower : Room := { frames := 8, cells := 0, slots := 0, locals := 171 }
abbrev rmX10_readLine : Room := { frames := 9, cells := 0, slots := 0, locals := 195 }
abbrev rmX10_readHill : Room := { frames := 10, cells := 0, slots := 0, locals := 215 }
set_option maxHeartbeats 4000000 in
set_option maxRecDepth 100000 in
theorem c_X10_readLake (g : GG) (l : Launch) (K len : Nat → Nat) (I : Nat → Nat → Int32) (J : Nat → Nat → Int64) (R : Nat → Nat → Option Nat) (hs : Sf K len I R) (a0 : Nat) (ka0 : K a0 = 11) (rm : Nat) (hbr : R a0 4 = some rm) (krm : K rm = 10) (p0 : (I a0 9).toInt = 2) (p1 : (I rm 10).toInt ≤ (I rm 3).toInt + (I rm 7).toInt + (I rm 8).toInt + (I rm 9).toInt) (p2 : (I rm 4).toInt ≤ 8) : Ct g l yX10_readLake cX10_readLake 4 (Option.none : Option Jvm.ClassFile.FieldType) rmX10_readLake [.ref a0] (K, len, I, J, R) (pV2 (K, len, I, J, R) (fun I' J' => Sf K len I' R ∧ Fr K [(10, 0), (10, 1), (10, 2), (11, 8), (11, 9), (11, 10), (11, 11), (11, 12), (11, 13)] I I' ∧ Fr K [(11, 14)] J J' ∧ ((I' a0 9).toInt = 5 ∨ (I' rm 10).toInt ≤ (I' rm 3).toInt + (I' rm 7).toInt + (I' rm 8).toInt + (I' rm 9).toInt) ∧ ((I' rm 4).toInt ≤ 8) ∧ ((I a0 8).toInt ≤ (I' a0 8).toInt) ∧ ((I' a0 9).toInt = 4 → (I a0 8).toInt < (I' a0 8).toInt))) := by
  refine Ct_intro (by decide +kernel) (Nat.le_of_ble_eq_true rfl) (fun X hC hL hKK hNm hr hlk hQ => ?_)
  subst hL
  have hC : Cx g X cX10_readLake "HillTapModel" 4 rmX10_readLake := hC
  show P g X 4 0 [(0, .ref a0)] [] 0 0 (K, len, I, J, R)
  have hF : Fr K [(10, 0), (10, 1), (10, 2), (11, 8), (11, 9), (11, 10), (11, 11), (11, 12), (11, 13)] I I := Fr.refl
  have hFJ : Fr K [(11, 14)] J J := Fr.refl
  obtain ⟨G3, eG3⟩ : ∃ z : Int32, z = I rm 3 := ⟨_, rfl⟩
  have fG3 : G3.toInt = (I rm 3).toInt := by rw [eG3]
  have rG3 := hs.rng krm rfl eG3
  obtain ⟨G4, eG4⟩ : ∃ z : Int32, z = I rm 4 := ⟨_, rfl⟩
  have fG4 : G4.toInt = (I rm 4).toInt := by rw [eG4]
  have rG4 := hs.rng krm rfl eG4
  obtain ⟨G7, eG7⟩ : ∃ z : Int32, z = I rm 7 := ⟨_, rfl⟩
  have fG7 : G7.toInt = (I rm 7).toInt := by rw [eG7]
  have rG7 := hs.rng krm rfl eG7
  obtain ⟨G8, eG8⟩ : ∃ z : Int32, z = I rm 8 := ⟨_, rfl⟩
  have fG8 : G8.toInt = (I rm 8).toInt := by rw [eG8]
  have rG8 := hs.rng krm rfl eG8
  obtain ⟨G9, eG9⟩ : ∃ z : Int32, z = I rm 9 := ⟨_, rfl⟩
  have fG9 : G9.toInt = (I rm 9).toInt := by rw [eG9]
  have rG9 := hs.rng krm rfl eG9
  obtain ⟨GN, eGN⟩ : ∃ z : Int32, z = I rm 10 := ⟨_, rfl⟩
  have fGN : GN.toInt = (I rm 10).toInt := by rw [eGN]
  have rGN := hs.rng krm rfl eGN
  obtain ⟨A0, eA0⟩ : ∃ z : Int32, z = I a0 8 := ⟨_, rfl⟩
  have fA0 : A0.toInt = (I a0 8).toInt := by rw [eA0]
  have rA0 := hs.rng ka0 rfl eA0
  obtain ⟨T0, eT0⟩ : ∃ z : Int32, z = I a0 9 := ⟨_, rfl⟩
  have fT0 : T0.toInt = (I a0 9).toInt := by rw [eT0]
  refine r_aload_n hC dX10_readLake_0 0 rfl ?_
  refine r_getr hC 4 (ci := 10) rfl u10_in (by decide) mT_4_239 dX10_readLake_1 ka0 rfl rfl hbr ?_
  refine r_getiN hC 0 (ci := 9) rfl u9_in (by decide) nF_0 dX10_readLake_4 krm rfl rfl (fun x1_ e1 => ?_)
  have f1 : x1_.toInt = (I rm 0).toInt := by rw [e1]
  refine r_iconst hC (v := (-1)) dX10_readLake_7 (by decide) (by decide) (fun x2_ e2 t2 => ?_)
  refine r_icmp_eq hC (tgt := 16) dX10_readLake_8 (by decide) (fun c3 => ?_) (fun c3 => ?_)
  · refine r_aload_n hC dX10_readLake_16 0 rfl ?_
    refine r_callV hC (As := []) (rest := []) (ci := 10) (c_X10_goesOn g (xL X) K len I J R hs a0 ka0) mT_5_199 mT_1_10 mT_5_196 mT_5_198 mP_49 okX10_goesOn ⟨by decide, by decide⟩ rfl (by show kO (K a0) = _; rw [ka0]; rfl) rfl rfl (Nat.le_of_ble_eq_true rfl) ⟨by decide, by decide⟩ dX10_readLake_17 (aV2 (F := fun st M => P g X 4 20 [(0, .ref a0)] st _ _ M) (M := (K, len, I, J, R)) fun I4 J4 h4 => ?_)
    obtain ⟨hs4, hf4, hfj4, k4_0, k4_1, k4_2, k4_3⟩ := h4
    show P g X 4 20 [(0, .ref a0)] [] _ _ (K, len, I4, J4, R)
    have hF4 : Fr K [(10, 0), (10, 1), (10, 2), (11, 8), (11, 9), (11, 10), (11, 11), (11, 12), (11, 13)] I I4 := hF.trans hf4 rfl rfl
    have hFJ4 : Fr K [(11, 14)] J J4 := hFJ.trans hfj4 rfl rfl
    refine r_aload_n hC dX10_readLake_20 0 rfl ?_
    refine r_ldcS hC (i := 32) (by decide) rfl rfl dX10_readLake_21 ?_
    refine r_iconst hC (v := (0)) dX10_readLake_23 (by decide) (by decide) (fun x5_ e5 t5 => ?_)
    refine r_sipush hC (v := (500)) dX10_readLake_24 (by decide) (by decide) (fun x6_ e6 t6 => ?_)
    refine r_callV hC (As := [.ref (g.2.2.1 32), .int x5_, .int x6_]) (rest := []) (ci := 10) (c_X10_readPart g (xL X) K len I4 J4 R hs4 a0 ka0 32 (by decide) x5_ x6_) mT_6_1 mT_1_10 mT_5_238 mT_6_0 mP_56 okX10_readPart ⟨by decide, by decide⟩ rfl (by show kO (K a0) = _; rw [ka0]; rfl) rfl rfl (Nat.le_of_ble_eq_true rfl) ⟨by decide, by decide⟩ dX10_readLake_27 (aI2 (F := fun st M => P g X 4 30 [(0, .ref a0)] st _ _ M) (M := (K, len, I4, J4, R)) fun x7_ I7 J7 h7 => ?_)
    obtain ⟨hs7, hf7, hfj7, k7_0, k7_1, k7_2, k7_3⟩ := h7
    show P g X 4 30 [(0, .ref a0)] [.int x7_] _ _ (K, len, I7, J7, R)
    have hF7 : Fr K [(10, 0), (10, 1), (10, 2), (11, 8), (11, 9), (11, 10), (11, 11), (11, 12), (11, 13)] I I7 := hF4.trans hf7 rfl rfl
    have hFJ7 : Fr K [(11, 14)] J J7 := hFJ4.trans hfj7 rfl rfl
    refine r_istore_n hC (lv' := [(1, .int x7_), (0, .ref a0)]) dX10_readLake_30 (by decide) rfl ?_
    refine r_aload_n hC dX10_readLake_31 1 rfl ?_
    refine r_ldcS hC (i := 33) (by decide) rfl rfl dX10_readLake_32 ?_
    refine r_iconst hC (v := (1)) dX10_readLake_34 (by decide) (by decide) (fun x8_ e8 t8 => ?_)
    refine r_bipush hC (v := (50)) dX10_readLake_35 (by decide) (by decide) (fun x9_ e9 t9 => ?_)
    refine r_callV hC (As := [.ref (g.2.2.1 33), .int x8_, .int x9_]) (rest := []) (ci := 10) (c_X10_readPart g (xL X) K len I7 J7 R hs7 a0 ka0 33 (by decide) x8_ x9_) mT_6_1 mT_1_10 mT_5_238 mT_6_0 mP_56 okX10_readPart ⟨by decide, by decide⟩ rfl (by show kO (K a0) = _; rw [ka0]; rfl) rfl rfl (Nat.le_of_ble_eq_true rfl) ⟨by decide, by decide⟩ dX10_readLake_37 (aI2 (F := fun st M => P g X 4 40 [(1, .int x7_), (0, .ref a0)] st _ _ M) (M := (K, len, I7, J7, R)) fun x10_ I10 J10 h10 => ?_)
    obtain ⟨hs10, hf10, hfj10, k10_0, k10_1, k10_2, k10_3⟩ := h10
    show P g X 4 40 [(1, .int x7_), (0, .ref a0)] [.int x10_] _ _ (K, len, I10, J10, R)
    have hF10 : Fr K [(10, 0), (10, 1), (10, 2), (11, 8), (11, 9), (11, 10), (11, 11), (11, 12), (11, 13)] I I10 := hF7.trans hf10 rfl rfl
    have hFJ10 : Fr K [(11, 14)] J J10 := hFJ7.trans hfj10 rfl rfl
    refine r_istore_n hC (lv' := [(2, .int x10_), (1, .int x7_), (0, .ref a0)]) dX10_readLake_40 (by decide) rfl ?_
    refine r_aload_n hC dX10_readLake_41 2 rfl ?_
    refine r_ldcS hC (i := 34) (by decide) rfl rfl dX10_readLake_42 ?_
    refine r_iload_n hC dX10_readLake_44 1 rfl ?_
    refine r_iconst hC (v := (1)) dX10_readLake_45 (by decide) (by decide) (fun x11_ e11 t11 => ?_)
    refine r_icmp_le hC (tgt := 53) dX10_readLake_46 (by decide) (fun c12 => ?_) (fun c12 => ?_)
    · refine r_iconst hC (v := (1)) dX10_readLake_53 (by decide) (by decide) (fun x13_ e13 t13 => ?_)
      refine r_sipush hC (v := (999)) dX10_readLake_54 (by decide) (by decide) (fun x14_ e14 t14 => ?_)
      refine r_callV hC (As := [.ref (g.2.2.1 34), .int x13_, .int x14_]) (rest := []) (ci := 10) (c_X10_readPart g (xL X) K len I10 J10 R hs10 a0 ka0 34 (by decide) x13_ x14_) mT_6_1 mT_1_10 mT_5_238 mT_6_0 mP_56 okX10_readPart ⟨by decide, by decide⟩ rfl (by show kO (K a0) = _; rw [ka0]; rfl) rfl rfl (Nat.le_of_ble_eq_true rfl) ⟨by decide, by decide⟩ dX10_readLake_57 (aI2 (F := fun st M => P g X 4 60 [(2, .int x10_), (1, .int x7_), (0, .ref a0)] st _ _ M) (M := (K, len, I10, J10, R)) fun x15_ I15 J15 h15 => ?_)
      obtain ⟨hs15, hf15, hfj15, k15_0, k15_1, k15_2, k15_3⟩ := h15
      show P g X 4 60 [(2, .int x10_), (1, .int x7_), (0, .ref a0)] [.int x15_] _ _ (K, len, I15, J15, R)
      have hF15 : Fr K [(10, 0), (10, 1), (10, 2), (11, 8), (11, 9), (11, 10), (11, 11), (11, 12), (11, 13)] I I15 := hF10.trans hf15 rfl rfl
      have hFJ15 : Fr K [(11, 14)] J J15 := hFJ10.trans hfj15 rfl rfl
      refine r_istore_n hC (lv' := [(3, .int x15_), (2, .int x10_), (1, .int x7_), (0, .ref a0)]) dX10_readLake_60 (by decide) rfl ?_
      refine r_aload_n hC dX10_readLake_61 3 rfl ?_
      obtain ⟨A9, eA9⟩ : ∃ z : Int32, z = I15 a0 8 := ⟨_, rfl⟩
      have fA9 : A9.toInt = (I15 a0 8).toInt := by rw [eA9]
      have rA9 := hs15.rng ka0 rfl eA9
      refine r_geti hC 9 (ci := 10) rfl u10_in (by decide) mT_5_4 dX10_readLake_62 ka0 rfl rfl (fun x16_ e16 => ?_)
      have f16 : x16_.toInt = (I15 a0 9).toInt := by rw [e16]
      refine r_iconst hC (v := (5)) dX10_readLake_65 (by decide) (by decide) (fun x17_ e17 t17 => ?_)
      refine r_icmp_ne hC (tgt := 70) dX10_readLake_66 (by decide) (fun c18 => ?_) (fun c18 => ?_)
      · refine r_aload_n hC dX10_readLake_70 3 rfl ?_
        refine r_getr hC 4 (ci := 10) rfl u10_in (by decide) mT_4_239 dX10_readLake_71 ka0 rfl rfl hbr ?_
        refine r_iload_n hC dX10_readLake_74 2 rfl ?_
        refine r_putiN hC 0 (ci := 9) rfl u9_in tyX9_ok nmX9 (by decide) nF_0 rfl rfl rfl dX10_readLake_75 krm rfl rfl (fun I19 eI19 => ?_)
        have hs19 := hs15.put0 eI19 krm rfl rfl rfl (by decide)
        have hF19 := hF15.put eI19 krm rfl
        refine r_aload_n hC dX10_readLake_78 3 rfl ?_
        refine r_getr hC 4 (ci := 10) rfl u10_in (by decide) mT_4_239 dX10_readLake_79 ka0 rfl rfl hbr ?_
        refine r_iload_n hC dX10_readLake_82 1 rfl ?_
        refine r_putiN hC 1 (ci := 9) rfl u9_in tyX9_ok nmX9 (by decide) nF_1 rfl rfl rfl dX10_readLake_83 krm rfl rfl (fun I20 eI20 => ?_)
        have hs20 := hs19.put0 eI20 krm rfl rfl rfl (by decide)
        have hF20 := hF19.put eI20 krm rfl
        refine r_aload_n hC dX10_readLake_86 3 rfl ?_
        refine r_getr hC 4 (ci := 10) rfl u10_in (by decide) mT_4_239 dX10_readLake_87 ka0 rfl rfl hbr ?_
        refine r_iload_n hC dX10_readLake_90 0 rfl ?_
        refine r_putiN hC 2 (ci := 9) rfl u9_in tyX9_ok nmX9 (by decide) nF_2 rfl rfl rfl dX10_readLake_91 krm rfl rfl (fun I21 eI21 => ?_)
        have hs21 := hs20.put0 eI21 krm rfl rfl rfl (by decide)
        have hF21 := hF20.put eI21 krm rfl
        have hG3 : I21 rm 3 = G3 := (Eq.trans (up2_at (Or.inr (by decide)) eI21) (Eq.trans (up2_at (Or.inr (by decide)) eI20) (Eq.trans (up2_at (Or.inr (by decide)) eI19) (Eq.trans (hf15.get krm rfl) (Eq.trans (hf10.get krm rfl) (Eq.trans (hf7.get krm rfl) (Eq.trans (hf4.get krm rfl) eG3.symm)))))))
        have hG3t : (I21 rm 3).toInt = G3.toInt := congrArg Int32.toInt hG3
        have hG4 : I21 rm 4 = G4 := (Eq.trans (up2_at (Or.inr (by decide)) eI21) (Eq.trans (up2_at (Or.inr (by decide)) eI20) (Eq.trans (up2_at (Or.inr (by decide)) eI19) (Eq.trans (hf15.get krm rfl) (Eq.trans (hf10.get krm rfl) (Eq.trans (hf7.get krm rfl) (Eq.trans (hf4.get krm rfl) eG4.symm)))))))
        have hG4t : (I21 rm 4).toInt = G4.toInt := congrArg Int32.toInt hG4
        have hG7 : I21 rm 7 = G7 := (Eq.trans (up2_at (Or.inr (by decide)) eI21) (Eq.trans (up2_at (Or.inr (by decide)) eI20) (Eq.trans (up2_at (Or.inr (by decide)) eI19) (Eq.trans (hf15.get krm rfl) (Eq.trans (hf10.get krm rfl) (Eq.trans (hf7.get krm rfl) (Eq.trans (hf4.get krm rfl) eG7.symm)))))))
        have hG7t : (I21 rm 7).toInt = G7.toInt := congrArg Int32.toInt hG7
        have hG8 : I21 rm 8 = G8 := (Eq.trans (up2_at (Or.inr (by decide)) eI21) (Eq.trans (up2_at (Or.inr (by decide)) eI20) (Eq.trans (up2_at (Or.inr (by decide)) eI19) (Eq.trans (hf15.get krm rfl) (Eq.trans (hf10.get krm rfl) (Eq.trans (hf7.get krm rfl) (Eq.trans (hf4.get krm rfl) eG8.symm)))))))
        have hG8t : (I21 rm 8).toInt = G8.toInt := congrArg Int32.toInt hG8
        have hG9 : I21 rm 9 = G9 := (Eq.trans (up2_at (Or.inr (by decide)) eI21) (Eq.trans (up2_at (Or.inr (by decide)) eI20) (Eq.trans (up2_at (Or.inr (by decide)) eI19) (Eq.trans (hf15.get krm rfl) (Eq.trans (hf10.get krm rfl) (Eq.trans (hf7.get krm rfl) (Eq.trans (hf4.get krm rfl) eG9.symm)))))))
        have hG9t : (I21 rm 9).toInt = G9.toInt := congrArg Int32.toInt hG9
        have hGN : I21 rm 10 = GN := (Eq.trans (up2_at (Or.inr (by decide)) eI21) (Eq.trans (up2_at (Or.inr (by decide)) eI20) (Eq.trans (up2_at (Or.inr (by decide)) eI19) (Eq.trans (hf15.get krm rfl) (Eq.trans (hf10.get krm rfl) (Eq.trans (hf7.get krm rfl) (Eq.trans (hf4.get krm rfl) eGN.symm)))))))
        have hGNt : (I21 rm 10).toInt = GN.toInt := congrArg Int32.toInt hGN
        have hv8 : I21 a0 8 = A9 := (Eq.trans (up2_kk eI21 krm ka0 (by decide)) (Eq.trans (up2_kk eI20 krm ka0 (by decide)) (Eq.trans (up2_kk eI19 krm ka0 (by decide)) eA9.symm)))
        have hv8t : (I21 a0 8).toInt = A9.toInt := congrArg Int32.toInt hv8
        have hv9 : I21 a0 9 = x16_ := (Eq.trans (up2_kk eI21 krm ka0 (by decide)) (Eq.trans (up2_kk eI20 krm ka0 (by decide)) (Eq.trans (up2_kk eI19 krm ka0 (by decide)) e16.symm)))
        have hv9t : (I21 a0 9).toInt = x16_.toInt := congrArg Int32.toInt hv9
        exact r_vret hC hQ hlk hr (by decide) (by decide) dX10_readLake_94 ⟨_, _, rfl, rfl, ⟨hs21, hF21, hFJ15, (by omega), (by omega), (by omega), (by omega)⟩⟩
      · have hG3 : I15 rm 3 = G3 := (Eq.trans (hf15.get krm rfl) (Eq.trans (hf10.get krm rfl) (Eq.trans (hf7.get krm rfl) (Eq.trans (hf4.get krm rfl) eG3.symm))))
        have hG3t : (I15 rm 3).toInt = G3.toInt := congrArg Int32.toInt hG3
        have hG4 : I15 rm 4 = G4 := (Eq.trans (hf15.get krm rfl) (Eq.trans (hf10.get krm rfl) (Eq.trans (hf7.get krm rfl) (Eq.trans (hf4.get krm rfl) eG4.symm))))
        have hG4t : (I15 rm 4).toInt = G4.toInt := congrArg Int32.toInt hG4
        have hG7 : I15 rm 7 = G7 := (Eq.trans (hf15.get krm rfl) (Eq.trans (hf10.get krm rfl) (Eq.trans (hf7.get krm rfl) (Eq.trans (hf4.get krm rfl) eG7.symm))))
        have hG7t : (I15 rm 7).toInt = G7.toInt := congrArg Int32.toInt hG7
        have hG8 : I15 rm 8 = G8 := (Eq.trans (hf15.get krm rfl) (Eq.trans (hf10.get krm rfl) (Eq.trans (hf7.get krm rfl) (Eq.trans (hf4.get krm rfl) eG8.symm))))
        have hG8t : (I15 rm 8).toInt = G8.toInt := congrArg Int32.toInt hG8
        have hG9 : I15 rm 9 = G9 := (Eq.trans (hf15.get krm rfl) (Eq.trans (hf10.get krm rfl) (Eq.trans (hf7.get krm rfl) (Eq.trans (hf4.get krm rfl) eG9.symm))))
        have hG9t : (I15 rm 9).toInt = G9.toInt := congrArg Int32.toInt hG9
        have hGN : I15 rm 10 = GN := (Eq.trans (hf15.get krm rfl) (Eq.trans (hf10.get krm rfl) (Eq.trans (hf7.get krm rfl) (Eq.trans (hf4.get krm rfl) eGN.symm))))
        have hGNt : (I15 rm 10).toInt = GN.toInt := congrArg Int32.toInt hGN
        have hv8 : I15 a0 8 = A9 := eA9.symm
        have hv8t : (I15 a0 8).toInt = A9.toInt := congrArg Int32.toInt hv8
        have hv9 : I15 a0 9 = x16_ := e16.symm
        have hv9t : (I15 a0 9).toInt = x16_.toInt := congrArg Int32.toInt hv9
        exact r_vret hC hQ hlk hr (by decide) (by decide) dX10_readLake_69 ⟨_, _, rfl, rfl, ⟨hs15, hF15, hFJ15, (by omega), (by omega), (by omega), (by omega)⟩⟩
    · refine r_iload_n hC dX10_readLake_49 1 rfl ?_
      refine r_goto hC (tgt := 54) dX10_readLake_50 (by decide) ?_
      refine r_sipush hC (v := (999)) dX10_readLake_54 (by decide) (by decide) (fun x22_ e22 t22 => ?_)
      refine r_callV hC (As := [.ref (g.2.2.1 34), .int x7_, .int x22_]) (rest := []) (ci := 10) (c_X10_readPart g (xL X) K len I10 J10 R hs10 a0 ka0 34 (by decide) x7_ x22_) mT_6_1 mT_1_10 mT_5_238 mT_6_0 mP_56 okX10_readPart ⟨by decide, by decide⟩ rfl (by show kO (K a0) = _; rw [ka0]; rfl) rfl rfl (Nat.le_of_ble_eq_true rfl) ⟨by decide, by decide⟩ dX10_readLake_57 (aI2 (F := fun st M => P g X 4 60 [(2, .int x10_), (1, .int x7_), (0, .ref a0)] st _ _ M) (M := (K, len, I10, J10, R)) fun x23_ I23 J23 h23 => ?_)
      obtain ⟨hs23, hf23, hfj23, k23_0, k23_1, k23_2, k23_3⟩ := h23
      show P g X 4 60 [(2, .int x10_), (1, .int x7_), (0, .ref a0)] [.int x23_] _ _ (K, len, I23, J23, R)
      have hF23 : Fr K [(10, 0), (10, 1), (10, 2), (11, 8), (11, 9), (11, 10), (11, 11), (11, 12), (11, 13)] I I23 := hF10.trans hf23 rfl rfl
      have hFJ23 : Fr K [(11, 14)] J J23 := hFJ10.trans hfj23 rfl rfl
      refine r_istore_n hC (lv' := [(3, .int x23_), (2, .int x10_), (1, .int x7_), (0, .ref a0)]) dX10_readLake_60 (by decide) rfl ?_
      refine r_aload_n hC dX10_readLake_61 3 rfl ?_
      obtain ⟨A9, eA9⟩ : ∃ z : Int32, z = I23 a0 8 := ⟨_, rfl⟩
      have fA9 : A9.toInt = (I23 a0 8).toInt := by rw [eA9]
      have rA9 := hs23.rng ka0 rfl eA9
      refine r_geti hC 9 (ci := 10) rfl u10_in (by decide) mT_5_4 dX10_readLake_62 ka0 rfl rfl (fun x24_ e24 => ?_)
      have f24 : x24_.toInt = (I23 a0 9).toInt := by rw [e24]
      refine r_iconst hC (v := (5)) dX10_readLake_65 (by decide) (by decide) (fun x25_ e25 t25 => ?_)
      refine r_icmp_ne hC (tgt := 70) dX10_readLake_66 (by decide) (fun c26 => ?_) (fun c26 => ?_)
      · refine r_aload_n hC dX10_readLake_70 3 rfl ?_
        refine r_getr hC 4 (ci := 10) rfl u10_in (by decide) mT_4_239 dX10_readLake_71 ka0 rfl rfl hbr ?_
        refine r_iload_n hC dX10_readLake_74 2 rfl ?_
        refine r_putiN hC 0 (ci := 9) rfl u9_in tyX9_ok nmX9 (by decide) nF_0 rfl rfl rfl dX10_readLake_75 krm rfl rfl (fun I27 eI27 => ?_)
        have hs27 := hs23.put0 eI27 krm rfl rfl rfl (by decide)
        have hF27 := hF23.put eI27 krm rfl
        refine r_aload_n hC dX10_readLake_78 3 rfl ?_
        refine r_getr hC 4 (ci := 10) rfl u10_in (by decide) mT_4_239 dX10_readLake_79 ka0 rfl rfl hbr ?_
        refine r_iload_n hC dX10_readLake_82 1 rfl ?_
        refine r_putiN hC 1 (ci := 9) rfl u9_in tyX9_ok nmX9 (by decide) nF_1 rfl rfl rfl dX10_readLake_83 krm rfl rfl (fun I28 eI28 => ?_)
        have hs28 := hs27.put0 eI28 krm rfl rfl rfl (by decide)
        have hF28 := hF27.put eI28 krm rfl
        refine r_aload_n hC dX10_readLake_86 3 rfl ?_
        refine r_getr hC 4 (ci := 10) rfl u10_in (by decide) mT_4_239 dX10_readLake_87 ka0 rfl rfl hbr ?_
        refine r_iload_n hC dX10_readLake_90 0 rfl ?_
        refine r_putiN hC 2 (ci := 9) rfl u9_in tyX9_ok nmX9 (by decide) nF_2 rfl rfl rfl dX10_readLake_91 krm rfl rfl (fun I29 eI29 => ?_)
        have hs29 := hs28.put0 eI29 krm rfl rfl rfl (by decide)
        have hF29 := hF28.put eI29 krm rfl
        have hG3 : I29 rm 3 = G3 := (Eq.trans (up2_at (Or.inr (by decide)) eI29) (Eq.trans (up2_at (Or.inr (by decide)) eI28) (Eq.trans (up2_at (Or.inr (by decide)) eI27) (Eq.trans (hf23.get krm rfl) (Eq.trans (hf10.get krm rfl) (Eq.trans (hf7.get krm rfl) (Eq.trans (hf4.get krm rfl) eG3.symm)))))))
        have hG3t : (I29 rm 3).toInt = G3.toInt := congrArg Int32.toInt hG3
        have hG4 : I29 rm 4 = G4 := (Eq.trans (up2_at (Or.inr (by decide)) eI29) (Eq.trans (up2_at (Or.inr (by decide)) eI28) (Eq.trans (up2_at (Or.inr (by decide)) eI27) (Eq.trans (hf23.get krm rfl) (Eq.trans (hf10.get krm rfl) (Eq.trans (hf7.get krm rfl) (Eq.trans (hf4.get krm rfl) eG4.symm)))))))
        have hG4t : (I29 rm 4).toInt = G4.toInt := congrArg Int32.toInt hG4
        have hG7 : I29 rm 7 = G7 := (Eq.trans (up2_at (Or.inr (by decide)) eI29) (Eq.trans (up2_at (Or.inr (by decide)) eI28) (Eq.trans (up2_at (Or.inr (by decide)) eI27) (Eq.trans (hf23.get krm rfl) (Eq.trans (hf10.get krm rfl) (Eq.trans (hf7.get krm rfl) (Eq.trans (hf4.get krm rfl) eG7.symm)))))))
        have hG7t : (I29 rm 7).toInt = G7.toInt := congrArg Int32.toInt hG7
        have hG8 : I29 rm 8 = G8 := (Eq.trans (up2_at (Or.inr (by decide)) eI29) (Eq.trans (up2_at (Or.inr (by decide)) eI28) (Eq.trans (up2_at (Or.inr (by decide)) eI27) (Eq.trans (hf23.get krm rfl) (Eq.trans (hf10.get krm rfl) (Eq.trans (hf7.get krm rfl) (Eq.trans (hf4.get krm rfl) eG8.symm)))))))
        have hG8t : (I29 rm 8).toInt = G8.toInt := congrArg Int32.toInt hG8
        have hG9 : I29 rm 9 = G9 := (Eq.trans (up2_at (Or.inr (by decide)) eI29) (Eq.trans (up2_at (Or.inr (by decide)) eI28) (Eq.trans (up2_at (Or.inr (by decide)) eI27) (Eq.trans (hf23.get krm rfl) (Eq.trans (hf10.get krm rfl) (Eq.trans (hf7.get krm rfl) (Eq.trans (hf4.get krm rfl) eG9.symm)))))))
        have hG9t : (I29 rm 9).toInt = G9.toInt := congrArg Int32.toInt hG9
        have hGN : I29 rm 10 = GN := (Eq.trans (up2_at (Or.inr (by decide)) eI29) (Eq.trans (up2_at (Or.inr (by decide)) eI28) (Eq.trans (up2_at (Or.inr (by decide)) eI27) (Eq.trans (hf23.get krm rfl) (Eq.trans (hf10.get krm rfl) (Eq.trans (hf7.get krm rfl) (Eq.trans (hf4.get krm rfl) eGN.symm)))))))
        have hGNt : (I29 rm 10).toInt = GN.toInt := congrArg Int32.toInt hGN
        have hv8 : I29 a0 8 = A9 := (Eq.trans (up2_kk eI29 krm ka0 (by decide)) (Eq.trans (up2_kk eI28 krm ka0 (by decide)) (Eq.trans (up2_kk eI27 krm ka0 (by decide)) eA9.symm)))
        have hv8t : (I29 a0 8).toInt = A9.toInt := congrArg Int32.toInt hv8
        have hv9 : I29 a0 9 = x24_ := (Eq.trans (up2_kk eI29 krm ka0 (by decide)) (Eq.trans (up2_kk eI28 krm ka0 (by decide)) (Eq.trans (up2_kk eI27 krm ka0 (by decide)) e24.symm)))
        have hv9t : (I29 a0 9).toInt = x24_.toInt := congrArg Int32.toInt hv9
        exact r_vret hC hQ hlk hr (by decide) (by decide) dX10_readLake_94 ⟨_, _, rfl, rfl, ⟨hs29, hF29, hFJ23, (by omega), (by omega), (by omega), (by omega)⟩⟩
      · have hG3 : I23 rm 3 = G3 := (Eq.trans (hf23.get krm rfl) (Eq.trans (hf10.get krm rfl) (Eq.trans (hf7.get krm rfl) (Eq.trans (hf4.get krm rfl) eG3.symm))))
        have hG3t : (I23 rm 3).toInt = G3.toInt := congrArg Int32.toInt hG3
        have hG4 : I23 rm 4 = G4 := (Eq.trans (hf23.get krm rfl) (Eq.trans (hf10.get krm rfl) (Eq.trans (hf7.get krm rfl) (Eq.trans (hf4.get krm rfl) eG4.symm))))
        have hG4t : (I23 rm 4).toInt = G4.toInt := congrArg Int32.toInt hG4
        have hG7 : I23 rm 7 = G7 := (Eq.trans (hf23.get krm rfl) (Eq.trans (hf10.get krm rfl) (Eq.trans (hf7.get krm rfl) (Eq.trans (hf4.get krm rfl) eG7.symm))))
        have hG7t : (I23 rm 7).toInt = G7.toInt := congrArg Int32.toInt hG7
        have hG8 : I23 rm 8 = G8 := (Eq.trans (hf23.get krm rfl) (Eq.trans (hf10.get krm rfl) (Eq.trans (hf7.get krm rfl) (Eq.trans (hf4.get krm rfl) eG8.symm))))
        have hG8t : (I23 rm 8).toInt = G8.toInt := congrArg Int32.toInt hG8
        have hG9 : I23 rm 9 = G9 := (Eq.trans (hf23.get krm rfl) (Eq.trans (hf10.get krm rfl) (Eq.trans (hf7.get krm rfl) (Eq.trans (hf4.get krm rfl) eG9.symm))))
        have hG9t : (I23 rm 9).toInt = G9.toInt := congrArg Int32.toInt hG9
        have hGN : I23 rm 10 = GN := (Eq.trans (hf23.get krm rfl) (Eq.trans (hf10.get krm rfl) (Eq.trans (hf7.get krm rfl) (Eq.trans (hf4.get krm rfl) eGN.symm))))
        have hGNt : (I23 rm 10).toInt = GN.toInt := congrArg Int32.toInt hGN
        have hv8 : I23 a0 8 = A9 := eA9.symm
        have hv8t : (I23 a0 8).toInt = A9.toInt := congrArg Int32.toInt hv8
        have hv9 : I23 a0 9 = x24_ := e24.symm
        have hv9t : (I23 a0 9).toInt = x24_.toInt := congrArg Int32.toInt hv9
        exact r_vret hC hQ hlk hr (by decide) (by decide) dX10_readLake_69 ⟨_, _, rfl, rfl, ⟨hs23, hF23, hFJ23, (by omega), (by omega), (by omega), (by omega)⟩⟩
  · refine r_aload_n hC dX10_readLake_11 0 rfl ?_
    refine r_iconst hC (v := (3)) dX10_readLake_12 (by decide) (by decide) (fun x30_ e30 t30 => ?_)
    refine r_callV hC (As := [.int x30_]) (rest := []) (ci := 10) (c_X10_wrong g (xL X) K len I J R hs a0 ka0 x30_) mT_5_236 mT_1_10 mT_5_233 mT_5_235 mP_55 okX10_wrong ⟨by decide, by decide⟩ rfl (by show kO (K a0) = _; rw [ka0]; rfl) rfl rfl (Nat.le_of_ble_eq_true rfl) ⟨by decide, by decide⟩ dX10_readLake_13 (aV1 (F := fun st M => P g X 4 16 [(0, .ref a0)] st _ _ M) (M := (K, len, I, J, R)) fun I31 h31 => ?_)
    obtain ⟨hs31, hf31, k31_0, k31_1⟩ := h31
    show P g X 4 16 [(0, .ref a0)] [] _ _ (K, len, I31, J, R)
    have hF31 : Fr K [(10, 0), (10, 1), (10, 2), (11, 8), (11, 9), (11, 10), (11, 11), (11, 12), (11, 13)] I I31 := hF.trans hf31 rfl rfl
    refine r_aload_n hC dX10_readLake_16 0 rfl ?_
    refine r_callV hC (As := []) (rest := []) (ci := 10) (c_X10_goesOn g (xL X) K len I31 J R hs31 a0 ka0) mT_5_199 mT_1_10 mT_5_196 mT_5_198 mP_49 okX10_goesOn ⟨by decide, by decide⟩ rfl (by show kO (K a0) = _; rw [ka0]; rfl) rfl rfl (Nat.le_of_ble_eq_true rfl) ⟨by decide, by decide⟩ dX10_readLake_17 (aV2 (F := fun st M => P g X 4 20 [(0, .ref a0)] st _ _ M) (M := (K, len, I31, J, R)) fun I32 J32 h32 => ?_)
    obtain ⟨hs32, hf32, hfj32, k32_0, k32_1, k32_2, k32_3⟩ := h32
    show P g X 4 20 [(0, .ref a0)] [] _ _ (K, len, I32, J32, R)
    have hF32 : Fr K [(10, 0), (10, 1), (10, 2), (11, 8), (11, 9), (11, 10), (11, 11), (11, 12), (11, 13)] I I32 := hF31.trans hf32 rfl rfl
    have hFJ32 : Fr K [(11, 14)] J J32 := hFJ.trans hfj32 rfl rfl
    refine r_aload_n hC dX10_readLake_20 0 rfl ?_
    refine r_ldcS hC (i := 32) (by decide) rfl rfl dX10_readLake_21 ?_
    refine r_iconst hC (v := (0)) dX10_readLake_23 (by decide) (by decide) (fun x33_ e33 t33 => ?_)
    refine r_sipush hC (v := (500)) dX10_readLake_24 (by decide) (by decide) (fun x34_ e34 t34 => ?_)
    refine r_callV hC (As := [.ref (g.2.2.1 32), .int x33_, .int x34_]) (rest := []) (ci := 10) (c_X10_readPart g (xL X) K len I32 J32 R hs32 a0 ka0 32 (by decide) x33_ x34_) mT_6_1 mT_1_10 mT_5_238 mT_6_0 mP_56 okX10_readPart ⟨by decide, by decide⟩ rfl (by show kO (K a0) = _; rw [ka0]; rfl) rfl rfl (Nat.le_of_ble_eq_true rfl) ⟨by decide, by decide⟩ dX10_readLake_27 (aI2 (F := fun st M => P g X 4 30 [(0, .ref a0)] st _ _ M) (M := (K, len, I32, J32, R)) fun x35_ I35 J35 h35 => ?_)
    obtain ⟨hs35, hf35, hfj35, k35_0, k35_1, k35_2, k35_3⟩ := h35
    show P g X 4 30 [(0, .ref a0)] [.int x35_] _ _ (K, len, I35, J35, R)
    have hF35 : Fr K [(10, 0), (10, 1), (10, 2), (11, 8), (11, 9), (11, 10), (11, 11), (11, 12), (11, 13)] I I35 := hF32.trans hf35 rfl rfl
    have hFJ35 : Fr K [(11, 14)] J J35 := hFJ32.trans hfj35 rfl rfl
    refine r_istore_n hC (lv' := [(1, .int x35_), (0, .ref a0)]) dX10_readLake_30 (by decide) rfl ?_
    refine r_aload_n hC dX10_readLake_31 1 rfl ?_
    refine r_ldcS hC (i := 33) (by decide) rfl rfl dX10_readLake_32 ?_
    refine r_iconst hC (v := (1)) dX10_readLake_34 (by decide) (by decide) (fun x36_ e36 t36 => ?_)
    refine r_bipush hC (v := (50)) dX10_readLake_35 (by decide) (by decide) (fun x37_ e37 t37 => ?_)
    refine r_callV hC (As := [.ref (g.2.2.1 33), .int x36_, .int x37_]) (rest := []) (ci := 10) (c_X10_readPart g (xL X) K len I35 J35 R hs35 a0 ka0 33 (by decide) x36_ x37_) mT_6_1 mT_1_10 mT_5_238 mT_6_0 mP_56 okX10_readPart ⟨by decide, by decide⟩ rfl (by show kO (K a0) = _; rw [ka0]; rfl) rfl rfl (Nat.le_of_ble_eq_true rfl) ⟨by decide, by decide⟩ dX10_readLake_37 (aI2 (F := fun st M => P g X 4 40 [(1, .int x35_), (0, .ref a0)] st _ _ M) (M := (K, len, I35, J35, R)) fun x38_ I38 J38 h38 => ?_)
    obtain ⟨hs38, hf38, hfj38, k38_0, k38_1, k38_2, k38_3⟩ := h38
    show P g X 4 40 [(1, .int x35_), (0, .ref a0)] [.int x38_] _ _ (K, len, I38, J38, R)
    have hF38 : Fr K [(10, 0), (10, 1), (10, 2), (11, 8), (11, 9), (11, 10), (11, 11), (11, 12), (11, 13)] I I38 := hF35.trans hf38 rfl rfl
    have hFJ38 : Fr K [(11, 14)] J J38 := hFJ35.trans hfj38 rfl rfl
    refine r_istore_n hC (lv' := [(2, .int x38_), (1, .int x35_), (0, .ref a0)]) dX10_readLake_40 (by decide) rfl ?_
    refine r_aload_n hC dX10_readLake_41 2 rfl ?_
    refine r_ldcS hC (i := 34) (by decide) rfl rfl dX10_readLake_42 ?_
    refine r_iload_n hC dX10_readLake_44 1 rfl ?_
    refine r_iconst hC (v := (1)) dX10_readLake_45 (by decide) (by decide) (fun x39_ e39 t39 => ?_)
    refine r_icmp_le hC (tgt := 53) dX10_readLake_46 (by decide) (fun c40 => ?_) (fun c40 => ?_)
    · refine r_iconst hC (v := (1)) dX10_readLake_53 (by decide) (by decide) (fun x41_ e41 t41 => ?_)
      refine r_sipush hC (v := (999)) dX10_readLake_54 (by decide) (by decide) (fun x42_ e42 t42 => ?_)
      refine r_callV hC (As := [.ref (g.2.2.1 34), .int x41_, .int x42_]) (rest := []) (ci := 10) (c_X10_readPart g (xL X) K len I38 J38 R hs38 a0 ka0 34 (by decide) x41_ x42_) mT_6_1 mT_1_10 mT_5_238 mT_6_0 mP_56 okX10_readPart ⟨by decide, by decide⟩ rfl (by show kO (K a0) = _; rw [ka0]; rfl) rfl rfl (Nat.le_of_ble_eq_true rfl) ⟨by decide, by decide⟩ dX10_readLake_57 (aI2 (F := fun st M => P g X 4 60 [(2, .int x38_), (1, .int x35_), (0, .ref a0)] st _ _ M) (M := (K, len, I38, J38, R)) fun x43_ I43 J43 h43 => ?_)
      obtain ⟨hs43, hf43, hfj43, k43_0, k43_1, k43_2, k43_3⟩ := h43
      show P g X 4 60 [(2, .int x38_), (1, .int x35_), (0, .ref a0)] [.int x43_] _ _ (K, len, I43, J43, R)
      have hF43 : Fr K [(10, 0), (10, 1), (10, 2), (11, 8), (11, 9), (11, 10), (11, 11), (11, 12), (11, 13)] I I43 := hF38.trans hf43 rfl rfl
      have hFJ43 : Fr K [(11, 14)] J J43 := hFJ38.trans hfj43 rfl rfl
      refine r_istore_n hC (lv' := [(3, .int x43_), (2, .int x38_), (1, .int x35_), (0, .ref a0)]) dX10_readLake_60 (by decide) rfl ?_
      refine r_aload_n hC dX10_readLake_61 3 rfl ?_
      obtain ⟨A9, eA9⟩ : ∃ z : Int32, z = I43 a0 8 := ⟨_, rfl⟩
      have fA9 : A9.toInt = (I43 a0 8).toInt := by rw [eA9]
      have rA9 := hs43.rng ka0 rfl eA9
      refine r_geti hC 9 (ci := 10) rfl u10_in (by decide) mT_5_4 dX10_readLake_62 ka0 rfl rfl (fun x44_ e44 => ?_)
      have f44 : x44_.toInt = (I43 a0 9).toInt := by rw [e44]
      refine r_iconst hC (v := (5)) dX10_readLake_65 (by decide) (by decide) (fun x45_ e45 t45 => ?_)
      refine r_icmp_ne hC (tgt := 70) dX10_readLake_66 (by decide) (fun c46 => ?_) (fun c46 => ?_)
      · refine r_aload_n hC dX10_readLake_70 3 rfl ?_
        refine r_getr hC 4 (ci := 10) rfl u10_in (by decide) mT_4_239 dX10_readLake_71 ka0 rfl rfl hbr ?_
        refine r_iload_n hC dX10_readLake_74 2 rfl ?_
        refine r_putiN hC 0 (ci := 9) rfl u9_in tyX9_ok nmX9 (by decide) nF_0 rfl rfl rfl dX10_readLake_75 krm rfl rfl (fun I47 eI47 => ?_)
        have hs47 := hs43.put0 eI47 krm rfl rfl rfl (by decide)
        have hF47 := hF43.put eI47 krm rfl
        refine r_aload_n hC dX10_readLake_78 3 rfl ?_
        refine r_getr hC 4 (ci := 10) rfl u10_in (by decide) mT_4_239 dX10_readLake_79 ka0 rfl rfl hbr ?_
        refine r_iload_n hC dX10_readLake_82 1 rfl ?_
        refine r_putiN hC 1 (ci := 9) rfl u9_in tyX9_ok nmX9 (by decide) nF_1 rfl rfl rfl dX10_readLake_83 krm rfl rfl (fun I48 eI48 => ?_)
        have hs48 := hs47.put0 eI48 krm rfl rfl rfl (by decide)
        have hF48 := hF47.put eI48 krm rfl
        refine r_aload_n hC dX10_readLake_86 3 rfl ?_
        refine r_getr hC 4 (ci := 10) rfl u10_in (by decide) mT_4_239 dX10_readLake_87 ka0 rfl rfl hbr ?_
        refine r_iload_n hC dX10_readLake_90 0 rfl ?_
        refine r_putiN hC 2 (ci := 9) rfl u9_in tyX9_ok nmX9 (by decide) nF_2 rfl rfl rfl dX10_readLake_91 krm rfl rfl (fun I49 eI49 => ?_)
        have hs49 := hs48.put0 eI49 krm rfl rfl rfl (by decide)
        have hF49 := hF48.put eI49 krm rfl
        have hG3 : I49 rm 3 = G3 := (Eq.trans (up2_at (Or.inr (by decide)) eI49) (Eq.trans (up2_at (Or.inr (by decide)) eI48) (Eq.trans (up2_at (Or.inr (by decide)) eI47) (Eq.trans (hf43.get krm rfl) (Eq.trans (hf38.get krm rfl) (Eq.trans (hf35.get krm rfl) (Eq.trans (hf32.get krm rfl) (Eq.trans (hf31.get krm rfl) eG3.symm))))))))
        have hG3t : (I49 rm 3).toInt = G3.toInt := congrArg Int32.toInt hG3
        have hG4 : I49 rm 4 = G4 := (Eq.trans (up2_at (Or.inr (by decide)) eI49) (Eq.trans (up2_at (Or.inr (by decide)) eI48) (Eq.trans (up2_at (Or.inr (by decide)) eI47) (Eq.trans (hf43.get krm rfl) (Eq.trans (hf38.get krm rfl) (Eq.trans (hf35.get krm rfl) (Eq.trans (hf32.get krm rfl) (Eq.trans (hf31.get krm rfl) eG4.symm))))))))
        have hG4t : (I49 rm 4).toInt = G4.toInt := congrArg Int32.toInt hG4
        have hG7 : I49 rm 7 = G7 := (Eq.trans (up2_at (Or.inr (by decide)) eI49) (Eq.trans (up2_at (Or.inr (by decide)) eI48) (Eq.trans (up2_at (Or.inr (by decide)) eI47) (Eq.trans (hf43.get krm rfl) (Eq.trans (hf38.get krm rfl) (Eq.trans (hf35.get krm rfl) (Eq.trans (hf32.get krm rfl) (Eq.trans (hf31.get krm rfl) eG7.symm))))))))
        have hG7t : (I49 rm 7).toInt = G7.toInt := congrArg Int32.toInt hG7
        have hG8 : I49 rm 8 = G8 := (Eq.trans (up2_at (Or.inr (by decide)) eI49) (Eq.trans (up2_at (Or.inr (by decide)) eI48) (Eq.trans (up2_at (Or.inr (by decide)) eI47) (Eq.trans (hf43.get krm rfl) (Eq.trans (hf38.get krm rfl) (Eq.trans (hf35.get krm rfl) (Eq.trans (hf32.get krm rfl) (Eq.trans (hf31.get krm rfl) eG8.symm))))))))
        have hG8t : (I49 rm 8).toInt = G8.toInt := congrArg Int32.toInt hG8
        have hG9 : I49 rm 9 = G9 := (Eq.trans (up2_at (Or.inr (by decide)) eI49) (Eq.trans (up2_at (Or.inr (by decide)) eI48) (Eq.trans (up2_at (Or.inr (by decide)) eI47) (Eq.trans (hf43.get krm rfl) (Eq.trans (hf38.get krm rfl) (Eq.trans (hf35.get krm rfl) (Eq.trans (hf32.get krm rfl) (Eq.trans (hf31.get krm rfl) eG9.symm))))))))
        have hG9t : (I49 rm 9).toInt = G9.toInt := congrArg Int32.toInt hG9
        have hGN : I49 rm 10 = GN := (Eq.trans (up2_at (Or.inr (by decide)) eI49) (Eq.trans (up2_at (Or.inr (by decide)) eI48) (Eq.trans (up2_at (Or.inr (by decide)) eI47) (Eq.trans (hf43.get krm rfl) (Eq.trans (hf38.get krm rfl) (Eq.trans (hf35.get krm rfl) (Eq.trans (hf32.get krm rfl) (Eq.trans (hf31.get krm rfl) eGN.symm))))))))
        have hGNt : (I49 rm 10).toInt = GN.toInt := congrArg Int32.toInt hGN
        have hv8 : I49 a0 8 = A9 := (Eq.trans (up2_kk eI49 krm ka0 (by decide)) (Eq.trans (up2_kk eI48 krm ka0 (by decide)) (Eq.trans (up2_kk eI47 krm ka0 (by decide)) eA9.symm)))
        have hv8t : (I49 a0 8).toInt = A9.toInt := congrArg Int32.toInt hv8
        have hv9 : I49 a0 9 = x44_ := (Eq.trans (up2_kk eI49 krm ka0 (by decide)) (Eq.trans (up2_kk eI48 krm ka0 (by decide)) (Eq.trans (up2_kk eI47 krm ka0 (by decide)) e44.symm)))
        have hv9t : (I49 a0 9).toInt = x44_.toInt := congrArg Int32.toInt hv9
        exact r_vret hC hQ hlk hr (by decide) (by decide) dX10_readLake_94 ⟨_, _, rfl, rfl, ⟨hs49, hF49, hFJ43, (by omega), (by omega), (by omega), (by omega)⟩⟩
      · have hG3 : I43 rm 3 = G3 := (Eq.trans (hf43.get krm rfl) (Eq.trans (hf38.get krm rfl) (Eq.trans (hf35.get krm rfl) (Eq.trans (hf32.get krm rfl) (Eq.trans (hf31.get krm rfl) eG3.symm)))))
        have hG3t : (I43 rm 3).toInt = G3.toInt := congrArg Int32.toInt hG3
        have hG4 : I43 rm 4 = G4 := (Eq.trans (hf43.get krm rfl) (Eq.trans (hf38.get krm rfl) (Eq.trans (hf35.get krm rfl) (Eq.trans (hf32.get krm rfl) (Eq.trans (hf31.get krm rfl) eG4.symm)))))
        have hG4t : (I43 rm 4).toInt = G4.toInt := congrArg Int32.toInt hG4
        have hG7 : I43 rm 7 = G7 := (Eq.trans (hf43.get krm rfl) (Eq.trans (hf38.get krm rfl) (Eq.trans (hf35.get krm rfl) (Eq.trans (hf32.get krm rfl) (Eq.trans (hf31.get krm rfl) eG7.symm)))))
        have hG7t : (I43 rm 7).toInt = G7.toInt := congrArg Int32.toInt hG7
        have hG8 : I43 rm 8 = G8 := (Eq.trans (hf43.get krm rfl) (Eq.trans (hf38.get krm rfl) (Eq.trans (hf35.get krm rfl) (Eq.trans (hf32.get krm rfl) (Eq.trans (hf31.get krm rfl) eG8.symm)))))
        have hG8t : (I43 rm 8).toInt = G8.toInt := congrArg Int32.toInt hG8
        have hG9 : I43 rm 9 = G9 := (Eq.trans (hf43.get krm rfl) (Eq.trans (hf38.get krm rfl) (Eq.trans (hf35.get krm rfl) (Eq.trans (hf32.get krm rfl) (Eq.trans (hf31.get krm rfl) eG9.symm)))))
        have hG9t : (I43 rm 9).toInt = G9.toInt := congrArg Int32.toInt hG9
        have hGN : I43 rm 10 = GN := (Eq.trans (hf43.get krm rfl) (Eq.trans (hf38.get krm rfl) (Eq.trans (hf35.get krm rfl) (Eq.trans (hf32.get krm rfl) (Eq.trans (hf31.get krm rfl) eGN.symm)))))
        have hGNt : (I43 rm 10).toInt = GN.toInt := congrArg Int32.toInt hGN
        have hv8 : I43 a0 8 = A9 := eA9.symm
        have hv8t : (I43 a0 8).toInt = A9.toInt := congrArg Int32.toInt hv8
        have hv9 : I43 a0 9 = x44_ := e44.symm
        have hv9t : (I43 a0 9).toInt = x44_.toInt := congrArg Int32.toInt hv9
        exact r_vret hC hQ hlk hr (by decide) (by decide) dX10_readLake_69 ⟨_, _, rfl, rfl, ⟨hs43, hF43, hFJ43, (by omega), (by omega), (by omega), (by omega)⟩⟩
    · refine r_iload_n hC dX10_readLake_49 1 rfl ?_
      refine r_goto hC (tgt := 54) dX10_readLake_50 (by decide) ?_
      refine r_sipush hC (v := (999)) dX10_readLake_54 (by decide) (by decide) (fun x50_ e50 t50 => ?_)
      refine r_callV hC (As := [.ref (g.2.2.1 34), .int x35_, .int x50_]) (rest := []) (ci := 10) (c_X10_readPart g (xL X) K len I38 J38 R hs38 a0 ka0 34 (by decide) x35_ x50_) mT_6_1 mT_1_10 mT_5_238 mT_6_0 mP_56 okX10_readPart ⟨by decide, by decide⟩ rfl (by show kO (K a0) = _; rw [ka0]; rfl) rfl rfl (Nat.le_of_ble_eq_true rfl) ⟨by decide, by decide⟩ dX10_readLake_57 (aI2 (F := fun st M => P g X 4 60 [(2, .int x38_), (1, .int x35_), (0, .ref a0)] st _ _ M) (M := (K, len, I38, J38, R)) fun x51_ I51 J51 h51 => ?_)
      obtain ⟨hs51, hf51, hfj51, k51_0, k51_1, k51_2, k51_3⟩ := h51
      show P g X 4 60 [(2, .int x38_), (1, .int x35_), (0, .ref a0)] [.int x51_] _ _ (K, len, I51, J51, R)
      have hF51 : Fr K [(10, 0), (10, 1), (10, 2), (11, 8), (11, 9), (11, 10), (11, 11), (11, 12), (11, 13)] I I51 := hF38.trans hf51 rfl rfl
      have hFJ51 : Fr K [(11, 14)] J J51 := hFJ38.trans hfj51 rfl rfl
      refine r_istore_n hC (lv' := [(3, .int x51_), (2, .int x38_), (1, .int x35_), (0, .ref a0)]) dX10_readLake_60 (by decide) rfl ?_
      refine r_aload_n hC dX10_readLake_61 3 rfl ?_
      obtain ⟨A9, eA9⟩ : ∃ z : Int32, z = I51 a0 8 := ⟨_, rfl⟩
      have fA9 : A9.toInt = (I51 a0 8).toInt := by rw [eA9]
      have rA9 := hs51.rng ka0 rfl eA9
      refine r_geti hC 9 (ci := 10) rfl u10_in (by decide) mT_5_4 dX10_readLake_62 ka0 rfl rfl (fun x52_ e52 => ?_)
      have f52 : x52_.toInt = (I51 a0 9).toInt := by rw [e52]
      refine r_iconst hC (v := (5)) dX10_readLake_65 (by decide) (by decide) (fun x53_ e53 t53 => ?_)
      refine r_icmp_ne hC (tgt := 70) dX10_readLake_66 (by decide) (fun c54 => ?_) (fun c54 => ?_)
      · refine r_aload_n hC dX10_readLake_70 3 rfl ?_
        refine r_getr hC 4 (ci := 10) rfl u10_in (by decide) mT_4_239 dX10_readLake_71 ka0 rfl rfl hbr ?_
        refine r_iload_n hC dX10_readLake_74 2 rfl ?_
        refine r_putiN hC 0 (ci := 9) rfl u9_in tyX9_ok nmX9 (by decide) nF_0 rfl rfl rfl dX10_readLake_75 krm rfl rfl (fun I55 eI55 => ?_)
        have hs55 := hs51.put0 eI55 krm rfl rfl rfl (by decide)
        have hF55 := hF51.put eI55 krm rfl
        refine r_aload_n hC dX10_readLake_78 3 rfl ?_
        refine r_getr hC 4 (ci := 10) rfl u10_in (by decide) mT_4_239 dX10_readLake_79 ka0 rfl rfl hbr ?_
        refine r_iload_n hC dX10_readLake_82 1 rfl ?_
        refine r_putiN hC 1 (ci := 9) rfl u9_in tyX9_ok nmX9 (by decide) nF_1 rfl rfl rfl dX10_readLake_83 krm rfl rfl (fun I56 eI56 => ?_)
        have hs56 := hs55.put0 eI56 krm rfl rfl rfl (by decide)
        have hF56 := hF55.put eI56 krm rfl
        refine r_aload_n hC dX10_readLake_86 3 rfl ?_
        refine r_getr hC 4 (ci := 10) rfl u10_in (by decide) mT_4_239 dX10_readLake_87 ka0 rfl rfl hbr ?_
        refine r_iload_n hC dX10_readLake_90 0 rfl ?_
        refine r_putiN hC 2 (ci := 9) rfl u9_in tyX9_ok nmX9 (by decide) nF_2 rfl rfl rfl dX10_readLake_91 krm rfl rfl (fun I57 eI57 => ?_)
        have hs57 := hs56.put0 eI57 krm rfl rfl rfl (by decide)
        have hF57 := hF56.put eI57 krm rfl
        have hG3 : I57 rm 3 = G3 := (Eq.trans (up2_at (Or.inr (by decide)) eI57) (Eq.trans (up2_at (Or.inr (by decide)) eI56) (Eq.trans (up2_at (Or.inr (by decide)) eI55) (Eq.trans (hf51.get krm rfl) (Eq.trans (hf38.get krm rfl) (Eq.trans (hf35.get krm rfl) (Eq.trans (hf32.get krm rfl) (Eq.trans (hf31.get krm rfl) eG3.symm))))))))
        have hG3t : (I57 rm 3).toInt = G3.toInt := congrArg Int32.toInt hG3
        have hG4 : I57 rm 4 = G4 := (Eq.trans (up2_at (Or.inr (by decide)) eI57) (Eq.trans (up2_at (Or.inr (by decide)) eI56) (Eq.trans (up2_at (Or.inr (by decide)) eI55) (Eq.trans (hf51.get krm rfl) (Eq.trans (hf38.get krm rfl) (Eq.trans (hf35.get krm rfl) (Eq.trans (hf32.get krm rfl) (Eq.trans (hf31.get krm rfl) eG4.symm))))))))
        have hG4t : (I57 rm 4).toInt = G4.toInt := congrArg Int32.toInt hG4
        have hG7 : I57 rm 7 = G7 := (Eq.trans (up2_at (Or.inr (by decide)) eI57) (Eq.trans (up2_at (Or.inr (by decide)) eI56) (Eq.trans (up2_at (Or.inr (by decide)) eI55) (Eq.trans (hf51.get krm rfl) (Eq.trans (hf38.get krm rfl) (Eq.trans (hf35.get krm rfl) (Eq.trans (hf32.get krm rfl) (Eq.trans (hf31.get krm rfl) eG7.symm))))))))
        have hG7t : (I57 rm 7).toInt = G7.toInt := congrArg Int32.toInt hG7
        have hG8 : I57 rm 8 = G8 := (Eq.trans (up2_at (Or.inr (by decide)) eI57) (Eq.trans (up2_at (Or.inr (by decide)) eI56) (Eq.trans (up2_at (Or.inr (by decide)) eI55) (Eq.trans (hf51.get krm rfl) (Eq.trans (hf38.get krm rfl) (Eq.trans (hf35.get krm rfl) (Eq.trans (hf32.get krm rfl) (Eq.trans (hf31.get krm rfl) eG8.symm))))))))
        have hG8t : (I57 rm 8).toInt = G8.toInt := congrArg Int32.toInt hG8
        have hG9 : I57 rm 9 = G9 := (Eq.trans (up2_at (Or.inr (by decide)) eI57) (Eq.trans (up2_at (Or.inr (by decide)) eI56) (Eq.trans (up2_at (Or.inr (by decide)) eI55) (Eq.trans (hf51.get krm rfl) (Eq.trans (hf38.get krm rfl) (Eq.trans (hf35.get krm rfl) (Eq.trans (hf32.get krm rfl) (Eq.trans (hf31.get krm rfl) eG9.symm))))))))
        have hG9t : (I57 rm 9).toInt = G9.toInt := congrArg Int32.toInt hG9
        have hGN : I57 rm 10 = GN := (Eq.trans (up2_at (Or.inr (by decide)) eI57) (Eq.trans (up2_at (Or.inr (by decide)) eI56) (Eq.trans (up2_at (Or.inr (by decide)) eI55) (Eq.trans (hf51.get krm rfl) (Eq.trans (hf38.get krm rfl) (Eq.trans (hf35.get krm rfl) (Eq.trans (hf32.get krm rfl) (Eq.trans (hf31.get krm rfl) eGN.symm))))))))
        have hGNt : (I57 rm 10).toInt = GN.toInt := congrArg Int32.toInt hGN
        have hv8 : I57 a0 8 = A9 := (Eq.trans (up2_kk eI57 krm ka0 (by decide)) (Eq.trans (up2_kk eI56 krm ka0 (by decide)) (Eq.trans (up2_kk eI55 krm ka0 (by decide)) eA9.symm)))
        have hv8t : (I57 a0 8).toInt = A9.toInt := congrArg Int32.toInt hv8
        have hv9 : I57 a0 9 = x52_ := (Eq.trans (up2_kk eI57 krm ka0 (by decide)) (Eq.trans (up2_kk eI56 krm ka0 (by decide)) (Eq.trans (up2_kk eI55 krm ka0 (by decide)) e52.symm)))
        have hv9t : (I57 a0 9).toInt = x52_.toInt := congrArg Int32.toInt hv9
        exact r_vret hC hQ hlk hr (by decide) (by decide) dX10_readLake_94 ⟨_, _, rfl, rfl, ⟨hs57, hF57, hFJ51, (by omega), (by omega), (by omega), (by omega)⟩⟩
      · have hG3 : I51 rm 3 = G3 := (Eq.trans (hf51.get krm rfl) (Eq.trans (hf38.get krm rfl) (Eq.trans (hf35.get krm rfl) (Eq.trans (hf32.get krm rfl) (Eq.trans (hf31.get krm rfl) eG3.symm)))))
        have hG3t : (I51 rm 3).toInt = G3.toInt := congrArg Int32.toInt hG3
        have hG4 : I51 rm 4 = G4 := (Eq.trans (hf51.get krm rfl) (Eq.trans (hf38.get krm rfl) (Eq.trans (hf35.get krm rfl) (Eq.trans (hf32.get krm rfl) (Eq.trans (hf31.get krm rfl) eG4.symm)))))
        have hG4t : (I51 rm 4).toInt = G4.toInt := congrArg Int32.toInt hG4
        have hG7 : I51 rm 7 = G7 := (Eq.trans (hf51.get krm rfl) (Eq.trans (hf38.get krm rfl) (Eq.trans (hf35.get krm rfl) (Eq.trans (hf32.get krm rfl) (Eq.trans (hf31.get krm rfl) eG7.symm)))))
        have hG7t : (I51 rm 7).toInt = G7.toInt := congrArg Int32.toInt hG7
        have hG8 : I51 rm 8 = G8 := (Eq.trans (hf51.get krm rfl) (Eq.trans (hf38.get krm rfl) (Eq.trans (hf35.get krm rfl) (Eq.trans (hf32.get krm rfl) (Eq.trans (hf31.get krm rfl) eG8.symm)))))
        have hG8t : (I51 rm 8).toInt = G8.toInt := congrArg Int32.toInt hG8
        have hG9 : I51 rm 9 = G9 := (Eq.trans (hf51.get krm rfl) (Eq.trans (hf38.get krm rfl) (Eq.trans (hf35.get krm rfl) (Eq.trans (hf32.get krm rfl) (Eq.trans (hf31.get krm rfl) eG9.symm)))))
        have hG9t : (I51 rm 9).toInt = G9.toInt := congrArg Int32.toInt hG9
        have hGN : I51 rm 10 = GN := (Eq.trans (hf51.get krm rfl) (Eq.trans (hf38.get krm rfl) (Eq.trans (hf35.get krm rfl) (Eq.trans (hf32.get krm rfl) (Eq.trans (hf31.get krm rfl) eGN.symm)))))
        have hGNt : (I51 rm 10).toInt = GN.toInt := congrArg Int32.toInt hGN
        have hv8 : I51 a0 8 = A9 := eA9.symm
        have hv8t : (I51 a0 8).toInt = A9.toInt := congrArg Int32.toInt hv8
        have hv9 : I51 a0 9 = x52_ := e52.symm
        have hv9t : (I51 a0 9).toInt = x52_.toInt := congrArg Int32.toInt hv9
        exact r_vret hC hQ hlk hr (by decide) (by decide) dX10_readLake_69 ⟨_, _, rfl, rfl, ⟨hs51, hF51, hFJ51, (by omega), (by omega), (by omega), (by omega)⟩⟩
set_option maxHeartbeats 4000000 in
set_option maxRecDepth 100000 in
theorem c_X10_readPeg (g : GG) (l : Launch) (K len : Nat → Nat) (I : Nat → Nat → Int32) (J : Nat → Nat → Int64) (R : Nat → Nat → Option Nat) (hs : Sf K len I R) (a0 : Nat) (ka0 : K a0 = 11) (rm : Nat) (hbr : R a0 4 = some rm) (krm : K rm = 10) (p0 : (I a0 9).toInt = 2) (p1 : (I rm 10).toInt ≤ (I rm 3).toInt + (I rm 7).toInt + (I rm 8).toInt + (I rm 9).toInt) (p2 : (I rm 4).toInt ≤ 8) : Ct g l yX10_readPeg cX10_readPeg 3 (Option.none : Option Jvm.ClassFile.FieldType) rmX10_readPeg [.ref a0] (K, len, I, J, R) (pV2 (K, len, I, J, R) (fun I' J' => Sf K len I' R ∧ Fr K [(10, 3), (10, 10), (11, 8), (11, 9), (11, 10), (11, 11), (11, 12), (11, 13), (41, 999)] I I' ∧ Fr K [(11, 14), (42, 999)] J J' ∧ ((I' a0 9).toInt = 5 ∨ (I' rm 10).toInt ≤ (I' rm 3).toInt + (I' rm 7).toInt + (I' rm 8).toInt + (I' rm 9).toInt) ∧ ((I' rm 4).toInt ≤ 8) ∧ ((I a0 8).toInt ≤ (I' a0 8).toInt) ∧ ((I' a0 9).toInt = 4 → (I a0 8).toInt < (I' a0 8).toInt))) := by
  refine Ct_intro (by decide +kernel) (Nat.le_of_ble_eq_true rfl) (fun X hC hL hKK hNm hr hlk hQ => ?_)
  subst hL
  have hC : Cx g X cX10_readPeg "HillTapModel" 3 rmX10_readPeg := hC
  show P g X 3 0 [(0, .ref a0)] [] 0 0 (K, len, I, J, R)
  have hF : Fr K [(10, 3), (10, 10), (11, 8), (11, 9), (11, 10), (11, 11), (11, 12), (11, 13), (41, 999)] I I := Fr.refl
  have hFJ : Fr K [(11, 14), (42, 999)] J J := Fr.refl
  obtain ⟨G3, eG3⟩ : ∃ z : Int32, z = I rm 3 := ⟨_, rfl⟩
  have fG3 : G3.toInt = (I rm 3).toInt := by rw [eG3]
  have rG3 := hs.rng krm rfl eG3
  obtain ⟨G4, eG4⟩ : ∃ z : Int32, z = I rm 4 := ⟨_, rfl⟩
  have fG4 : G4.toInt = (I rm 4).toInt := by rw [eG4]
  have rG4 := hs.rng krm rfl eG4
  obtain ⟨G7, eG7⟩ : ∃ z : Int32, z = I rm 7 := ⟨_, rfl⟩
  have fG7 : G7.toInt = (I rm 7).toInt := by rw [eG7]
  have rG7 := hs.rng krm rfl eG7
  obtain ⟨G8, eG8⟩ : ∃ z : Int32, z = I rm 8 := ⟨_, rfl⟩
  have fG8 : G8.toInt = (I rm 8).toInt := by rw [eG8]
  have rG8 := hs.rng krm rfl eG8
  obtain ⟨G9, eG9⟩ : ∃ z : Int32, z = I rm 9 := ⟨_, rfl⟩
  have fG9 : G9.toInt = (I rm 9).toInt := by rw [eG9]
  have rG9 := hs.rng krm rfl eG9
  obtain ⟨GN, eGN⟩ : ∃ z : Int32, z = I rm 10 := ⟨_, rfl⟩
  have fGN : GN.toInt = (I rm 10).toInt := by rw [eGN]
  have rGN := hs.rng krm rfl eGN
  obtain ⟨A0, eA0⟩ : ∃ z : Int32, z = I a0 8 := ⟨_, rfl⟩
  have fA0 : A0.toInt = (I a0 8).toInt := by rw [eA0]
  have rA0 := hs.rng ka0 rfl eA0
  obtain ⟨T0, eT0⟩ : ∃ z : Int32, z = I a0 9 := ⟨_, rfl⟩
  have fT0 : T0.toInt = (I a0 9).toInt := by rw [eT0]
  refine r_aload_n hC dX10_readPeg_0 0 rfl ?_
  refine r_aload_n hC dX10_readPeg_1 0 rfl ?_
  refine r_getr hC 4 (ci := 10) rfl u10_in (by decide) mT_4_239 dX10_readPeg_2 ka0 rfl rfl hbr ?_
  refine r_getiN hC 3 (ci := 9) rfl u9_in (by decide) nF_3 dX10_readPeg_5 krm rfl rfl (fun x1_ e1 => ?_)
  have r1 := hs.rng krm rfl e1
  have f1 : x1_.toInt = (I rm 3).toInt := by rw [e1]
  have w1 : x1_ = G3 := by rw [e1]; exact eG3.symm
  have wt1 : x1_.toInt = G3.toInt := by rw [w1]
  refine r_iconst hC (v := (5)) dX10_readPeg_8 (by decide) (by decide) (fun x2_ e2 t2 => ?_)
  refine r_callV hC (As := [.int x1_, .int x2_]) (rest := []) (ci := 10) (c_X10_begins g (xL X) K len I J R hs a0 ka0 x1_ x2_) mT_6_19 mT_1_10 mT_6_16 mT_6_18 mP_59 okX10_begins ⟨by decide, by decide⟩ rfl (by show kO (K a0) = _; rw [ka0]; rfl) rfl rfl (Nat.le_of_ble_eq_true rfl) ⟨by decide, by decide⟩ dX10_readPeg_9 (aV2 (F := fun st M => P g X 3 12 [(0, .ref a0)] st _ _ M) (M := (K, len, I, J, R)) fun I3 J3 h3 => ?_)
  obtain ⟨hs3, hf3, hfj3, k3_0, k3_1, k3_2, k3_3⟩ := h3
  show P g X 3 12 [(0, .ref a0)] [] _ _ (K, len, I3, J3, R)
  have hF3 : Fr K [(10, 3), (10, 10), (11, 8), (11, 9), (11, 10), (11, 11), (11, 12), (11, 13), (41, 999)] I I3 := hF.trans hf3 rfl rfl
  have hFJ3 : Fr K [(11, 14), (42, 999)] J J3 := hFJ.trans hfj3 rfl rfl
  refine r_aload_n hC dX10_readPeg_12 0 rfl ?_
  refine r_iconst hC (v := (0)) dX10_readPeg_13 (by decide) (by decide) (fun x4_ e4 t4 => ?_)
  refine r_aload_n hC dX10_readPeg_14 0 rfl ?_
  refine r_getr hC 4 (ci := 10) rfl u10_in (by decide) mT_4_239 dX10_readPeg_15 ka0 rfl rfl hbr ?_
  refine r_getiN hC 3 (ci := 9) rfl u9_in (by decide) nF_3 dX10_readPeg_18 krm rfl rfl (fun x5_ e5 => ?_)
  have r5 := hs3.rng krm rfl e5
  have f5 : x5_.toInt = (I3 rm 3).toInt := by rw [e5]
  have w5 : x5_ = x1_ := by rw [e5]; exact (Eq.trans (hf3.get krm rfl) e1.symm)
  have wt5 : x5_.toInt = x1_.toInt := by rw [w5]
  have qG3 : I3 rm 3 = x5_ := e5.symm
  have qG3t : (I3 rm 3).toInt = x5_.toInt := congrArg Int32.toInt qG3
  have qG4 : I3 rm 4 = G4 := (Eq.trans (hf3.get krm rfl) eG4.symm)
  have qG4t : (I3 rm 4).toInt = G4.toInt := congrArg Int32.toInt qG4
  have qG7 : I3 rm 7 = G7 := (Eq.trans (hf3.get krm rfl) eG7.symm)
  have qG7t : (I3 rm 7).toInt = G7.toInt := congrArg Int32.toInt qG7
  have qG8 : I3 rm 8 = G8 := (Eq.trans (hf3.get krm rfl) eG8.symm)
  have qG8t : (I3 rm 8).toInt = G8.toInt := congrArg Int32.toInt qG8
  have qG9 : I3 rm 9 = G9 := (Eq.trans (hf3.get krm rfl) eG9.symm)
  have qG9t : (I3 rm 9).toInt = G9.toInt := congrArg Int32.toInt qG9
  have qGN : I3 rm 10 = GN := (Eq.trans (hf3.get krm rfl) eGN.symm)
  have qGNt : (I3 rm 10).toInt = GN.toInt := congrArg Int32.toInt qGN
  refine r_callV hC (As := [.int x4_, .int x5_]) (rest := []) (ci := 10) (c_X10_readFresh g (xL X) K len I3 J3 R hs3 a0 ka0 x4_ x5_ rm hbr krm (by omega)) mT_6_23 mT_1_10 mT_6_20 mT_6_22 mP_60 okX10_readFresh ⟨by decide, by decide⟩ rfl (by show kO (K a0) = _; rw [ka0]; rfl) rfl rfl (Nat.le_of_ble_eq_true rfl) ⟨by decide, by decide⟩ dX10_readPeg_21 (aV2 (F := fun st M => P g X 3 24 [(0, .ref a0)] st _ _ M) (M := (K, len, I3, J3, R)) fun I6 J6 h6 => ?_)
  obtain ⟨hs6, hf6, hfj6, k6_0, k6_1, k6_2, k6_3⟩ := h6
  show P g X 3 24 [(0, .ref a0)] [] _ _ (K, len, I6, J6, R)
  have hF6 : Fr K [(10, 3), (10, 10), (11, 8), (11, 9), (11, 10), (11, 11), (11, 12), (11, 13), (41, 999)] I I6 := hF3.trans hf6 rfl rfl
  have hFJ6 : Fr K [(11, 14), (42, 999)] J J6 := hFJ3.trans hfj6 rfl rfl
  obtain ⟨N1, eN1⟩ : ∃ z : Int32, z = I6 rm 10 := ⟨_, rfl⟩
  have fN1 : N1.toInt = (I6 rm 10).toInt := by rw [eN1]
  have rN1 := hs6.rng krm rfl eN1
  refine r_aload_n hC dX10_readPeg_24 0 rfl ?_
  refine r_ldcS hC (i := 41) (by decide) rfl rfl dX10_readPeg_25 ?_
  refine r_iconst hC (v := (0)) dX10_readPeg_27 (by decide) (by decide) (fun x7_ e7 t7 => ?_)
  refine r_sipush hC (v := (999)) dX10_readPeg_28 (by decide) (by decide) (fun x8_ e8 t8 => ?_)
  refine r_callV hC (As := [.ref (g.2.2.1 41), .int x7_, .int x8_]) (rest := []) (ci := 10) (c_X10_readPart g (xL X) K len I6 J6 R hs6 a0 ka0 41 (by decide) x7_ x8_) mT_6_1 mT_1_10 mT_5_238 mT_6_0 mP_56 okX10_readPart ⟨by decide, by decide⟩ rfl (by show kO (K a0) = _; rw [ka0]; rfl) rfl rfl (Nat.le_of_ble_eq_true rfl) ⟨by decide, by decide⟩ dX10_readPeg_31 (aI2 (F := fun st M => P g X 3 34 [(0, .ref a0)] st _ _ M) (M := (K, len, I6, J6, R)) fun x9_ I9 J9 h9 => ?_)
  obtain ⟨hs9, hf9, hfj9, k9_0, k9_1, k9_2, k9_3⟩ := h9
  show P g X 3 34 [(0, .ref a0)] [.int x9_] _ _ (K, len, I9, J9, R)
  have hF9 : Fr K [(10, 3), (10, 10), (11, 8), (11, 9), (11, 10), (11, 11), (11, 12), (11, 13), (41, 999)] I I9 := hF6.trans hf9 rfl rfl
  have hFJ9 : Fr K [(11, 14), (42, 999)] J J9 := hFJ6.trans hfj9 rfl rfl
  refine r_istore_n hC (lv' := [(1, .int x9_), (0, .ref a0)]) dX10_readPeg_34 (by decide) rfl ?_
  refine r_aload_n hC dX10_readPeg_35 1 rfl ?_
  refine r_ldcS hC (i := 42) (by decide) rfl rfl dX10_readPeg_36 ?_
  refine r_iconst hC (v := (0)) dX10_readPeg_38 (by decide) (by decide) (fun x10_ e10 t10 => ?_)
  refine r_sipush hC (v := (999)) dX10_readPeg_39 (by decide) (by decide) (fun x11_ e11 t11 => ?_)
  refine r_callV hC (As := [.ref (g.2.2.1 42), .int x10_, .int x11_]) (rest := []) (ci := 10) (c_X10_readPart g (xL X) K len I9 J9 R hs9 a0 ka0 42 (by decide) x10_ x11_) mT_6_1 mT_1_10 mT_5_238 mT_6_0 mP_56 okX10_readPart ⟨by decide, by decide⟩ rfl (by show kO (K a0) = _; rw [ka0]; rfl) rfl rfl (Nat.le_of_ble_eq_true rfl) ⟨by decide, by decide⟩ dX10_readPeg_42 (aI2 (F := fun st M => P g X 3 45 [(1, .int x9_), (0, .ref a0)] st _ _ M) (M := (K, len, I9, J9, R)) fun x12_ I12 J12 h12 => ?_)
  obtain ⟨hs12, hf12, hfj12, k12_0, k12_1, k12_2, k12_3⟩ := h12
  show P g X 3 45 [(1, .int x9_), (0, .ref a0)] [.int x12_] _ _ (K, len, I12, J12, R)
  have hF12 : Fr K [(10, 3), (10, 10), (11, 8), (11, 9), (11, 10), (11, 11), (11, 12), (11, 13), (41, 999)] I I12 := hF9.trans hf12 rfl rfl
  have hFJ12 : Fr K [(11, 14), (42, 999)] J J12 := hFJ9.trans hfj12 rfl rfl
  refine r_istore_n hC (lv' := [(2, .int x12_), (1, .int x9_), (0, .ref a0)]) dX10_readPeg_45 (by decide) rfl ?_
  refine r_aload_n hC dX10_readPeg_46 2 rfl ?_
  obtain ⟨A9, eA9⟩ : ∃ z : Int32, z = I12 a0 8 := ⟨_, rfl⟩
  have fA9 : A9.toInt = (I12 a0 8).toInt := by rw [eA9]
  have rA9 := hs12.rng ka0 rfl eA9
  refine r_geti hC 9 (ci := 10) rfl u10_in (by decide) mT_5_4 dX10_readPeg_47 ka0 rfl rfl (fun x13_ e13 => ?_)
  have f13 : x13_.toInt = (I12 a0 9).toInt := by rw [e13]
  refine r_iconst hC (v := (5)) dX10_readPeg_50 (by decide) (by decide) (fun x14_ e14 t14 => ?_)
  refine r_icmp_ne hC (tgt := 55) dX10_readPeg_51 (by decide) (fun c15 => ?_) (fun c15 => ?_)
  · refine r_aload_n hC dX10_readPeg_55 2 rfl ?_
    refine r_getr hC 4 (ci := 10) rfl u10_in (by decide) mT_4_239 dX10_readPeg_56 ka0 rfl rfl hbr ?_
    obtain ⟨a16_, hb16, hk16, hn16⟩ := hs12.row krm 11 41 5 (by decide) (by decide)
    refine r_getrN hC 11 (ci := 9) rfl u9_in (by decide) nF_11 dX10_readPeg_59 krm rfl rfl hb16 ?_
    refine r_aload_n hC dX10_readPeg_62 2 rfl ?_
    refine r_getr hC 4 (ci := 10) rfl u10_in (by decide) mT_4_239 dX10_readPeg_63 ka0 rfl rfl hbr ?_
    refine r_getiN hC 3 (ci := 9) rfl u9_in (by decide) nF_3 dX10_readPeg_66 krm rfl rfl (fun x17_ e17 => ?_)
    have r17 := hs12.rng krm rfl e17
    have f17 : x17_.toInt = (I12 rm 3).toInt := by rw [e17]
    have w17 : x17_ = x5_ := by rw [e17]; exact (Eq.trans (hf12.get krm rfl) (Eq.trans (hf9.get krm rfl) (Eq.trans (hf6.get krm rfl) e5.symm)))
    have wt17 : x17_.toInt = x5_.toInt := by rw [w17]
    refine r_iload_n hC dX10_readPeg_69 1 rfl ?_
    refine x_iastore hC hk16 hn16 (by decide) rfl rfl dX10_readPeg_70 (by omega) (by omega) (fun I18 eI18 => ?_)
    have hs18 := hs12.put0 eI18 hk16 (rng_arr (by decide) _) rfl (xF_arr (by decide) _) (by decide)
    have hF18 := hF12.put eI18 hk16 (inS_arr rfl _)
    refine r_aload_n hC dX10_readPeg_71 2 rfl ?_
    refine r_getr hC 4 (ci := 10) rfl u10_in (by decide) mT_4_239 dX10_readPeg_72 ka0 rfl rfl hbr ?_
    obtain ⟨a19_, hb19, hk19, hn19⟩ := hs18.row krm 12 41 5 (by decide) (by decide)
    refine r_getrN hC 12 (ci := 9) rfl u9_in (by decide) nF_12 dX10_readPeg_75 krm rfl rfl hb19 ?_
    refine r_aload_n hC dX10_readPeg_78 2 rfl ?_
    refine r_getr hC 4 (ci := 10) rfl u10_in (by decide) mT_4_239 dX10_readPeg_79 ka0 rfl rfl hbr ?_
    refine r_getiN hC 3 (ci := 9) rfl u9_in (by decide) nF_3 dX10_readPeg_82 krm rfl rfl (fun x20_ e20 => ?_)
    have r20 := hs18.rng krm rfl e20
    have f20 : x20_.toInt = (I18 rm 3).toInt := by rw [e20]
    have w20 : x20_ = x17_ := by rw [e20]; exact (Eq.trans (up2_kk eI18 hk16 krm (by decide)) e17.symm)
    have wt20 : x20_.toInt = x17_.toInt := by rw [w20]
    refine r_iload_n hC dX10_readPeg_85 0 rfl ?_
    refine x_iastore hC hk19 hn19 (by decide) rfl rfl dX10_readPeg_86 (by omega) (by omega) (fun I21 eI21 => ?_)
    have hs21 := hs18.put0 eI21 hk19 (rng_arr (by decide) _) rfl (xF_arr (by decide) _) (by decide)
    have hF21 := hF18.put eI21 hk19 (inS_arr rfl _)
    refine r_aload_n hC dX10_readPeg_87 2 rfl ?_
    refine r_getr hC 4 (ci := 10) rfl u10_in (by decide) mT_4_239 dX10_readPeg_88 ka0 rfl rfl hbr ?_
    refine r_dup hC dX10_readPeg_91 rfl ?_
    refine r_getiN hC 3 (ci := 9) rfl u9_in (by decide) nF_3 dX10_readPeg_92 krm rfl rfl (fun x22_ e22 => ?_)
    have r22 := hs21.rng krm rfl e22
    have f22 : x22_.toInt = (I21 rm 3).toInt := by rw [e22]
    have w22 : x22_ = x20_ := by rw [e22]; exact (Eq.trans (up2_kk eI21 hk19 krm (by decide)) e20.symm)
    have wt22 : x22_.toInt = x20_.toInt := by rw [w22]
    refine r_iconst hC (v := (1)) dX10_readPeg_95 (by decide) (by decide) (fun x23_ e23 t23 => ?_)
    refine r_iadd hC dX10_readPeg_96 (fun x24_ e24 => ?_)
    try have t24 : x24_.toInt = x22_.toInt + x23_.toInt := by rw [e24]; exact ti_add (by omega) (by omega)
    refine r_putiN hC 3 (ci := 9) rfl u9_in tyX9_ok nmX9 (by decide) nF_3 rfl rfl rfl dX10_readPeg_97 krm rfl rfl (fun I25 eI25 => ?_)
    have hs25 := hs21.put1 eI25 krm rfl (by omega) (by omega) rfl rfl (by decide)
    have hF25 := hF21.put eI25 krm rfl
    have hG3 : I25 rm 3 = x24_ := (by rw [eI25]; exact up2_self _ _ _ _)
    have hG3t : (I25 rm 3).toInt = x24_.toInt := congrArg Int32.toInt hG3
    have hG4 : I25 rm 4 = G4 := (Eq.trans (up2_at (Or.inr (by decide)) eI25) (Eq.trans (up2_kk eI21 hk19 krm (by decide)) (Eq.trans (up2_kk eI18 hk16 krm (by decide)) (Eq.trans (hf12.get krm rfl) (Eq.trans (hf9.get krm rfl) (Eq.trans (hf6.get krm rfl) (Eq.trans (hf3.get krm rfl) eG4.symm)))))))
    have hG4t : (I25 rm 4).toInt = G4.toInt := congrArg Int32.toInt hG4
    have hG7 : I25 rm 7 = G7 := (Eq.trans (up2_at (Or.inr (by decide)) eI25) (Eq.trans (up2_kk eI21 hk19 krm (by decide)) (Eq.trans (up2_kk eI18 hk16 krm (by decide)) (Eq.trans (hf12.get krm rfl) (Eq.trans (hf9.get krm rfl) (Eq.trans (hf6.get krm rfl) (Eq.trans (hf3.get krm rfl) eG7.symm)))))))
    have hG7t : (I25 rm 7).toInt = G7.toInt := congrArg Int32.toInt hG7
    have hG8 : I25 rm 8 = G8 := (Eq.trans (up2_at (Or.inr (by decide)) eI25) (Eq.trans (up2_kk eI21 hk19 krm (by decide)) (Eq.trans (up2_kk eI18 hk16 krm (by decide)) (Eq.trans (hf12.get krm rfl) (Eq.trans (hf9.get krm rfl) (Eq.trans (hf6.get krm rfl) (Eq.trans (hf3.get krm rfl) eG8.symm)))))))
    have hG8t : (I25 rm 8).toInt = G8.toInt := congrArg Int32.toInt hG8
    have hG9 : I25 rm 9 = G9 := (Eq.trans (up2_at (Or.inr (by decide)) eI25) (Eq.trans (up2_kk eI21 hk19 krm (by decide)) (Eq.trans (up2_kk eI18 hk16 krm (by decide)) (Eq.trans (hf12.get krm rfl) (Eq.trans (hf9.get krm rfl) (Eq.trans (hf6.get krm rfl) (Eq.trans (hf3.get krm rfl) eG9.symm)))))))
    have hG9t : (I25 rm 9).toInt = G9.toInt := congrArg Int32.toInt hG9
    have hGN : I25 rm 10 = N1 := (Eq.trans (up2_at (Or.inr (by decide)) eI25) (Eq.trans (up2_kk eI21 hk19 krm (by decide)) (Eq.trans (up2_kk eI18 hk16 krm (by decide)) (Eq.trans (hf12.get krm rfl) (Eq.trans (hf9.get krm rfl) eN1.symm)))))
    have hGNt : (I25 rm 10).toInt = N1.toInt := congrArg Int32.toInt hGN
    have hv8 : I25 a0 8 = A9 := (Eq.trans (up2_kk eI25 krm ka0 (by decide)) (Eq.trans (up2_kk eI21 hk19 ka0 (by decide)) (Eq.trans (up2_kk eI18 hk16 ka0 (by decide)) eA9.symm)))
    have hv8t : (I25 a0 8).toInt = A9.toInt := congrArg Int32.toInt hv8
    have hv9 : I25 a0 9 = x13_ := (Eq.trans (up2_kk eI25 krm ka0 (by decide)) (Eq.trans (up2_kk eI21 hk19 ka0 (by decide)) (Eq.trans (up2_kk eI18 hk16 ka0 (by decide)) e13.symm)))
    have hv9t : (I25 a0 9).toInt = x13_.toInt := congrArg Int32.toInt hv9
    exact r_vret hC hQ hlk hr (by decide) (by decide) dX10_readPeg_100 ⟨_, _, rfl, rfl, ⟨hs25, hF25, hFJ12, (by omega), (by omega), (by omega), (by omega)⟩⟩
  · have hG3 : I12 rm 3 = x5_ := (Eq.trans (hf12.get krm rfl) (Eq.trans (hf9.get krm rfl) (Eq.trans (hf6.get krm rfl) e5.symm)))
    have hG3t : (I12 rm 3).toInt = x5_.toInt := congrArg Int32.toInt hG3
    have hG4 : I12 rm 4 = G4 := (Eq.trans (hf12.get krm rfl) (Eq.trans (hf9.get krm rfl) (Eq.trans (hf6.get krm rfl) (Eq.trans (hf3.get krm rfl) eG4.symm))))
    have hG4t : (I12 rm 4).toInt = G4.toInt := congrArg Int32.toInt hG4
    have hG7 : I12 rm 7 = G7 := (Eq.trans (hf12.get krm rfl) (Eq.trans (hf9.get krm rfl) (Eq.trans (hf6.get krm rfl) (Eq.trans (hf3.get krm rfl) eG7.symm))))
    have hG7t : (I12 rm 7).toInt = G7.toInt := congrArg Int32.toInt hG7
    have hG8 : I12 rm 8 = G8 := (Eq.trans (hf12.get krm rfl) (Eq.trans (hf9.get krm rfl) (Eq.trans (hf6.get krm rfl) (Eq.trans (hf3.get krm rfl) eG8.symm))))
    have hG8t : (I12 rm 8).toInt = G8.toInt := congrArg Int32.toInt hG8
    have hG9 : I12 rm 9 = G9 := (Eq.trans (hf12.get krm rfl) (Eq.trans (hf9.get krm rfl) (Eq.trans (hf6.get krm rfl) (Eq.trans (hf3.get krm rfl) eG9.symm))))
    have hG9t : (I12 rm 9).toInt = G9.toInt := congrArg Int32.toInt hG9
    have hGN : I12 rm 10 = N1 := (Eq.trans (hf12.get krm rfl) (Eq.trans (hf9.get krm rfl) eN1.symm))
    have hGNt : (I12 rm 10).toInt = N1.toInt := congrArg Int32.toInt hGN
    have hv8 : I12 a0 8 = A9 := eA9.symm
    have hv8t : (I12 a0 8).toInt = A9.toInt := congrArg Int32.toInt hv8
    have hv9 : I12 a0 9 = x13_ := e13.symm
    have hv9t : (I12 a0 9).toInt = x13_.toInt := congrArg Int32.toInt hv9
    exact r_vret hC hQ hlk hr (by decide) (by decide) dX10_readPeg_54 ⟨_, _, rfl, rfl, ⟨hs12, hF12, hFJ12, (by omega), (by omega), (by omega), (by omega)⟩⟩
set_option maxHeartbeats 4000000 in
set_option maxRecDepth 100000 in
theorem c_X10_readFrom (g : GG) (l : Launch) (K len : Nat → Nat) (I : Nat → Nat → Int32) (J : Nat → Nat → Int64) (R : Nat → Nat → Option Nat) (hs : Sf K len I R) (a0 : Nat) (ka0 : K a0 = 11) (rm : Nat) (hbr : R a0 4 = some rm) (krm : K rm = 10) (p0 : (I a0 9).toInt = 2) (p1 : (I rm 10).toInt ≤ (I rm 3).toInt + (I rm 7).toInt + (I rm 8).toInt + (I rm 9).toInt) (p2 : (I rm 4).toInt ≤ 8) : Ct g l yX10_readFrom cX10_readFrom 3 (Option.none : Option Jvm.ClassFile.FieldType) rmX10_readFrom [.ref a0] (K, len, I, J, R) (pV2 (K, len, I, J, R) (fun I' J' => Sf K len I' R ∧ Fr K [(10, 4), (10, 5), (11, 8), (11, 9), (11, 10), (11, 11), (11, 12), (11, 13), (41, 999)] I I' ∧ Fr K [(11, 14)] J J' ∧ ((I' a0 9).toInt = 5 ∨ (I' rm 10).toInt ≤ (I' rm 3).toInt + (I' rm 7).toInt + (I' rm 8).toInt + (I' rm 9).toInt) ∧ ((I' rm 4).toInt ≤ 8) ∧ ((I a0 8).toInt ≤ (I' a0 8).toInt) ∧ ((I' a0 9).toInt = 4 → (I a0 8).toInt < (I' a0 8).toInt))) := by
  refine Ct_intro (by decide +kernel) (Nat.le_of_ble_eq_true rfl) (fun X hC hL hKK hNm hr hlk hQ => ?_)
  subst hL
  have hC : Cx g X cX10_readFrom "HillTapModel" 3 rmX10_readFrom := hC
  show P g X 3 0 [(0, .ref a0)] [] 0 0 (K, len, I, J, R)
  have hF : Fr K [(10, 4), (10, 5), (11, 8), (11, 9), (11, 10), (11, 11), (11, 12), (11, 13), (41, 999)] I I := Fr.refl
  have hFJ : Fr K [(11, 14)] J J := Fr.refl
  obtain ⟨G3, eG3⟩ : ∃ z : Int32, z = I rm 3 := ⟨_, rfl⟩
  have fG3 : G3.toInt = (I rm 3).toInt := by rw [eG3]
  have rG3 := hs.rng krm rfl eG3
  obtain ⟨G4, eG4⟩ : ∃ z : Int32, z = I rm 4 := ⟨_, rfl⟩
  have fG4 : G4.toInt = (I rm 4).toInt := by rw [eG4]
  have rG4 := hs.rng krm rfl eG4
  obtain ⟨G7, eG7⟩ : ∃ z : Int32, z = I rm 7 := ⟨_, rfl⟩
  have fG7 : G7.toInt = (I rm 7).toInt := by rw [eG7]
  have rG7 := hs.rng krm rfl eG7
  obtain ⟨G8, eG8⟩ : ∃ z : Int32, z = I rm 8 := ⟨_, rfl⟩
  have fG8 : G8.toInt = (I rm 8).toInt := by rw [eG8]
  have rG8 := hs.rng krm rfl eG8
  obtain ⟨G9, eG9⟩ : ∃ z : Int32, z = I rm 9 := ⟨_, rfl⟩
  have fG9 : G9.toInt = (I rm 9).toInt := by rw [eG9]
  have rG9 := hs.rng krm rfl eG9
  obtain ⟨GN, eGN⟩ : ∃ z : Int32, z = I rm 10 := ⟨_, rfl⟩
  have fGN : GN.toInt = (I rm 10).toInt := by rw [eGN]
  have rGN := hs.rng krm rfl eGN
  obtain ⟨A0, eA0⟩ : ∃ z : Int32, z = I a0 8 := ⟨_, rfl⟩
  have fA0 : A0.toInt = (I a0 8).toInt := by rw [eA0]
  have rA0 := hs.rng ka0 rfl eA0
  obtain ⟨T0, eT0⟩ : ∃ z : Int32, z = I a0 9 := ⟨_, rfl⟩
  have fT0 : T0.toInt = (I a0 9).toInt := by rw [eT0]
  refine r_aload_n hC dX10_readFrom_0 0 rfl ?_
  refine r_aload_n hC dX10_readFrom_1 0 rfl ?_
  refine r_getr hC 4 (ci := 10) rfl u10_in (by decide) mT_4_239 dX10_readFrom_2 ka0 rfl rfl hbr ?_
  refine r_getiN hC 4 (ci := 9) rfl u9_in (by decide) nF_4 dX10_readFrom_5 krm rfl rfl (fun x1_ e1 => ?_)
  have r1 := hs.rng krm rfl e1
  have f1 : x1_.toInt = (I rm 4).toInt := by rw [e1]
  have w1 : x1_ = G4 := by rw [e1]; exact eG4.symm
  have wt1 : x1_.toInt = G4.toInt := by rw [w1]
  refine r_bipush hC (v := (8)) dX10_readFrom_8 (by decide) (by decide) (fun x2_ e2 t2 => ?_)
  refine r_callV hC (As := [.int x1_, .int x2_]) (rest := []) (ci := 10) (c_X10_begins g (xL X) K len I J R hs a0 ka0 x1_ x2_) mT_6_19 mT_1_10 mT_6_16 mT_6_18 mP_59 okX10_begins ⟨by decide, by decide⟩ rfl (by show kO (K a0) = _; rw [ka0]; rfl) rfl rfl (Nat.le_of_ble_eq_true rfl) ⟨by decide, by decide⟩ dX10_readFrom_10 (aV2 (F := fun st M => P g X 3 13 [(0, .ref a0)] st _ _ M) (M := (K, len, I, J, R)) fun I3 J3 h3 => ?_)
  obtain ⟨hs3, hf3, hfj3, k3_0, k3_1, k3_2, k3_3⟩ := h3
  show P g X 3 13 [(0, .ref a0)] [] _ _ (K, len, I3, J3, R)
  have hF3 : Fr K [(10, 4), (10, 5), (11, 8), (11, 9), (11, 10), (11, 11), (11, 12), (11, 13), (41, 999)] I I3 := hF.trans hf3 rfl rfl
  have hFJ3 : Fr K [(11, 14)] J J3 := hFJ.trans hfj3 rfl rfl
  refine r_aload_n hC dX10_readFrom_13 0 rfl ?_
  refine r_iconst hC (v := (0)) dX10_readFrom_14 (by decide) (by decide) (fun x4_ e4 t4 => ?_)
  refine r_bipush hC (v := (59)) dX10_readFrom_15 (by decide) (by decide) (fun x5_ e5 t5 => ?_)
  refine r_callV hC (As := [.int x4_, .int x5_]) (rest := []) (ci := 10) (c_X10_readWhole g (xL X) K len I3 J3 R hs3 a0 ka0 x4_ x5_) mT_6_5 mT_1_10 mT_6_2 mT_6_4 mP_57 okX10_readWhole ⟨by decide, by decide⟩ rfl (by show kO (K a0) = _; rw [ka0]; rfl) rfl rfl (Nat.le_of_ble_eq_true rfl) ⟨by decide, by decide⟩ dX10_readFrom_17 (aI2 (F := fun st M => P g X 3 20 [(0, .ref a0)] st _ _ M) (M := (K, len, I3, J3, R)) fun x6_ I6 J6 h6 => ?_)
  obtain ⟨hs6, hf6, hfj6, k6_0, k6_1, k6_2, k6_3⟩ := h6
  show P g X 3 20 [(0, .ref a0)] [.int x6_] _ _ (K, len, I6, J6, R)
  have hF6 : Fr K [(10, 4), (10, 5), (11, 8), (11, 9), (11, 10), (11, 11), (11, 12), (11, 13), (41, 999)] I I6 := hF3.trans hf6 rfl rfl
  have hFJ6 : Fr K [(11, 14)] J J6 := hFJ3.trans hfj6 rfl rfl
  refine r_istore_n hC (lv' := [(1, .int x6_), (0, .ref a0)]) dX10_readFrom_20 (by decide) rfl ?_
  refine r_aload_n hC dX10_readFrom_21 1 rfl ?_
  refine r_ldcS hC (i := 43) (by decide) rfl rfl dX10_readFrom_22 ?_
  refine r_iconst hC (v := (0)) dX10_readFrom_24 (by decide) (by decide) (fun x7_ e7 t7 => ?_)
  refine r_sipush hC (v := (999)) dX10_readFrom_25 (by decide) (by decide) (fun x8_ e8 t8 => ?_)
  refine r_callV hC (As := [.ref (g.2.2.1 43), .int x7_, .int x8_]) (rest := []) (ci := 10) (c_X10_readPart g (xL X) K len I6 J6 R hs6 a0 ka0 43 (by decide) x7_ x8_) mT_6_1 mT_1_10 mT_5_238 mT_6_0 mP_56 okX10_readPart ⟨by decide, by decide⟩ rfl (by show kO (K a0) = _; rw [ka0]; rfl) rfl rfl (Nat.le_of_ble_eq_true rfl) ⟨by decide, by decide⟩ dX10_readFrom_28 (aI2 (F := fun st M => P g X 3 31 [(1, .int x6_), (0, .ref a0)] st _ _ M) (M := (K, len, I6, J6, R)) fun x9_ I9 J9 h9 => ?_)
  obtain ⟨hs9, hf9, hfj9, k9_0, k9_1, k9_2, k9_3⟩ := h9
  show P g X 3 31 [(1, .int x6_), (0, .ref a0)] [.int x9_] _ _ (K, len, I9, J9, R)
  have hF9 : Fr K [(10, 4), (10, 5), (11, 8), (11, 9), (11, 10), (11, 11), (11, 12), (11, 13), (41, 999)] I I9 := hF6.trans hf9 rfl rfl
  have hFJ9 : Fr K [(11, 14)] J J9 := hFJ6.trans hfj9 rfl rfl
  refine r_istore_n hC (lv' := [(2, .int x9_), (1, .int x6_), (0, .ref a0)]) dX10_readFrom_31 (by decide) rfl ?_
  refine r_aload_n hC dX10_readFrom_32 2 rfl ?_
  obtain ⟨A9, eA9⟩ : ∃ z : Int32, z = I9 a0 8 := ⟨_, rfl⟩
  have fA9 : A9.toInt = (I9 a0 8).toInt := by rw [eA9]
  have rA9 := hs9.rng ka0 rfl eA9
  refine r_geti hC 9 (ci := 10) rfl u10_in (by decide) mT_5_4 dX10_readFrom_33 ka0 rfl rfl (fun x10_ e10 => ?_)
  have f10 : x10_.toInt = (I9 a0 9).toInt := by rw [e10]
  refine r_iconst hC (v := (5)) dX10_readFrom_36 (by decide) (by decide) (fun x11_ e11 t11 => ?_)
  refine r_icmp_ne hC (tgt := 41) dX10_readFrom_37 (by decide) (fun c12 => ?_) (fun c12 => ?_)
  · refine r_aload_n hC dX10_readFrom_41 2 rfl ?_
    refine r_getr hC 4 (ci := 10) rfl u10_in (by decide) mT_4_239 dX10_readFrom_42 ka0 rfl rfl hbr ?_
    obtain ⟨a13_, hb13, hk13, hn13⟩ := hs9.row krm 13 41 16 (by decide) (by decide)
    refine r_getrN hC 13 (ci := 9) rfl u9_in (by decide) nF_13 dX10_readFrom_45 krm rfl rfl hb13 ?_
    refine r_aload_n hC dX10_readFrom_48 2 rfl ?_
    refine r_getr hC 4 (ci := 10) rfl u10_in (by decide) mT_4_239 dX10_readFrom_49 ka0 rfl rfl hbr ?_
    refine r_getiN hC 4 (ci := 9) rfl u9_in (by decide) nF_4 dX10_readFrom_52 krm rfl rfl (fun x14_ e14 => ?_)
    have r14 := hs9.rng krm rfl e14
    have f14 : x14_.toInt = (I9 rm 4).toInt := by rw [e14]
    have w14 : x14_ = x1_ := by rw [e14]; exact (Eq.trans (hf9.get krm rfl) (Eq.trans (hf6.get krm rfl) (Eq.trans (hf3.get krm rfl) e1.symm)))
    have wt14 : x14_.toInt = x1_.toInt := by rw [w14]
    refine r_iload_n hC dX10_readFrom_55 1 rfl ?_
    refine x_iastore hC hk13 hn13 (by decide) rfl rfl dX10_readFrom_56 (by omega) (by omega) (fun I15 eI15 => ?_)
    have hs15 := hs9.put0 eI15 hk13 (rng_arr (by decide) _) rfl (xF_arr (by decide) _) (by decide)
    have hF15 := hF9.put eI15 hk13 (inS_arr rfl _)
    refine r_aload_n hC dX10_readFrom_57 2 rfl ?_
    refine r_getr hC 4 (ci := 10) rfl u10_in (by decide) mT_4_239 dX10_readFrom_58 ka0 rfl rfl hbr ?_
    obtain ⟨a16_, hb16, hk16, hn16⟩ := hs15.row krm 14 41 16 (by decide) (by decide)
    refine r_getrN hC 14 (ci := 9) rfl u9_in (by decide) nF_14 dX10_readFrom_61 krm rfl rfl hb16 ?_
    refine r_aload_n hC dX10_readFrom_64 2 rfl ?_
    refine r_getr hC 4 (ci := 10) rfl u10_in (by decide) mT_4_239 dX10_readFrom_65 ka0 rfl rfl hbr ?_
    refine r_getiN hC 4 (ci := 9) rfl u9_in (by decide) nF_4 dX10_readFrom_68 krm rfl rfl (fun x17_ e17 => ?_)
    have r17 := hs15.rng krm rfl e17
    have f17 : x17_.toInt = (I15 rm 4).toInt := by rw [e17]
    have w17 : x17_ = x14_ := by rw [e17]; exact (Eq.trans (up2_kk eI15 hk13 krm (by decide)) e14.symm)
    have wt17 : x17_.toInt = x14_.toInt := by rw [w17]
    refine r_iload_n hC dX10_readFrom_71 0 rfl ?_
    refine x_iastore hC hk16 hn16 (by decide) rfl rfl dX10_readFrom_72 (by omega) (by omega) (fun I18 eI18 => ?_)
    have hs18 := hs15.put0 eI18 hk16 (rng_arr (by decide) _) rfl (xF_arr (by decide) _) (by decide)
    have hF18 := hF15.put eI18 hk16 (inS_arr rfl _)
    refine r_aload_n hC dX10_readFrom_73 2 rfl ?_
    refine r_getr hC 4 (ci := 10) rfl u10_in (by decide) mT_4_239 dX10_readFrom_74 ka0 rfl rfl hbr ?_
    refine r_dup hC dX10_readFrom_77 rfl ?_
    refine r_getiN hC 4 (ci := 9) rfl u9_in (by decide) nF_4 dX10_readFrom_78 krm rfl rfl (fun x19_ e19 => ?_)
    have r19 := hs18.rng krm rfl e19
    have f19 : x19_.toInt = (I18 rm 4).toInt := by rw [e19]
    have w19 : x19_ = x17_ := by rw [e19]; exact (Eq.trans (up2_kk eI18 hk16 krm (by decide)) e17.symm)
    have wt19 : x19_.toInt = x17_.toInt := by rw [w19]
    refine r_iconst hC (v := (1)) dX10_readFrom_81 (by decide) (by decide) (fun x20_ e20 t20 => ?_)
    refine r_iadd hC dX10_readFrom_82 (fun x21_ e21 => ?_)
    try have t21 : x21_.toInt = x19_.toInt + x20_.toInt := by rw [e21]; exact ti_add (by omega) (by omega)
    refine r_putiN hC 4 (ci := 9) rfl u9_in tyX9_ok nmX9 (by decide) nF_4 rfl rfl rfl dX10_readFrom_83 krm rfl rfl (fun I22 eI22 => ?_)
    have hs22 : Sf K len I22 R := hs18.putA4 eI22 krm (by omega) (by omega) (by have h9 := hs18.told krm; omega)
    have hF22 := hF18.put eI22 krm rfl
    refine r_aload_n hC dX10_readFrom_86 2 rfl ?_
    refine r_getr hC 4 (ci := 10) rfl u10_in (by decide) mT_4_239 dX10_readFrom_87 ka0 rfl rfl hbr ?_
    refine r_aload_n hC dX10_readFrom_90 2 rfl ?_
    refine r_getr hC 4 (ci := 10) rfl u10_in (by decide) mT_4_239 dX10_readFrom_91 ka0 rfl rfl hbr ?_
    refine r_getiN hC 4 (ci := 9) rfl u9_in (by decide) nF_4 dX10_readFrom_94 krm rfl rfl (fun x23_ e23 => ?_)
    have r23 := hs22.rng krm rfl e23
    have f23 : x23_.toInt = (I22 rm 4).toInt := by rw [e23]
    have w23 : x23_ = x21_ := by rw [e23]; exact (by rw [eI22]; exact up2_self _ _ _ _)
    have wt23 : x23_.toInt = x21_.toInt := by rw [w23]
    refine r_putiN hC 5 (ci := 9) rfl u9_in tyX9_ok nmX9 (by decide) nF_5 rfl rfl rfl dX10_readFrom_97 krm rfl rfl (fun I24 eI24 => ?_)
    have hs24 : Sf K len I24 R := hs22.putA5 eI24 krm (by omega) (by omega) (by omega)
    have hF24 := hF22.put eI24 krm rfl
    have hG3 : I24 rm 3 = G3 := (Eq.trans (up2_at (Or.inr (by decide)) eI24) (Eq.trans (up2_at (Or.inr (by decide)) eI22) (Eq.trans (up2_kk eI18 hk16 krm (by decide)) (Eq.trans (up2_kk eI15 hk13 krm (by decide)) (Eq.trans (hf9.get krm rfl) (Eq.trans (hf6.get krm rfl) (Eq.trans (hf3.get krm rfl) eG3.symm)))))))
    have hG3t : (I24 rm 3).toInt = G3.toInt := congrArg Int32.toInt hG3
    have hG4 : I24 rm 4 = x23_ := (Eq.trans (up2_at (Or.inr (by decide)) eI24) e23.symm)
    have hG4t : (I24 rm 4).toInt = x23_.toInt := congrArg Int32.toInt hG4
    have hG7 : I24 rm 7 = G7 := (Eq.trans (up2_at (Or.inr (by decide)) eI24) (Eq.trans (up2_at (Or.inr (by decide)) eI22) (Eq.trans (up2_kk eI18 hk16 krm (by decide)) (Eq.trans (up2_kk eI15 hk13 krm (by decide)) (Eq.trans (hf9.get krm rfl) (Eq.trans (hf6.get krm rfl) (Eq.trans (hf3.get krm rfl) eG7.symm)))))))
    have hG7t : (I24 rm 7).toInt = G7.toInt := congrArg Int32.toInt hG7
    have hG8 : I24 rm 8 = G8 := (Eq.trans (up2_at (Or.inr (by decide)) eI24) (Eq.trans (up2_at (Or.inr (by decide)) eI22) (Eq.trans (up2_kk eI18 hk16 krm (by decide)) (Eq.trans (up2_kk eI15 hk13 krm (by decide)) (Eq.trans (hf9.get krm rfl) (Eq.trans (hf6.get krm rfl) (Eq.trans (hf3.get krm rfl) eG8.symm)))))))
    have hG8t : (I24 rm 8).toInt = G8.toInt := congrArg Int32.toInt hG8
    have hG9 : I24 rm 9 = G9 := (Eq.trans (up2_at (Or.inr (by decide)) eI24) (Eq.trans (up2_at (Or.inr (by decide)) eI22) (Eq.trans (up2_kk eI18 hk16 krm (by decide)) (Eq.trans (up2_kk eI15 hk13 krm (by decide)) (Eq.trans (hf9.get krm rfl) (Eq.trans (hf6.get krm rfl) (Eq.trans (hf3.get krm rfl) eG9.symm)))))))
    have hG9t : (I24 rm 9).toInt = G9.toInt := congrArg Int32.toInt hG9
    have hGN : I24 rm 10 = GN := (Eq.trans (up2_at (Or.inr (by decide)) eI24) (Eq.trans (up2_at (Or.inr (by decide)) eI22) (Eq.trans (up2_kk eI18 hk16 krm (by decide)) (Eq.trans (up2_kk eI15 hk13 krm (by decide)) (Eq.trans (hf9.get krm rfl) (Eq.trans (hf6.get krm rfl) (Eq.trans (hf3.get krm rfl) eGN.symm)))))))
    have hGNt : (I24 rm 10).toInt = GN.toInt := congrArg Int32.toInt hGN
    have hv8 : I24 a0 8 = A9 := (Eq.trans (up2_kk eI24 krm ka0 (by decide)) (Eq.trans (up2_kk eI22 krm ka0 (by decide)) (Eq.trans (up2_kk eI18 hk16 ka0 (by decide)) (Eq.trans (up2_kk eI15 hk13 ka0 (by decide)) eA9.symm))))
    have hv8t : (I24 a0 8).toInt = A9.toInt := congrArg Int32.toInt hv8
    have hv9 : I24 a0 9 = x10_ := (Eq.trans (up2_kk eI24 krm ka0 (by decide)) (Eq.trans (up2_kk eI22 krm ka0 (by decide)) (Eq.trans (up2_kk eI18 hk16 ka0 (by decide)) (Eq.trans (up2_kk eI15 hk13 ka0 (by decide)) e10.symm))))
    have hv9t : (I24 a0 9).toInt = x10_.toInt := congrArg Int32.toInt hv9
    exact r_vret hC hQ hlk hr (by decide) (by decide) dX10_readFrom_100 ⟨_, _, rfl, rfl, ⟨hs24, hF24, hFJ9, (by omega), (by omega), (by omega), (by omega)⟩⟩
  · have hG3 : I9 rm 3 = G3 := (Eq.trans (hf9.get krm rfl) (Eq.trans (hf6.get krm rfl) (Eq.trans (hf3.get krm rfl) eG3.symm)))
    have hG3t : (I9 rm 3).toInt = G3.toInt := congrArg Int32.toInt hG3
    have hG4 : I9 rm 4 = x1_ := (Eq.trans (hf9.get krm rfl) (Eq.trans (hf6.get krm rfl) (Eq.trans (hf3.get krm rfl) e1.symm)))
    have hG4t : (I9 rm 4).toInt = x1_.toInt := congrArg Int32.toInt hG4
    have hG7 : I9 rm 7 = G7 := (Eq.trans (hf9.get krm rfl) (Eq.trans (hf6.get krm rfl) (Eq.trans (hf3.get krm rfl) eG7.symm)))
    have hG7t : (I9 rm 7).toInt = G7.toInt := congrArg Int32.toInt hG7
    have hG8 : I9 rm 8 = G8 := (Eq.trans (hf9.get krm rfl) (Eq.trans (hf6.get krm rfl) (Eq.trans (hf3.get krm rfl) eG8.symm)))
    have hG8t : (I9 rm 8).toInt = G8.toInt := congrArg Int32.toInt hG8
    have hG9 : I9 rm 9 = G9 := (Eq.trans (hf9.get krm rfl) (Eq.trans (hf6.get krm rfl) (Eq.trans (hf3.get krm rfl) eG9.symm)))
    have hG9t : (I9 rm 9).toInt = G9.toInt := congrArg Int32.toInt hG9
    have hGN : I9 rm 10 = GN := (Eq.trans (hf9.get krm rfl) (Eq.trans (hf6.get krm rfl) (Eq.trans (hf3.get krm rfl) eGN.symm)))
    have hGNt : (I9 rm 10).toInt = GN.toInt := congrArg Int32.toInt hGN
    have hv8 : I9 a0 8 = A9 := eA9.symm
    have hv8t : (I9 a0 8).toInt = A9.toInt := congrArg Int32.toInt hv8
    have hv9 : I9 a0 9 = x10_ := e10.symm
    have hv9t : (I9 a0 9).toInt = x10_.toInt := congrArg Int32.toInt hv9
    exact r_vret hC hQ hlk hr (by decide) (by decide) dX10_readFrom_40 ⟨_, _, rfl, rfl, ⟨hs9, hF9, hFJ9, (by omega), (by omega), (by omega), (by omega)⟩⟩
set_option maxHeartbeats 4000000 in
set_option maxRecDepth 100000 in
theorem c_X10_readRain (g : GG) (l : Launch) (K len : Nat → Nat) (I : Nat → Nat → Int32) (J : Nat → Nat → Int64) (R : Nat → Nat → Option Nat) (hs : Sf K len I R) (a0 : Nat) (ka0 : K a0 = 11) (rm : Nat) (hbr : R a0 4 = some rm) (krm : K rm = 10) (p0 : (I a0 9).toInt = 2) (p1 : (I rm 10).toInt ≤ (I rm 3).toInt + (I rm 7).toInt + (I rm 8).toInt + (I rm 9).toInt) (p2 : (I rm 4).toInt ≤ 8) : Ct g l yX10_readRain cX10_readRain 3 (Option.none : Option Jvm.ClassFile.FieldType) rmX10_readRain [.ref a0] (K, len, I, J, R) (pV2 (K, len, I, J, R) (fun I' J' => Sf K len I' R ∧ Fr K [(10, 6), (11, 8), (11, 9), (11, 10), (11, 11), (11, 12), (11, 13), (41, 999)] I I' ∧ Fr K [(11, 14)] J J' ∧ ((I' a0 9).toInt = 5 ∨ (I' rm 10).toInt ≤ (I' rm 3).toInt + (I' rm 7).toInt + (I' rm 8).toInt + (I' rm 9).toInt) ∧ ((I' rm 4).toInt ≤ 8) ∧ ((I a0 8).toInt ≤ (I' a0 8).toInt) ∧ ((I' a0 9).toInt = 4 → (I a0 8).toInt < (I' a0 8).toInt))) := by
  refine Ct_intro (by decide +kernel) (Nat.le_of_ble_eq_true rfl) (fun X hC hL hKK hNm hr hlk hQ => ?_)
  subst hL
  have hC : Cx g X cX10_readRain "HillTapModel" 3 rmX10_readRain := hC
  show P g X 3 0 [(0, .ref a0)] [] 0 0 (K, len, I, J, R)
  have hF : Fr K [(10, 6), (11, 8), (11, 9), (11, 10), (11, 11), (11, 12), (11, 13), (41, 999)] I I := Fr.refl
  have hFJ : Fr K [(11, 14)] J J := Fr.refl
  obtain ⟨G3, eG3⟩ : ∃ z : Int32, z = I rm 3 := ⟨_, rfl⟩
  have fG3 : G3.toInt = (I rm 3).toInt := by rw [eG3]
  have rG3 := hs.rng krm rfl eG3
  obtain ⟨G4, eG4⟩ : ∃ z : Int32, z = I rm 4 := ⟨_, rfl⟩
  have fG4 : G4.toInt = (I rm 4).toInt := by rw [eG4]
  have rG4 := hs.rng krm rfl eG4
  obtain ⟨G7, eG7⟩ : ∃ z : Int32, z = I rm 7 := ⟨_, rfl⟩
  have fG7 : G7.toInt = (I rm 7).toInt := by rw [eG7]
  have rG7 := hs.rng krm rfl eG7
  obtain ⟨G8, eG8⟩ : ∃ z : Int32, z = I rm 8 := ⟨_, rfl⟩
  have fG8 : G8.toInt = (I rm 8).toInt := by rw [eG8]
  have rG8 := hs.rng krm rfl eG8
  obtain ⟨G9, eG9⟩ : ∃ z : Int32, z = I rm 9 := ⟨_, rfl⟩
  have fG9 : G9.toInt = (I rm 9).toInt := by rw [eG9]
  have rG9 := hs.rng krm rfl eG9
  obtain ⟨GN, eGN⟩ : ∃ z : Int32, z = I rm 10 := ⟨_, rfl⟩
  have fGN : GN.toInt = (I rm 10).toInt := by rw [eGN]
  have rGN := hs.rng krm rfl eGN
  obtain ⟨A0, eA0⟩ : ∃ z : Int32, z = I a0 8 := ⟨_, rfl⟩
  have fA0 : A0.toInt = (I a0 8).toInt := by rw [eA0]
  have rA0 := hs.rng ka0 rfl eA0
  obtain ⟨T0, eT0⟩ : ∃ z : Int32, z = I a0 9 := ⟨_, rfl⟩
  have fT0 : T0.toInt = (I a0 9).toInt := by rw [eT0]
  refine r_aload_n hC dX10_readRain_0 0 rfl ?_
  refine r_aload_n hC dX10_readRain_1 0 rfl ?_
  refine r_getr hC 4 (ci := 10) rfl u10_in (by decide) mT_4_239 dX10_readRain_2 ka0 rfl rfl hbr ?_
  refine r_getiN hC 6 (ci := 9) rfl u9_in (by decide) nF_6 dX10_readRain_5 krm rfl rfl (fun x1_ e1 => ?_)
  have r1 := hs.rng krm rfl e1
  have f1 : x1_.toInt = (I rm 6).toInt := by rw [e1]
  refine r_bipush hC (v := (6)) dX10_readRain_8 (by decide) (by decide) (fun x2_ e2 t2 => ?_)
  refine r_callV hC (As := [.int x1_, .int x2_]) (rest := []) (ci := 10) (c_X10_begins g (xL X) K len I J R hs a0 ka0 x1_ x2_) mT_6_19 mT_1_10 mT_6_16 mT_6_18 mP_59 okX10_begins ⟨by decide, by decide⟩ rfl (by show kO (K a0) = _; rw [ka0]; rfl) rfl rfl (Nat.le_of_ble_eq_true rfl) ⟨by decide, by decide⟩ dX10_readRain_10 (aV2 (F := fun st M => P g X 3 13 [(0, .ref a0)] st _ _ M) (M := (K, len, I, J, R)) fun I3 J3 h3 => ?_)
  obtain ⟨hs3, hf3, hfj3, k3_0, k3_1, k3_2, k3_3⟩ := h3
  show P g X 3 13 [(0, .ref a0)] [] _ _ (K, len, I3, J3, R)
  have hF3 : Fr K [(10, 6), (11, 8), (11, 9), (11, 10), (11, 11), (11, 12), (11, 13), (41, 999)] I I3 := hF.trans hf3 rfl rfl
  have hFJ3 : Fr K [(11, 14)] J J3 := hFJ.trans hfj3 rfl rfl
  refine r_aload_n hC dX10_readRain_13 0 rfl ?_
  refine r_iconst hC (v := (0)) dX10_readRain_14 (by decide) (by decide) (fun x4_ e4 t4 => ?_)
  refine r_bipush hC (v := (59)) dX10_readRain_15 (by decide) (by decide) (fun x5_ e5 t5 => ?_)
  refine r_callV hC (As := [.int x4_, .int x5_]) (rest := []) (ci := 10) (c_X10_readWhole g (xL X) K len I3 J3 R hs3 a0 ka0 x4_ x5_) mT_6_5 mT_1_10 mT_6_2 mT_6_4 mP_57 okX10_readWhole ⟨by decide, by decide⟩ rfl (by show kO (K a0) = _; rw [ka0]; rfl) rfl rfl (Nat.le_of_ble_eq_true rfl) ⟨by decide, by decide⟩ dX10_readRain_17 (aI2 (F := fun st M => P g X 3 20 [(0, .ref a0)] st _ _ M) (M := (K, len, I3, J3, R)) fun x6_ I6 J6 h6 => ?_)
  obtain ⟨hs6, hf6, hfj6, k6_0, k6_1, k6_2, k6_3⟩ := h6
  show P g X 3 20 [(0, .ref a0)] [.int x6_] _ _ (K, len, I6, J6, R)
  have hF6 : Fr K [(10, 6), (11, 8), (11, 9), (11, 10), (11, 11), (11, 12), (11, 13), (41, 999)] I I6 := hF3.trans hf6 rfl rfl
  have hFJ6 : Fr K [(11, 14)] J J6 := hFJ3.trans hfj6 rfl rfl
  refine r_istore_n hC (lv' := [(1, .int x6_), (0, .ref a0)]) dX10_readRain_20 (by decide) rfl ?_
  refine r_aload_n hC dX10_readRain_21 1 rfl ?_
  refine r_ldcS hC (i := 44) (by decide) rfl rfl dX10_readRain_22 ?_
  refine r_iconst hC (v := (1)) dX10_readRain_24 (by decide) (by decide) (fun x7_ e7 t7 => ?_)
  refine r_bipush hC (v := (99)) dX10_readRain_25 (by decide) (by decide) (fun x8_ e8 t8 => ?_)
  refine r_callV hC (As := [.ref (g.2.2.1 44), .int x7_, .int x8_]) (rest := []) (ci := 10) (c_X10_readPart g (xL X) K len I6 J6 R hs6 a0 ka0 44 (by decide) x7_ x8_) mT_6_1 mT_1_10 mT_5_238 mT_6_0 mP_56 okX10_readPart ⟨by decide, by decide⟩ rfl (by show kO (K a0) = _; rw [ka0]; rfl) rfl rfl (Nat.le_of_ble_eq_true rfl) ⟨by decide, by decide⟩ dX10_readRain_27 (aI2 (F := fun st M => P g X 3 30 [(1, .int x6_), (0, .ref a0)] st _ _ M) (M := (K, len, I6, J6, R)) fun x9_ I9 J9 h9 => ?_)
  obtain ⟨hs9, hf9, hfj9, k9_0, k9_1, k9_2, k9_3⟩ := h9
  show P g X 3 30 [(1, .int x6_), (0, .ref a0)] [.int x9_] _ _ (K, len, I9, J9, R)
  have hF9 : Fr K [(10, 6), (11, 8), (11, 9), (11, 10), (11, 11), (11, 12), (11, 13), (41, 999)] I I9 := hF6.trans hf9 rfl rfl
  have hFJ9 : Fr K [(11, 14)] J J9 := hFJ6.trans hfj9 rfl rfl
  refine r_istore_n hC (lv' := [(2, .int x9_), (1, .int x6_), (0, .ref a0)]) dX10_readRain_30 (by decide) rfl ?_
  refine r_aload_n hC dX10_readRain_31 2 rfl ?_
  obtain ⟨A9, eA9⟩ : ∃ z : Int32, z = I9 a0 8 := ⟨_, rfl⟩
  have fA9 : A9.toInt = (I9 a0 8).toInt := by rw [eA9]
  have rA9 := hs9.rng ka0 rfl eA9
  refine r_geti hC 9 (ci := 10) rfl u10_in (by decide) mT_5_4 dX10_readRain_32 ka0 rfl rfl (fun x10_ e10 => ?_)
  have f10 : x10_.toInt = (I9 a0 9).toInt := by rw [e10]
  refine r_iconst hC (v := (5)) dX10_readRain_35 (by decide) (by decide) (fun x11_ e11 t11 => ?_)
  refine r_icmp_ne hC (tgt := 40) dX10_readRain_36 (by decide) (fun c12 => ?_) (fun c12 => ?_)
  · refine r_aload_n hC dX10_readRain_40 2 rfl ?_
    refine r_getr hC 4 (ci := 10) rfl u10_in (by decide) mT_4_239 dX10_readRain_41 ka0 rfl rfl hbr ?_
    obtain ⟨a13_, hb13, hk13, hn13⟩ := hs9.row krm 15 41 60 (by decide) (by decide)
    refine r_getrN hC 15 (ci := 9) rfl u9_in (by decide) nF_15 dX10_readRain_44 krm rfl rfl hb13 ?_
    refine r_iload_n hC dX10_readRain_47 1 rfl ?_
    refine r_dup2 hC dX10_readRain_48 rfl rfl ?_
    refine x_iaload hC hk13 hn13 (by decide) rfl rfl dX10_readRain_49 (by omega) (by omega) (fun x14_ e14 => ?_)
    refine r_iload_n hC dX10_readRain_50 0 rfl ?_
    refine r_iadd hC dX10_readRain_51 (fun x15_ e15 => ?_)
    try have t15 : x15_.toInt = x14_.toInt + x9_.toInt := by rw [e15]; exact ti_add (by omega) (by omega)
    refine x_iastore hC hk13 hn13 (by decide) rfl rfl dX10_readRain_52 (by omega) (by omega) (fun I16 eI16 => ?_)
    have hs16 := hs9.put0 eI16 hk13 (rng_arr (by decide) _) rfl (xF_arr (by decide) _) (by decide)
    have hF16 := hF9.put eI16 hk13 (inS_arr rfl _)
    refine r_aload_n hC dX10_readRain_53 2 rfl ?_
    refine r_getr hC 4 (ci := 10) rfl u10_in (by decide) mT_4_239 dX10_readRain_54 ka0 rfl rfl hbr ?_
    refine r_dup hC dX10_readRain_57 rfl ?_
    refine r_getiN hC 6 (ci := 9) rfl u9_in (by decide) nF_6 dX10_readRain_58 krm rfl rfl (fun x17_ e17 => ?_)
    have r17 := hs16.rng krm rfl e17
    have f17 : x17_.toInt = (I16 rm 6).toInt := by rw [e17]
    have w17 : x17_ = x1_ := by rw [e17]; exact (Eq.trans (up2_kk eI16 hk13 krm (by decide)) (Eq.trans (hf9.get krm rfl) (Eq.trans (hf6.get krm rfl) (Eq.trans (hf3.get krm rfl) e1.symm))))
    have wt17 : x17_.toInt = x1_.toInt := by rw [w17]
    refine r_iconst hC (v := (1)) dX10_readRain_61 (by decide) (by decide) (fun x18_ e18 t18 => ?_)
    refine r_iadd hC dX10_readRain_62 (fun x19_ e19 => ?_)
    try have t19 : x19_.toInt = x17_.toInt + x18_.toInt := by rw [e19]; exact ti_add (by omega) (by omega)
    refine r_putiN hC 6 (ci := 9) rfl u9_in tyX9_ok nmX9 (by decide) nF_6 rfl rfl rfl dX10_readRain_63 krm rfl rfl (fun I20 eI20 => ?_)
    have hs20 := hs16.put1 eI20 krm rfl (by omega) (by omega) rfl rfl (by decide)
    have hF20 := hF16.put eI20 krm rfl
    have hG3 : I20 rm 3 = G3 := (Eq.trans (up2_at (Or.inr (by decide)) eI20) (Eq.trans (up2_kk eI16 hk13 krm (by decide)) (Eq.trans (hf9.get krm rfl) (Eq.trans (hf6.get krm rfl) (Eq.trans (hf3.get krm rfl) eG3.symm)))))
    have hG3t : (I20 rm 3).toInt = G3.toInt := congrArg Int32.toInt hG3
    have hG4 : I20 rm 4 = G4 := (Eq.trans (up2_at (Or.inr (by decide)) eI20) (Eq.trans (up2_kk eI16 hk13 krm (by decide)) (Eq.trans (hf9.get krm rfl) (Eq.trans (hf6.get krm rfl) (Eq.trans (hf3.get krm rfl) eG4.symm)))))
    have hG4t : (I20 rm 4).toInt = G4.toInt := congrArg Int32.toInt hG4
    have hG7 : I20 rm 7 = G7 := (Eq.trans (up2_at (Or.inr (by decide)) eI20) (Eq.trans (up2_kk eI16 hk13 krm (by decide)) (Eq.trans (hf9.get krm rfl) (Eq.trans (hf6.get krm rfl) (Eq.trans (hf3.get krm rfl) eG7.symm)))))
    have hG7t : (I20 rm 7).toInt = G7.toInt := congrArg Int32.toInt hG7
    have hG8 : I20 rm 8 = G8 := (Eq.trans (up2_at (Or.inr (by decide)) eI20) (Eq.trans (up2_kk eI16 hk13 krm (by decide)) (Eq.trans (hf9.get krm rfl) (Eq.trans (hf6.get krm rfl) (Eq.trans (hf3.get krm rfl) eG8.symm)))))
    have hG8t : (I20 rm 8).toInt = G8.toInt := congrArg Int32.toInt hG8
    have hG9 : I20 rm 9 = G9 := (Eq.trans (up2_at (Or.inr (by decide)) eI20) (Eq.trans (up2_kk eI16 hk13 krm (by decide)) (Eq.trans (hf9.get krm rfl) (Eq.trans (hf6.get krm rfl) (Eq.trans (hf3.get krm rfl) eG9.symm)))))
    have hG9t : (I20 rm 9).toInt = G9.toInt := congrArg Int32.toInt hG9
    have hGN : I20 rm 10 = GN := (Eq.trans (up2_at (Or.inr (by decide)) eI20) (Eq.trans (up2_kk eI16 hk13 krm (by decide)) (Eq.trans (hf9.get krm rfl) (Eq.trans (hf6.get krm rfl) (Eq.trans (hf3.get krm rfl) eGN.symm)))))
    have hGNt : (I20 rm 10).toInt = GN.toInt := congrArg Int32.toInt hGN
    have hv8 : I20 a0 8 = A9 := (Eq.trans (up2_kk eI20 krm ka0 (by decide)) (Eq.trans (up2_kk eI16 hk13 ka0 (by decide)) eA9.symm))
    have hv8t : (I20 a0 8).toInt = A9.toInt := congrArg Int32.toInt hv8
    have hv9 : I20 a0 9 = x10_ := (Eq.trans (up2_kk eI20 krm ka0 (by decide)) (Eq.trans (up2_kk eI16 hk13 ka0 (by decide)) e10.symm))
    have hv9t : (I20 a0 9).toInt = x10_.toInt := congrArg Int32.toInt hv9
    exact r_vret hC hQ hlk hr (by decide) (by decide) dX10_readRain_66 ⟨_, _, rfl, rfl, ⟨hs20, hF20, hFJ9, (by omega), (by omega), (by omega), (by omega)⟩⟩
  · have hG3 : I9 rm 3 = G3 := (Eq.trans (hf9.get krm rfl) (Eq.trans (hf6.get krm rfl) (Eq.trans (hf3.get krm rfl) eG3.symm)))
    have hG3t : (I9 rm 3).toInt = G3.toInt := congrArg Int32.toInt hG3
    have hG4 : I9 rm 4 = G4 := (Eq.trans (hf9.get krm rfl) (Eq.trans (hf6.get krm rfl) (Eq.trans (hf3.get krm rfl) eG4.symm)))
    have hG4t : (I9 rm 4).toInt = G4.toInt := congrArg Int32.toInt hG4
    have hG7 : I9 rm 7 = G7 := (Eq.trans (hf9.get krm rfl) (Eq.trans (hf6.get krm rfl) (Eq.trans (hf3.get krm rfl) eG7.symm)))
    have hG7t : (I9 rm 7).toInt = G7.toInt := congrArg Int32.toInt hG7
    have hG8 : I9 rm 8 = G8 := (Eq.trans (hf9.get krm rfl) (Eq.trans (hf6.get krm rfl) (Eq.trans (hf3.get krm rfl) eG8.symm)))
    have hG8t : (I9 rm 8).toInt = G8.toInt := congrArg Int32.toInt hG8
    have hG9 : I9 rm 9 = G9 := (Eq.trans (hf9.get krm rfl) (Eq.trans (hf6.get krm rfl) (Eq.trans (hf3.get krm rfl) eG9.symm)))
    have hG9t : (I9 rm 9).toInt = G9.toInt := congrArg Int32.toInt hG9
    have hGN : I9 rm 10 = GN := (Eq.trans (hf9.get krm rfl) (Eq.trans (hf6.get krm rfl) (Eq.trans (hf3.get krm rfl) eGN.symm)))
    have hGNt : (I9 rm 10).toInt = GN.toInt := congrArg Int32.toInt hGN
    have hv8 : I9 a0 8 = A9 := eA9.symm
    have hv8t : (I9 a0 8).toInt = A9.toInt := congrArg Int32.toInt hv8
    have hv9 : I9 a0 9 = x10_ := e10.symm
    have hv9t : (I9 a0 9).toInt = x10_.toInt := congrArg Int32.toInt hv9
    exact r_vret hC hQ hlk hr (by decide) (by decide) dX10_readRain_39 ⟨_, _, rfl, rfl, ⟨hs9, hF9, hFJ9, (by omega), (by omega), (by omega), (by omega)⟩⟩
set_option maxHeartbeats 4000000 in
set_option maxRecDepth 100000 in
theorem c_X10_readStory (g : GG) (l : Launch) (K len : Nat → Nat) (I : Nat → Nat → Int32) (J : Nat → Nat → Int64) (R : Nat → Nat → Option Nat) (hs : Sf K len I R) (a0 : Nat) (ka0 : K a0 = 11) (rm : Nat) (hbr : R a0 4 = some rm) (krm : K rm = 10) (p0 : (I a0 9).toInt = 2) (p1 : (I rm 10).toInt ≤ (I rm 3).toInt + (I rm 7).toInt + (I rm 8).toInt + (I rm 9).toInt) (p2 : (I rm 4).toInt ≤ 8) : Ct g l yX10_readStory cX10_readStory 5 (Option.none : Option Jvm.ClassFile.FieldType) rmX10_readStory [.ref a0] (K, len, I, J, R) (pV2 (K, len, I, J, R) (fun I' J' => Sf K len I' R ∧ Fr K [(10, 7), (10, 10), (11, 8), (11, 9), (11, 10), (11, 11), (11, 12), (11, 13), (41, 999), (1000, 999)] I I' ∧ Fr K [(11, 14), (42, 999)] J J' ∧ ((I' a0 9).toInt = 5 ∨ (I' rm 10).toInt ≤ (I' rm 3).toInt + (I' rm 7).toInt + (I' rm 8).toInt + (I' rm 9).toInt) ∧ ((I' rm 4).toInt ≤ 8) ∧ ((I a0 8).toInt ≤ (I' a0 8).toInt) ∧ ((I' a0 9).toInt = 4 → (I a0 8).toInt < (I' a0 8).toInt))) := by
  refine Ct_intro (by decide +kernel) (Nat.le_of_ble_eq_true rfl) (fun X hC hL hKK hNm hr hlk hQ => ?_)
  subst hL
  have hC : Cx g X cX10_readStory "HillTapModel" 5 rmX10_readStory := hC
  show P g X 5 0 [(0, .ref a0)] [] 0 0 (K, len, I, J, R)
  have hF : Fr K [(10, 7), (10, 10), (11, 8), (11, 9), (11, 10), (11, 11), (11, 12), (11, 13), (41, 999), (1000, 999)] I I := Fr.refl
  have hFJ : Fr K [(11, 14), (42, 999)] J J := Fr.refl
  obtain ⟨G3, eG3⟩ : ∃ z : Int32, z = I rm 3 := ⟨_, rfl⟩
  have fG3 : G3.toInt = (I rm 3).toInt := by rw [eG3]
  have rG3 := hs.rng krm rfl eG3
  obtain ⟨G4, eG4⟩ : ∃ z : Int32, z = I rm 4 := ⟨_, rfl⟩
  have fG4 : G4.toInt = (I rm 4).toInt := by rw [eG4]
  have rG4 := hs.rng krm rfl eG4
  obtain ⟨G7, eG7⟩ : ∃ z : Int32, z = I rm 7 := ⟨_, rfl⟩
  have fG7 : G7.toInt = (I rm 7).toInt := by rw [eG7]
  have rG7 := hs.rng krm rfl eG7
  obtain ⟨G8, eG8⟩ : ∃ z : Int32, z = I rm 8 := ⟨_, rfl⟩
  have fG8 : G8.toInt = (I rm 8).toInt := by rw [eG8]
  have rG8 := hs.rng krm rfl eG8
  obtain ⟨G9, eG9⟩ : ∃ z : Int32, z = I rm 9 := ⟨_, rfl⟩
  have fG9 : G9.toInt = (I rm 9).toInt := by rw [eG9]
  have rG9 := hs.rng krm rfl eG9
  obtain ⟨GN, eGN⟩ : ∃ z : Int32, z = I rm 10 := ⟨_, rfl⟩
  have fGN : GN.toInt = (I rm 10).toInt := by rw [eGN]
  have rGN := hs.rng krm rfl eGN
  obtain ⟨A0, eA0⟩ : ∃ z : Int32, z = I a0 8 := ⟨_, rfl⟩
  have fA0 : A0.toInt = (I a0 8).toInt := by rw [eA0]
  have rA0 := hs.rng ka0 rfl eA0
  obtain ⟨T0, eT0⟩ : ∃ z : Int32, z = I a0 9 := ⟨_, rfl⟩
  have fT0 : T0.toInt = (I a0 9).toInt := by rw [eT0]
  refine r_aload_n hC dX10_readStory_0 0 rfl ?_
  refine r_aload_n hC dX10_readStory_1 0 rfl ?_
  refine r_getr hC 4 (ci := 10) rfl u10_in (by decide) mT_4_239 dX10_readStory_2 ka0 rfl rfl hbr ?_
  refine r_getiN hC 7 (ci := 9) rfl u9_in (by decide) nF_7 dX10_readStory_5 krm rfl rfl (fun x1_ e1 => ?_)
  have r1 := hs.rng krm rfl e1
  have f1 : x1_.toInt = (I rm 7).toInt := by rw [e1]
  have w1 : x1_ = G7 := by rw [e1]; exact eG7.symm
  have wt1 : x1_.toInt = G7.toInt := by rw [w1]
  refine r_bipush hC (v := (6)) dX10_readStory_8 (by decide) (by decide) (fun x2_ e2 t2 => ?_)
  refine r_callV hC (As := [.int x1_, .int x2_]) (rest := []) (ci := 10) (c_X10_begins g (xL X) K len I J R hs a0 ka0 x1_ x2_) mT_6_19 mT_1_10 mT_6_16 mT_6_18 mP_59 okX10_begins ⟨by decide, by decide⟩ rfl (by show kO (K a0) = _; rw [ka0]; rfl) rfl rfl (Nat.le_of_ble_eq_true rfl) ⟨by decide, by decide⟩ dX10_readStory_10 (aV2 (F := fun st M => P g X 5 13 [(0, .ref a0)] st _ _ M) (M := (K, len, I, J, R)) fun I3 J3 h3 => ?_)
  obtain ⟨hs3, hf3, hfj3, k3_0, k3_1, k3_2, k3_3⟩ := h3
  show P g X 5 13 [(0, .ref a0)] [] _ _ (K, len, I3, J3, R)
  have hF3 : Fr K [(10, 7), (10, 10), (11, 8), (11, 9), (11, 10), (11, 11), (11, 12), (11, 13), (41, 999), (1000, 999)] I I3 := hF.trans hf3 rfl rfl
  have hFJ3 : Fr K [(11, 14), (42, 999)] J J3 := hFJ.trans hfj3 rfl rfl
  refine r_aload_n hC dX10_readStory_13 0 rfl ?_
  refine r_iconst hC (v := (1)) dX10_readStory_14 (by decide) (by decide) (fun x4_ e4 t4 => ?_)
  refine r_aload_n hC dX10_readStory_15 0 rfl ?_
  refine r_getr hC 4 (ci := 10) rfl u10_in (by decide) mT_4_239 dX10_readStory_16 ka0 rfl rfl hbr ?_
  refine r_getiN hC 7 (ci := 9) rfl u9_in (by decide) nF_7 dX10_readStory_19 krm rfl rfl (fun x5_ e5 => ?_)
  have r5 := hs3.rng krm rfl e5
  have f5 : x5_.toInt = (I3 rm 7).toInt := by rw [e5]
  have w5 : x5_ = x1_ := by rw [e5]; exact (Eq.trans (hf3.get krm rfl) e1.symm)
  have wt5 : x5_.toInt = x1_.toInt := by rw [w5]
  have qG3 : I3 rm 3 = G3 := (Eq.trans (hf3.get krm rfl) eG3.symm)
  have qG3t : (I3 rm 3).toInt = G3.toInt := congrArg Int32.toInt qG3
  have qG4 : I3 rm 4 = G4 := (Eq.trans (hf3.get krm rfl) eG4.symm)
  have qG4t : (I3 rm 4).toInt = G4.toInt := congrArg Int32.toInt qG4
  have qG7 : I3 rm 7 = x5_ := e5.symm
  have qG7t : (I3 rm 7).toInt = x5_.toInt := congrArg Int32.toInt qG7
  have qG8 : I3 rm 8 = G8 := (Eq.trans (hf3.get krm rfl) eG8.symm)
  have qG8t : (I3 rm 8).toInt = G8.toInt := congrArg Int32.toInt qG8
  have qG9 : I3 rm 9 = G9 := (Eq.trans (hf3.get krm rfl) eG9.symm)
  have qG9t : (I3 rm 9).toInt = G9.toInt := congrArg Int32.toInt qG9
  have qGN : I3 rm 10 = GN := (Eq.trans (hf3.get krm rfl) eGN.symm)
  have qGNt : (I3 rm 10).toInt = GN.toInt := congrArg Int32.toInt qGN
  refine r_callV hC (As := [.int x4_, .int x5_]) (rest := []) (ci := 10) (c_X10_readFresh g (xL X) K len I3 J3 R hs3 a0 ka0 x4_ x5_ rm hbr krm (by omega)) mT_6_23 mT_1_10 mT_6_20 mT_6_22 mP_60 okX10_readFresh ⟨by decide, by decide⟩ rfl (by show kO (K a0) = _; rw [ka0]; rfl) rfl rfl (Nat.le_of_ble_eq_true rfl) ⟨by decide, by decide⟩ dX10_readStory_22 (aV2 (F := fun st M => P g X 5 25 [(0, .ref a0)] st _ _ M) (M := (K, len, I3, J3, R)) fun I6 J6 h6 => ?_)
  obtain ⟨hs6, hf6, hfj6, k6_0, k6_1, k6_2, k6_3⟩ := h6
  show P g X 5 25 [(0, .ref a0)] [] _ _ (K, len, I6, J6, R)
  have hF6 : Fr K [(10, 7), (10, 10), (11, 8), (11, 9), (11, 10), (11, 11), (11, 12), (11, 13), (41, 999), (1000, 999)] I I6 := hF3.trans hf6 rfl rfl
  have hFJ6 : Fr K [(11, 14), (42, 999)] J J6 := hFJ3.trans hfj6 rfl rfl
  obtain ⟨N1, eN1⟩ : ∃ z : Int32, z = I6 rm 10 := ⟨_, rfl⟩
  have fN1 : N1.toInt = (I6 rm 10).toInt := by rw [eN1]
  have rN1 := hs6.rng krm rfl eN1
  refine r_aload_n hC dX10_readStory_25 0 rfl ?_
  refine r_ldcS hC (i := 45) (by decide) rfl rfl dX10_readStory_26 ?_
  refine r_iconst hC (v := (1)) dX10_readStory_28 (by decide) (by decide) (fun x7_ e7 t7 => ?_)
  refine r_bipush hC (v := (99)) dX10_readStory_29 (by decide) (by decide) (fun x8_ e8 t8 => ?_)
  refine r_callV hC (As := [.ref (g.2.2.1 45), .int x7_, .int x8_]) (rest := []) (ci := 10) (c_X10_readPart g (xL X) K len I6 J6 R hs6 a0 ka0 45 (by decide) x7_ x8_) mT_6_1 mT_1_10 mT_5_238 mT_6_0 mP_56 okX10_readPart ⟨by decide, by decide⟩ rfl (by show kO (K a0) = _; rw [ka0]; rfl) rfl rfl (Nat.le_of_ble_eq_true rfl) ⟨by decide, by decide⟩ dX10_readStory_31 (aI2 (F := fun st M => P g X 5 34 [(0, .ref a0)] st _ _ M) (M := (K, len, I6, J6, R)) fun x9_ I9 J9 h9 => ?_)
  obtain ⟨hs9, hf9, hfj9, k9_0, k9_1, k9_2, k9_3⟩ := h9
  show P g X 5 34 [(0, .ref a0)] [.int x9_] _ _ (K, len, I9, J9, R)
  have hF9 : Fr K [(10, 7), (10, 10), (11, 8), (11, 9), (11, 10), (11, 11), (11, 12), (11, 13), (41, 999), (1000, 999)] I I9 := hF6.trans hf9 rfl rfl
  have hFJ9 : Fr K [(11, 14), (42, 999)] J J9 := hFJ6.trans hfj9 rfl rfl
  refine r_istore_n hC (lv' := [(1, .int x9_), (0, .ref a0)]) dX10_readStory_34 (by decide) rfl ?_
  refine r_aload_n hC dX10_readStory_35 1 rfl ?_
  refine r_ldcS hC (i := 46) (by decide) rfl rfl dX10_readStory_36 ?_
  refine r_callV hC (As := [.ref (g.2.2.1 46)]) (rest := []) (ci := 10) (c_X10_isWord g (xL X) K len I9 J9 R hs9 a0 ka0 46 (by decide)) mT_5_223 mT_1_10 mT_5_220 mT_5_222 mP_53 okX10_isWord ⟨by decide, by decide⟩ rfl (by show kO (K a0) = _; rw [ka0]; rfl) rfl rfl (Nat.le_of_ble_eq_true rfl) ⟨by decide, by decide⟩ dX10_readStory_38 (aI0 (F := fun st M => P g X 5 41 [(1, .int x9_), (0, .ref a0)] st _ _ M) (M := (K, len, I9, J9, R)) fun x10_ h10 => ?_)
  obtain ⟨k10_0, k10_1, k10_2⟩ := h10
  show P g X 5 41 [(1, .int x9_), (0, .ref a0)] [.int x10_] _ _ (K, len, I9, J9, R)
  refine r_if_eq hC (tgt := 48) dX10_readStory_41 (by decide) (fun c11 => ?_) (fun c11 => ?_)
  · refine r_aload_n hC dX10_readStory_48 1 rfl ?_
    refine r_ldcS hC (i := 47) (by decide) rfl rfl dX10_readStory_49 ?_
    refine r_callV hC (As := [.ref (g.2.2.1 47)]) (rest := []) (ci := 10) (c_X10_isWord g (xL X) K len I9 J9 R hs9 a0 ka0 47 (by decide)) mT_5_223 mT_1_10 mT_5_220 mT_5_222 mP_53 okX10_isWord ⟨by decide, by decide⟩ rfl (by show kO (K a0) = _; rw [ka0]; rfl) rfl rfl (Nat.le_of_ble_eq_true rfl) ⟨by decide, by decide⟩ dX10_readStory_51 (aI0 (F := fun st M => P g X 5 54 [(1, .int x9_), (0, .ref a0)] st _ _ M) (M := (K, len, I9, J9, R)) fun x12_ h12 => ?_)
    obtain ⟨k12_0, k12_1, k12_2⟩ := h12
    show P g X 5 54 [(1, .int x9_), (0, .ref a0)] [.int x12_] _ _ (K, len, I9, J9, R)
    refine r_if_eq hC (tgt := 61) dX10_readStory_54 (by decide) (fun c13 => ?_) (fun c13 => ?_)
    · refine r_aload_n hC dX10_readStory_61 1 rfl ?_
      refine r_ldcS hC (i := 48) (by decide) rfl rfl dX10_readStory_62 ?_
      refine r_callV hC (As := [.ref (g.2.2.1 48)]) (rest := []) (ci := 10) (c_X10_isWord g (xL X) K len I9 J9 R hs9 a0 ka0 48 (by decide)) mT_5_223 mT_1_10 mT_5_220 mT_5_222 mP_53 okX10_isWord ⟨by decide, by decide⟩ rfl (by show kO (K a0) = _; rw [ka0]; rfl) rfl rfl (Nat.le_of_ble_eq_true rfl) ⟨by decide, by decide⟩ dX10_readStory_64 (aI0 (F := fun st M => P g X 5 67 [(1, .int x9_), (0, .ref a0)] st _ _ M) (M := (K, len, I9, J9, R)) fun x14_ h14 => ?_)
      obtain ⟨k14_0, k14_1, k14_2⟩ := h14
      show P g X 5 67 [(1, .int x9_), (0, .ref a0)] [.int x14_] _ _ (K, len, I9, J9, R)
      refine r_if_eq hC (tgt := 74) dX10_readStory_67 (by decide) (fun c15 => ?_) (fun c15 => ?_)
      · refine r_aload_n hC dX10_readStory_74 1 rfl ?_
        refine r_ldcS hC (i := 49) (by decide) rfl rfl dX10_readStory_75 ?_
        refine r_callV hC (As := [.ref (g.2.2.1 49)]) (rest := []) (ci := 10) (c_X10_isWord g (xL X) K len I9 J9 R hs9 a0 ka0 49 (by decide)) mT_5_223 mT_1_10 mT_5_220 mT_5_222 mP_53 okX10_isWord ⟨by decide, by decide⟩ rfl (by show kO (K a0) = _; rw [ka0]; rfl) rfl rfl (Nat.le_of_ble_eq_true rfl) ⟨by decide, by decide⟩ dX10_readStory_77 (aI0 (F := fun st M => P g X 5 80 [(1, .int x9_), (0, .ref a0)] st _ _ M) (M := (K, len, I9, J9, R)) fun x16_ h16 => ?_)
        obtain ⟨k16_0, k16_1, k16_2⟩ := h16
        show P g X 5 80 [(1, .int x9_), (0, .ref a0)] [.int x16_] _ _ (K, len, I9, J9, R)
        refine r_if_eq hC (tgt := 87) dX10_readStory_80 (by decide) (fun c17 => ?_) (fun c17 => ?_)
        · refine r_aload_n hC dX10_readStory_87 1 rfl ?_
          refine r_ldcS hC (i := 50) (by decide) rfl rfl dX10_readStory_88 ?_
          refine r_callV hC (As := [.ref (g.2.2.1 50)]) (rest := []) (ci := 10) (c_X10_isWord g (xL X) K len I9 J9 R hs9 a0 ka0 50 (by decide)) mT_5_223 mT_1_10 mT_5_220 mT_5_222 mP_53 okX10_isWord ⟨by decide, by decide⟩ rfl (by show kO (K a0) = _; rw [ka0]; rfl) rfl rfl (Nat.le_of_ble_eq_true rfl) ⟨by decide, by decide⟩ dX10_readStory_90 (aI0 (F := fun st M => P g X 5 93 [(1, .int x9_), (0, .ref a0)] st _ _ M) (M := (K, len, I9, J9, R)) fun x18_ h18 => ?_)
          obtain ⟨k18_0, k18_1, k18_2⟩ := h18
          show P g X 5 93 [(1, .int x9_), (0, .ref a0)] [.int x18_] _ _ (K, len, I9, J9, R)
          refine r_if_eq hC (tgt := 100) dX10_readStory_93 (by decide) (fun c19 => ?_) (fun c19 => ?_)
          · refine r_aload_n hC dX10_readStory_100 1 rfl ?_
            refine r_ldcwS hC (i := 51) (by decide) rfl rfl dX10_readStory_101 ?_
            refine r_callV hC (As := [.ref (g.2.2.1 51)]) (rest := []) (ci := 10) (c_X10_isWord g (xL X) K len I9 J9 R hs9 a0 ka0 51 (by decide)) mT_5_223 mT_1_10 mT_5_220 mT_5_222 mP_53 okX10_isWord ⟨by decide, by decide⟩ rfl (by show kO (K a0) = _; rw [ka0]; rfl) rfl rfl (Nat.le_of_ble_eq_true rfl) ⟨by decide, by decide⟩ dX10_readStory_104 (aI0 (F := fun st M => P g X 5 107 [(1, .int x9_), (0, .ref a0)] st _ _ M) (M := (K, len, I9, J9, R)) fun x20_ h20 => ?_)
            obtain ⟨k20_0, k20_1, k20_2⟩ := h20
            show P g X 5 107 [(1, .int x9_), (0, .ref a0)] [.int x20_] _ _ (K, len, I9, J9, R)
            refine r_if_eq hC (tgt := 114) dX10_readStory_107 (by decide) (fun c21 => ?_) (fun c21 => ?_)
            · refine r_iconst hC (v := (-1)) dX10_readStory_114 (by decide) (by decide) (fun x22_ e22 t22 => ?_)
              refine r_istore_n hC (lv' := [(2, .int x22_), (1, .int x9_), (0, .ref a0)]) dX10_readStory_115 (by decide) rfl ?_
              refine r_iload_n hC dX10_readStory_116 0 rfl ?_
              refine r_iconst hC (v := (-1)) dX10_readStory_117 (by decide) (by decide) (fun x23_ e23 t23 => ?_)
              refine r_icmp_ne hC (tgt := 126) dX10_readStory_118 (by decide) (fun c24 => ?_) (fun c24 => ?_)
              · exfalso; omega
              refine r_aload_n hC dX10_readStory_121 2 rfl ?_
              refine r_iconst hC (v := (1)) dX10_readStory_122 (by decide) (by decide) (fun x25_ e25 t25 => ?_)
              refine r_callV hC (As := [.int x25_]) (rest := []) (ci := 10) (c_X10_wrong g (xL X) K len I9 J9 R hs9 a0 ka0 x25_) mT_5_236 mT_1_10 mT_5_233 mT_5_235 mP_55 okX10_wrong ⟨by decide, by decide⟩ rfl (by show kO (K a0) = _; rw [ka0]; rfl) rfl rfl (Nat.le_of_ble_eq_true rfl) ⟨by decide, by decide⟩ dX10_readStory_123 (aV1 (F := fun st M => P g X 5 126 [(2, .int x22_), (1, .int x9_), (0, .ref a0)] st _ _ M) (M := (K, len, I9, J9, R)) fun I26 h26 => ?_)
              obtain ⟨hs26, hf26, k26_0, k26_1⟩ := h26
              show P g X 5 126 [(2, .int x22_), (1, .int x9_), (0, .ref a0)] [] _ _ (K, len, I26, J9, R)
              have hF26 : Fr K [(10, 7), (10, 10), (11, 8), (11, 9), (11, 10), (11, 11), (11, 12), (11, 13), (41, 999), (1000, 999)] I I26 := hF9.trans hf26 rfl rfl
              refine r_aload_n hC dX10_readStory_126 2 rfl ?_
              refine r_callV hC (As := []) (rest := []) (ci := 10) (c_X10_goesOn g (xL X) K len I26 J9 R hs26 a0 ka0) mT_5_199 mT_1_10 mT_5_196 mT_5_198 mP_49 okX10_goesOn ⟨by decide, by decide⟩ rfl (by show kO (K a0) = _; rw [ka0]; rfl) rfl rfl (Nat.le_of_ble_eq_true rfl) ⟨by decide, by decide⟩ dX10_readStory_127 (aV2 (F := fun st M => P g X 5 130 [(2, .int x22_), (1, .int x9_), (0, .ref a0)] st _ _ M) (M := (K, len, I26, J9, R)) fun I27 J27 h27 => ?_)
              obtain ⟨hs27, hf27, hfj27, k27_0, k27_1, k27_2, k27_3⟩ := h27
              show P g X 5 130 [(2, .int x22_), (1, .int x9_), (0, .ref a0)] [] _ _ (K, len, I27, J27, R)
              have hF27 : Fr K [(10, 7), (10, 10), (11, 8), (11, 9), (11, 10), (11, 11), (11, 12), (11, 13), (41, 999), (1000, 999)] I I27 := hF26.trans hf27 rfl rfl
              have hFJ27 : Fr K [(11, 14), (42, 999)] J J27 := hFJ9.trans hfj27 rfl rfl
              refine r_aload_n hC dX10_readStory_130 2 rfl ?_
              refine r_iconst hC (v := (0)) dX10_readStory_131 (by decide) (by decide) (fun x28_ e28 t28 => ?_)
              refine r_bipush hC (v := (99)) dX10_readStory_132 (by decide) (by decide) (fun x29_ e29 t29 => ?_)
              refine r_callV hC (As := [.int x28_, .int x29_]) (rest := []) (ci := 10) (c_X10_readWhole g (xL X) K len I27 J27 R hs27 a0 ka0 x28_ x29_) mT_6_5 mT_1_10 mT_6_2 mT_6_4 mP_57 okX10_readWhole ⟨by decide, by decide⟩ rfl (by show kO (K a0) = _; rw [ka0]; rfl) rfl rfl (Nat.le_of_ble_eq_true rfl) ⟨by decide, by decide⟩ dX10_readStory_134 (aI2 (F := fun st M => P g X 5 137 [(2, .int x22_), (1, .int x9_), (0, .ref a0)] st _ _ M) (M := (K, len, I27, J27, R)) fun x30_ I30 J30 h30 => ?_)
              obtain ⟨hs30, hf30, hfj30, k30_0, k30_1, k30_2, k30_3⟩ := h30
              show P g X 5 137 [(2, .int x22_), (1, .int x9_), (0, .ref a0)] [.int x30_] _ _ (K, len, I30, J30, R)
              have hF30 : Fr K [(10, 7), (10, 10), (11, 8), (11, 9), (11, 10), (11, 11), (11, 12), (11, 13), (41, 999), (1000, 999)] I I30 := hF27.trans hf30 rfl rfl
              have hFJ30 : Fr K [(11, 14), (42, 999)] J J30 := hFJ27.trans hfj30 rfl rfl
              refine r_istore_n hC (lv' := [(3, .int x30_), (2, .int x22_), (1, .int x9_), (0, .ref a0)]) dX10_readStory_137 (by decide) rfl ?_
              refine r_iload_n hC dX10_readStory_138 1 rfl ?_
              refine r_iconst hC (v := (2)) dX10_readStory_139 (by decide) (by decide) (fun x31_ e31 t31 => ?_)
              refine r_icmp_ne hC (tgt := 156) dX10_readStory_140 (by decide) (fun c32 => ?_) (fun c32 => ?_)
              rotate_left
              · exfalso; omega
              refine r_iload_n hC dX10_readStory_156 1 rfl ?_
              refine r_iconst hC (v := (3)) dX10_readStory_157 (by decide) (by decide) (fun x33_ e33 t33 => ?_)
              refine r_icmp_ne hC (tgt := 175) dX10_readStory_158 (by decide) (fun c34 => ?_) (fun c34 => ?_)
              rotate_left
              · exfalso; omega
              refine r_iload_n hC dX10_readStory_175 1 rfl ?_
              refine r_iconst hC (v := (4)) dX10_readStory_176 (by decide) (by decide) (fun x35_ e35 t35 => ?_)
              refine r_icmp_ne hC (tgt := 193) dX10_readStory_177 (by decide) (fun c36 => ?_) (fun c36 => ?_)
              rotate_left
              · exfalso; omega
              refine r_iconst hC (v := (0)) dX10_readStory_193 (by decide) (by decide) (fun x37_ e37 t37 => ?_)
              refine r_istore hC (lv' := [(4, .int x37_), (3, .int x30_), (2, .int x22_), (1, .int x9_), (0, .ref a0)]) dX10_readStory_194 (by decide) rfl ?_
              refine r_aload_n hC dX10_readStory_196 4 rfl ?_
              obtain ⟨A9, eA9⟩ : ∃ z : Int32, z = I30 a0 8 := ⟨_, rfl⟩
              have fA9 : A9.toInt = (I30 a0 8).toInt := by rw [eA9]
              have rA9 := hs30.rng ka0 rfl eA9
              refine r_geti hC 9 (ci := 10) rfl u10_in (by decide) mT_5_4 dX10_readStory_197 ka0 rfl rfl (fun x38_ e38 => ?_)
              have f38 : x38_.toInt = (I30 a0 9).toInt := by rw [e38]
              refine r_iconst hC (v := (5)) dX10_readStory_200 (by decide) (by decide) (fun x39_ e39 t39 => ?_)
              refine r_icmp_ne hC (tgt := 205) dX10_readStory_201 (by decide) (fun c40 => ?_) (fun c40 => ?_)
              · refine r_aload_n hC dX10_readStory_205 4 rfl ?_
                refine r_getr hC 4 (ci := 10) rfl u10_in (by decide) mT_4_239 dX10_readStory_206 ka0 rfl rfl hbr ?_
                obtain ⟨a41_, hb41, hk41, hn41⟩ := hs30.row krm 16 41 6 (by decide) (by decide)
                refine r_getrN hC 16 (ci := 9) rfl u9_in (by decide) nF_16 dX10_readStory_209 krm rfl rfl hb41 ?_
                refine r_aload_n hC dX10_readStory_212 4 rfl ?_
                refine r_getr hC 4 (ci := 10) rfl u10_in (by decide) mT_4_239 dX10_readStory_213 ka0 rfl rfl hbr ?_
                refine r_getiN hC 7 (ci := 9) rfl u9_in (by decide) nF_7 dX10_readStory_216 krm rfl rfl (fun x42_ e42 => ?_)
                have r42 := hs30.rng krm rfl e42
                have f42 : x42_.toInt = (I30 rm 7).toInt := by rw [e42]
                have w42 : x42_ = x5_ := by rw [e42]; exact (Eq.trans (hf30.get krm rfl) (Eq.trans (hf27.get krm rfl) (Eq.trans (hf26.get krm rfl) (Eq.trans (hf9.get krm rfl) (Eq.trans (hf6.get krm rfl) e5.symm)))))
                have wt42 : x42_.toInt = x5_.toInt := by rw [w42]
                refine r_iload_n hC dX10_readStory_219 3 rfl ?_
                refine x_iastore hC hk41 hn41 (by decide) rfl rfl dX10_readStory_220 (by omega) (by omega) (fun I43 eI43 => ?_)
                have hs43 := hs30.put0 eI43 hk41 (rng_arr (by decide) _) rfl (xF_arr (by decide) _) (by decide)
                have hF43 := hF30.put eI43 hk41 (inS_arr rfl _)
                refine r_aload_n hC dX10_readStory_221 4 rfl ?_
                refine r_getr hC 4 (ci := 10) rfl u10_in (by decide) mT_4_239 dX10_readStory_222 ka0 rfl rfl hbr ?_
                obtain ⟨kd44, mo44, hb44, hk44, hn44, hB44, hK44, hN44⟩ := hs43.2.2.1 rm krm
                refine r_getrN hC 17 (ci := 9) rfl u9_in (by decide) nF_17 dX10_readStory_225 krm rfl rfl hb44 ?_
                refine r_aload_n hC dX10_readStory_228 4 rfl ?_
                refine r_getr hC 4 (ci := 10) rfl u10_in (by decide) mT_4_239 dX10_readStory_229 ka0 rfl rfl hbr ?_
                refine r_getiN hC 7 (ci := 9) rfl u9_in (by decide) nF_7 dX10_readStory_232 krm rfl rfl (fun x45_ e45 => ?_)
                have r45 := hs43.rng krm rfl e45
                have f45 : x45_.toInt = (I43 rm 7).toInt := by rw [e45]
                have w45 : x45_ = x42_ := by rw [e45]; exact (Eq.trans (up2_kk eI43 hk41 krm (by decide)) e42.symm)
                have wt45 : x45_.toInt = x42_.toInt := by rw [w45]
                refine r_iload_n hC dX10_readStory_235 2 rfl ?_
                refine x_iastore hC hk44 hn44 (by omega) (kOb (by omega)) (kAb (by omega)) dX10_readStory_236 (by omega) (by omega) (fun I46 eI46 => ?_)
                have hs46 : Sf K len I46 R := hs43.putK (rm := rm) eI46 (Or.inl hk44) (by have h9 := clampI (i := x45_) (by omega); omega)
                have hF46 := hF43.put eI46 hk44 (inS_big rfl (by omega) _)
                refine r_aload_n hC dX10_readStory_237 4 rfl ?_
                refine r_getr hC 4 (ci := 10) rfl u10_in (by decide) mT_4_239 dX10_readStory_238 ka0 rfl rfl hbr ?_
                obtain ⟨a47_, hb47, hk47, hn47⟩ := hs46.row krm 18 41 6 (by decide) (by decide)
                refine r_getrN hC 18 (ci := 9) rfl u9_in (by decide) nF_18 dX10_readStory_241 krm rfl rfl hb47 ?_
                refine r_aload_n hC dX10_readStory_244 4 rfl ?_
                refine r_getr hC 4 (ci := 10) rfl u10_in (by decide) mT_4_239 dX10_readStory_245 ka0 rfl rfl hbr ?_
                refine r_getiN hC 7 (ci := 9) rfl u9_in (by decide) nF_7 dX10_readStory_248 krm rfl rfl (fun x48_ e48 => ?_)
                have r48 := hs46.rng krm rfl e48
                have f48 : x48_.toInt = (I46 rm 7).toInt := by rw [e48]
                have w48 : x48_ = x45_ := by rw [e48]; exact (Eq.trans (up2_kk eI46 hk44 krm (by omega)) e45.symm)
                have wt48 : x48_.toInt = x45_.toInt := by rw [w48]
                refine r_iload_n hC dX10_readStory_251 1 rfl ?_
                refine x_iastore hC hk47 hn47 (by decide) rfl rfl dX10_readStory_252 (by omega) (by omega) (fun I49 eI49 => ?_)
                have hs49 := hs46.put0 eI49 hk47 (rng_arr (by decide) _) rfl (xF_arr (by decide) _) (by decide)
                have hF49 := hF46.put eI49 hk47 (inS_arr rfl _)
                refine r_aload_n hC dX10_readStory_253 4 rfl ?_
                refine r_getr hC 4 (ci := 10) rfl u10_in (by decide) mT_4_239 dX10_readStory_254 ka0 rfl rfl hbr ?_
                refine r_getrN hC 19 (ci := 9) rfl u9_in (by decide) nF_19 dX10_readStory_257 krm rfl rfl hB44 ?_
                refine r_aload_n hC dX10_readStory_260 4 rfl ?_
                refine r_getr hC 4 (ci := 10) rfl u10_in (by decide) mT_4_239 dX10_readStory_261 ka0 rfl rfl hbr ?_
                refine r_getiN hC 7 (ci := 9) rfl u9_in (by decide) nF_7 dX10_readStory_264 krm rfl rfl (fun x50_ e50 => ?_)
                have r50 := hs49.rng krm rfl e50
                have f50 : x50_.toInt = (I49 rm 7).toInt := by rw [e50]
                have w50 : x50_ = x48_ := by rw [e50]; exact (Eq.trans (up2_kk eI49 hk47 krm (by decide)) e48.symm)
                have wt50 : x50_.toInt = x48_.toInt := by rw [w50]
                refine r_iload hC dX10_readStory_267 0 rfl ?_
                refine x_iastore hC hK44 hN44 (by omega) (kOb (by omega)) (kAb (by omega)) dX10_readStory_269 (by omega) (by omega) (fun I51 eI51 => ?_)
                have hs51 : Sf K len I51 R := hs49.putK (rm := rm) eI51 (Or.inr hK44) (by have h9 := clampI (i := x50_) (by omega); omega)
                have hF51 := hF49.put eI51 hK44 (inS_big rfl (by omega) _)
                refine r_aload_n hC dX10_readStory_270 4 rfl ?_
                refine r_getr hC 4 (ci := 10) rfl u10_in (by decide) mT_4_239 dX10_readStory_271 ka0 rfl rfl hbr ?_
                refine r_dup hC dX10_readStory_274 rfl ?_
                refine r_getiN hC 7 (ci := 9) rfl u9_in (by decide) nF_7 dX10_readStory_275 krm rfl rfl (fun x52_ e52 => ?_)
                have r52 := hs51.rng krm rfl e52
                have f52 : x52_.toInt = (I51 rm 7).toInt := by rw [e52]
                have w52 : x52_ = x50_ := by rw [e52]; exact (Eq.trans (up2_kk eI51 hK44 krm (by omega)) e50.symm)
                have wt52 : x52_.toInt = x50_.toInt := by rw [w52]
                refine r_iconst hC (v := (1)) dX10_readStory_278 (by decide) (by decide) (fun x53_ e53 t53 => ?_)
                refine r_iadd hC dX10_readStory_279 (fun x54_ e54 => ?_)
                try have t54 : x54_.toInt = x52_.toInt + x53_.toInt := by rw [e54]; exact ti_add (by omega) (by omega)
                refine r_putiN hC 7 (ci := 9) rfl u9_in tyX9_ok nmX9 (by decide) nF_7 rfl rfl rfl dX10_readStory_280 krm rfl rfl (fun I55 eI55 => ?_)
                have hs55 : Sf K len I55 R := hs51.putA7 eI55 krm hb44 hB44 (by omega) (by omega) (j := x45_.toNatClampNeg) (by have h9 := clampI (i := x45_) (by omega); omega) (by omega) (by rw [(show I51 kd44 x45_.toNatClampNeg = x22_ from (Eq.trans (up2_kk eI51 hK44 hk44 (by omega)) (Eq.trans (up2_kk eI49 hk47 hk44 (by omega)) (by rw [eI46]; exact up2_self _ _ _ _)))), cl_eq (show x45_.toInt = x50_.toInt by omega), (show I51 mo44 x50_.toNatClampNeg = x37_ from (by rw [eI51]; exact up2_self _ _ _ _))]; omega)
                have hF55 := hF51.put eI55 krm rfl
                have hG3 : I55 rm 3 = G3 := (Eq.trans (up2_at (Or.inr (by decide)) eI55) (Eq.trans (up2_kk eI51 hK44 krm (by omega)) (Eq.trans (up2_kk eI49 hk47 krm (by decide)) (Eq.trans (up2_kk eI46 hk44 krm (by omega)) (Eq.trans (up2_kk eI43 hk41 krm (by decide)) (Eq.trans (hf30.get krm rfl) (Eq.trans (hf27.get krm rfl) (Eq.trans (hf26.get krm rfl) (Eq.trans (hf9.get krm rfl) (Eq.trans (hf6.get krm rfl) (Eq.trans (hf3.get krm rfl) eG3.symm)))))))))))
                have hG3t : (I55 rm 3).toInt = G3.toInt := congrArg Int32.toInt hG3
                have hG4 : I55 rm 4 = G4 := (Eq.trans (up2_at (Or.inr (by decide)) eI55) (Eq.trans (up2_kk eI51 hK44 krm (by omega)) (Eq.trans (up2_kk eI49 hk47 krm (by decide)) (Eq.trans (up2_kk eI46 hk44 krm (by omega)) (Eq.trans (up2_kk eI43 hk41 krm (by decide)) (Eq.trans (hf30.get krm rfl) (Eq.trans (hf27.get krm rfl) (Eq.trans (hf26.get krm rfl) (Eq.trans (hf9.get krm rfl) (Eq.trans (hf6.get krm rfl) (Eq.trans (hf3.get krm rfl) eG4.symm)))))))))))
                have hG4t : (I55 rm 4).toInt = G4.toInt := congrArg Int32.toInt hG4
                have hG7 : I55 rm 7 = x54_ := (by rw [eI55]; exact up2_self _ _ _ _)
                have hG7t : (I55 rm 7).toInt = x54_.toInt := congrArg Int32.toInt hG7
                have hG8 : I55 rm 8 = G8 := (Eq.trans (up2_at (Or.inr (by decide)) eI55) (Eq.trans (up2_kk eI51 hK44 krm (by omega)) (Eq.trans (up2_kk eI49 hk47 krm (by decide)) (Eq.trans (up2_kk eI46 hk44 krm (by omega)) (Eq.trans (up2_kk eI43 hk41 krm (by decide)) (Eq.trans (hf30.get krm rfl) (Eq.trans (hf27.get krm rfl) (Eq.trans (hf26.get krm rfl) (Eq.trans (hf9.get krm rfl) (Eq.trans (hf6.get krm rfl) (Eq.trans (hf3.get krm rfl) eG8.symm)))))))))))
                have hG8t : (I55 rm 8).toInt = G8.toInt := congrArg Int32.toInt hG8
                have hG9 : I55 rm 9 = G9 := (Eq.trans (up2_at (Or.inr (by decide)) eI55) (Eq.trans (up2_kk eI51 hK44 krm (by omega)) (Eq.trans (up2_kk eI49 hk47 krm (by decide)) (Eq.trans (up2_kk eI46 hk44 krm (by omega)) (Eq.trans (up2_kk eI43 hk41 krm (by decide)) (Eq.trans (hf30.get krm rfl) (Eq.trans (hf27.get krm rfl) (Eq.trans (hf26.get krm rfl) (Eq.trans (hf9.get krm rfl) (Eq.trans (hf6.get krm rfl) (Eq.trans (hf3.get krm rfl) eG9.symm)))))))))))
                have hG9t : (I55 rm 9).toInt = G9.toInt := congrArg Int32.toInt hG9
                have hGN : I55 rm 10 = N1 := (Eq.trans (up2_at (Or.inr (by decide)) eI55) (Eq.trans (up2_kk eI51 hK44 krm (by omega)) (Eq.trans (up2_kk eI49 hk47 krm (by decide)) (Eq.trans (up2_kk eI46 hk44 krm (by omega)) (Eq.trans (up2_kk eI43 hk41 krm (by decide)) (Eq.trans (hf30.get krm rfl) (Eq.trans (hf27.get krm rfl) (Eq.trans (hf26.get krm rfl) (Eq.trans (hf9.get krm rfl) eN1.symm)))))))))
                have hGNt : (I55 rm 10).toInt = N1.toInt := congrArg Int32.toInt hGN
                have hv8 : I55 a0 8 = A9 := (Eq.trans (up2_kk eI55 krm ka0 (by decide)) (Eq.trans (up2_kk eI51 hK44 ka0 (by omega)) (Eq.trans (up2_kk eI49 hk47 ka0 (by decide)) (Eq.trans (up2_kk eI46 hk44 ka0 (by omega)) (Eq.trans (up2_kk eI43 hk41 ka0 (by decide)) eA9.symm)))))
                have hv8t : (I55 a0 8).toInt = A9.toInt := congrArg Int32.toInt hv8
                have hv9 : I55 a0 9 = x38_ := (Eq.trans (up2_kk eI55 krm ka0 (by decide)) (Eq.trans (up2_kk eI51 hK44 ka0 (by omega)) (Eq.trans (up2_kk eI49 hk47 ka0 (by decide)) (Eq.trans (up2_kk eI46 hk44 ka0 (by omega)) (Eq.trans (up2_kk eI43 hk41 ka0 (by decide)) e38.symm)))))
                have hv9t : (I55 a0 9).toInt = x38_.toInt := congrArg Int32.toInt hv9
                exact r_vret hC hQ hlk hr (by decide) (by decide) dX10_readStory_283 ⟨_, _, rfl, rfl, ⟨hs55, hF55, hFJ30, (by omega), (by omega), (by omega), (by omega)⟩⟩
              · have hG3 : I30 rm 3 = G3 := (Eq.trans (hf30.get krm rfl) (Eq.trans (hf27.get krm rfl) (Eq.trans (hf26.get krm rfl) (Eq.trans (hf9.get krm rfl) (Eq.trans (hf6.get krm rfl) (Eq.trans (hf3.get krm rfl) eG3.symm))))))
                have hG3t : (I30 rm 3).toInt = G3.toInt := congrArg Int32.toInt hG3
                have hG4 : I30 rm 4 = G4 := (Eq.trans (hf30.get krm rfl) (Eq.trans (hf27.get krm rfl) (Eq.trans (hf26.get krm rfl) (Eq.trans (hf9.get krm rfl) (Eq.trans (hf6.get krm rfl) (Eq.trans (hf3.get krm rfl) eG4.symm))))))
                have hG4t : (I30 rm 4).toInt = G4.toInt := congrArg Int32.toInt hG4
                have hG7 : I30 rm 7 = x5_ := (Eq.trans (hf30.get krm rfl) (Eq.trans (hf27.get krm rfl) (Eq.trans (hf26.get krm rfl) (Eq.trans (hf9.get krm rfl) (Eq.trans (hf6.get krm rfl) e5.symm)))))
                have hG7t : (I30 rm 7).toInt = x5_.toInt := congrArg Int32.toInt hG7
                have hG8 : I30 rm 8 = G8 := (Eq.trans (hf30.get krm rfl) (Eq.trans (hf27.get krm rfl) (Eq.trans (hf26.get krm rfl) (Eq.trans (hf9.get krm rfl) (Eq.trans (hf6.get krm rfl) (Eq.trans (hf3.get krm rfl) eG8.symm))))))
                have hG8t : (I30 rm 8).toInt = G8.toInt := congrArg Int32.toInt hG8
                have hG9 : I30 rm 9 = G9 := (Eq.trans (hf30.get krm rfl) (Eq.trans (hf27.get krm rfl) (Eq.trans (hf26.get krm rfl) (Eq.trans (hf9.get krm rfl) (Eq.trans (hf6.get krm rfl) (Eq.trans (hf3.get krm rfl) eG9.symm))))))
                have hG9t : (I30 rm 9).toInt = G9.toInt := congrArg Int32.toInt hG9
                have hGN : I30 rm 10 = N1 := (Eq.trans (hf30.get krm rfl) (Eq.trans (hf27.get krm rfl) (Eq.trans (hf26.get krm rfl) (Eq.trans (hf9.get krm rfl) eN1.symm))))
                have hGNt : (I30 rm 10).toInt = N1.toInt := congrArg Int32.toInt hGN
                have hv8 : I30 a0 8 = A9 := eA9.symm
                have hv8t : (I30 a0 8).toInt = A9.toInt := congrArg Int32.toInt hv8
                have hv9 : I30 a0 9 = x38_ := e38.symm
                have hv9t : (I30 a0 9).toInt = x38_.toInt := congrArg Int32.toInt hv9
                exact r_vret hC hQ hlk hr (by decide) (by decide) dX10_readStory_204 ⟨_, _, rfl, rfl, ⟨hs30, hF30, hFJ30, (by omega), (by omega), (by omega), (by omega)⟩⟩
            · refine r_iconst hC (v := (5)) dX10_readStory_110 (by decide) (by decide) (fun x56_ e56 t56 => ?_)
              refine r_goto hC (tgt := 115) dX10_readStory_111 (by decide) ?_
              refine r_istore_n hC (lv' := [(2, .int x56_), (1, .int x9_), (0, .ref a0)]) dX10_readStory_115 (by decide) rfl ?_
              refine r_iload_n hC dX10_readStory_116 0 rfl ?_
              refine r_iconst hC (v := (-1)) dX10_readStory_117 (by decide) (by decide) (fun x57_ e57 t57 => ?_)
              refine r_icmp_ne hC (tgt := 126) dX10_readStory_118 (by decide) (fun c58 => ?_) (fun c58 => ?_)
              rotate_left
              · exfalso; omega
              refine r_aload_n hC dX10_readStory_126 2 rfl ?_
              refine r_callV hC (As := []) (rest := []) (ci := 10) (c_X10_goesOn g (xL X) K len I9 J9 R hs9 a0 ka0) mT_5_199 mT_1_10 mT_5_196 mT_5_198 mP_49 okX10_goesOn ⟨by decide, by decide⟩ rfl (by show kO (K a0) = _; rw [ka0]; rfl) rfl rfl (Nat.le_of_ble_eq_true rfl) ⟨by decide, by decide⟩ dX10_readStory_127 (aV2 (F := fun st M => P g X 5 130 [(2, .int x56_), (1, .int x9_), (0, .ref a0)] st _ _ M) (M := (K, len, I9, J9, R)) fun I59 J59 h59 => ?_)
              obtain ⟨hs59, hf59, hfj59, k59_0, k59_1, k59_2, k59_3⟩ := h59
              show P g X 5 130 [(2, .int x56_), (1, .int x9_), (0, .ref a0)] [] _ _ (K, len, I59, J59, R)
              have hF59 : Fr K [(10, 7), (10, 10), (11, 8), (11, 9), (11, 10), (11, 11), (11, 12), (11, 13), (41, 999), (1000, 999)] I I59 := hF9.trans hf59 rfl rfl
              have hFJ59 : Fr K [(11, 14), (42, 999)] J J59 := hFJ9.trans hfj59 rfl rfl
              refine r_aload_n hC dX10_readStory_130 2 rfl ?_
              refine r_iconst hC (v := (0)) dX10_readStory_131 (by decide) (by decide) (fun x60_ e60 t60 => ?_)
              refine r_bipush hC (v := (99)) dX10_readStory_132 (by decide) (by decide) (fun x61_ e61 t61 => ?_)
              refine r_callV hC (As := [.int x60_, .int x61_]) (rest := []) (ci := 10) (c_X10_readWhole g (xL X) K len I59 J59 R hs59 a0 ka0 x60_ x61_) mT_6_5 mT_1_10 mT_6_2 mT_6_4 mP_57 okX10_readWhole ⟨by decide, by decide⟩ rfl (by show kO (K a0) = _; rw [ka0]; rfl) rfl rfl (Nat.le_of_ble_eq_true rfl) ⟨by decide, by decide⟩ dX10_readStory_134 (aI2 (F := fun st M => P g X 5 137 [(2, .int x56_), (1, .int x9_), (0, .ref a0)] st _ _ M) (M := (K, len, I59, J59, R)) fun x62_ I62 J62 h62 => ?_)
              obtain ⟨hs62, hf62, hfj62, k62_0, k62_1, k62_2, k62_3⟩ := h62
              show P g X 5 137 [(2, .int x56_), (1, .int x9_), (0, .ref a0)] [.int x62_] _ _ (K, len, I62, J62, R)
              have hF62 : Fr K [(10, 7), (10, 10), (11, 8), (11, 9), (11, 10), (11, 11), (11, 12), (11, 13), (41, 999), (1000, 999)] I I62 := hF59.trans hf62 rfl rfl
              have hFJ62 : Fr K [(11, 14), (42, 999)] J J62 := hFJ59.trans hfj62 rfl rfl
              refine r_istore_n hC (lv' := [(3, .int x62_), (2, .int x56_), (1, .int x9_), (0, .ref a0)]) dX10_readStory_137 (by decide) rfl ?_
              refine r_iload_n hC dX10_readStory_138 1 rfl ?_
              refine r_iconst hC (v := (2)) dX10_readStory_139 (by decide) (by decide) (fun x63_ e63 t63 => ?_)
              refine r_icmp_ne hC (tgt := 156) dX10_readStory_140 (by decide) (fun c64 => ?_) (fun c64 => ?_)
              rotate_left
              · exfalso; omega
              refine r_iload_n hC dX10_readStory_156 1 rfl ?_
              refine r_iconst hC (v := (3)) dX10_readStory_157 (by decide) (by decide) (fun x65_ e65 t65 => ?_)
              refine r_icmp_ne hC (tgt := 175) dX10_readStory_158 (by decide) (fun c66 => ?_) (fun c66 => ?_)
              rotate_left
              · exfalso; omega
              refine r_iload_n hC dX10_readStory_175 1 rfl ?_
              refine r_iconst hC (v := (4)) dX10_readStory_176 (by decide) (by decide) (fun x67_ e67 t67 => ?_)
              refine r_icmp_ne hC (tgt := 193) dX10_readStory_177 (by decide) (fun c68 => ?_) (fun c68 => ?_)
              rotate_left
              · exfalso; omega
              refine r_iconst hC (v := (0)) dX10_readStory_193 (by decide) (by decide) (fun x69_ e69 t69 => ?_)
              refine r_istore hC (lv' := [(4, .int x69_), (3, .int x62_), (2, .int x56_), (1, .int x9_), (0, .ref a0)]) dX10_readStory_194 (by decide) rfl ?_
              refine r_aload_n hC dX10_readStory_196 4 rfl ?_
              obtain ⟨A9, eA9⟩ : ∃ z : Int32, z = I62 a0 8 := ⟨_, rfl⟩
              have fA9 : A9.toInt = (I62 a0 8).toInt := by rw [eA9]
              have rA9 := hs62.rng ka0 rfl eA9
              refine r_geti hC 9 (ci := 10) rfl u10_in (by decide) mT_5_4 dX10_readStory_197 ka0 rfl rfl (fun x70_ e70 => ?_)
              have f70 : x70_.toInt = (I62 a0 9).toInt := by rw [e70]
              refine r_iconst hC (v := (5)) dX10_readStory_200 (by decide) (by decide) (fun x71_ e71 t71 => ?_)
              refine r_icmp_ne hC (tgt := 205) dX10_readStory_201 (by decide) (fun c72 => ?_) (fun c72 => ?_)
              · refine r_aload_n hC dX10_readStory_205 4 rfl ?_
                refine r_getr hC 4 (ci := 10) rfl u10_in (by decide) mT_4_239 dX10_readStory_206 ka0 rfl rfl hbr ?_
                obtain ⟨a73_, hb73, hk73, hn73⟩ := hs62.row krm 16 41 6 (by decide) (by decide)
                refine r_getrN hC 16 (ci := 9) rfl u9_in (by decide) nF_16 dX10_readStory_209 krm rfl rfl hb73 ?_
                refine r_aload_n hC dX10_readStory_212 4 rfl ?_
                refine r_getr hC 4 (ci := 10) rfl u10_in (by decide) mT_4_239 dX10_readStory_213 ka0 rfl rfl hbr ?_
                refine r_getiN hC 7 (ci := 9) rfl u9_in (by decide) nF_7 dX10_readStory_216 krm rfl rfl (fun x74_ e74 => ?_)
                have r74 := hs62.rng krm rfl e74
                have f74 : x74_.toInt = (I62 rm 7).toInt := by rw [e74]
                have w74 : x74_ = x5_ := by rw [e74]; exact (Eq.trans (hf62.get krm rfl) (Eq.trans (hf59.get krm rfl) (Eq.trans (hf9.get krm rfl) (Eq.trans (hf6.get krm rfl) e5.symm))))
                have wt74 : x74_.toInt = x5_.toInt := by rw [w74]
                refine r_iload_n hC dX10_readStory_219 3 rfl ?_
                refine x_iastore hC hk73 hn73 (by decide) rfl rfl dX10_readStory_220 (by omega) (by omega) (fun I75 eI75 => ?_)
                have hs75 := hs62.put0 eI75 hk73 (rng_arr (by decide) _) rfl (xF_arr (by decide) _) (by decide)
                have hF75 := hF62.put eI75 hk73 (inS_arr rfl _)
                refine r_aload_n hC dX10_readStory_221 4 rfl ?_
                refine r_getr hC 4 (ci := 10) rfl u10_in (by decide) mT_4_239 dX10_readStory_222 ka0 rfl rfl hbr ?_
                obtain ⟨kd76, mo76, hb76, hk76, hn76, hB76, hK76, hN76⟩ := hs75.2.2.1 rm krm
                refine r_getrN hC 17 (ci := 9) rfl u9_in (by decide) nF_17 dX10_readStory_225 krm rfl rfl hb76 ?_
                refine r_aload_n hC dX10_readStory_228 4 rfl ?_
                refine r_getr hC 4 (ci := 10) rfl u10_in (by decide) mT_4_239 dX10_readStory_229 ka0 rfl rfl hbr ?_
                refine r_getiN hC 7 (ci := 9) rfl u9_in (by decide) nF_7 dX10_readStory_232 krm rfl rfl (fun x77_ e77 => ?_)
                have r77 := hs75.rng krm rfl e77
                have f77 : x77_.toInt = (I75 rm 7).toInt := by rw [e77]
                have w77 : x77_ = x74_ := by rw [e77]; exact (Eq.trans (up2_kk eI75 hk73 krm (by decide)) e74.symm)
                have wt77 : x77_.toInt = x74_.toInt := by rw [w77]
                refine r_iload_n hC dX10_readStory_235 2 rfl ?_
                refine x_iastore hC hk76 hn76 (by omega) (kOb (by omega)) (kAb (by omega)) dX10_readStory_236 (by omega) (by omega) (fun I78 eI78 => ?_)
                have hs78 : Sf K len I78 R := hs75.putK (rm := rm) eI78 (Or.inl hk76) (by have h9 := clampI (i := x77_) (by omega); omega)
                have hF78 := hF75.put eI78 hk76 (inS_big rfl (by omega) _)
                refine r_aload_n hC dX10_readStory_237 4 rfl ?_
                refine r_getr hC 4 (ci := 10) rfl u10_in (by decide) mT_4_239 dX10_readStory_238 ka0 rfl rfl hbr ?_
                obtain ⟨a79_, hb79, hk79, hn79⟩ := hs78.row krm 18 41 6 (by decide) (by decide)
                refine r_getrN hC 18 (ci := 9) rfl u9_in (by decide) nF_18 dX10_readStory_241 krm rfl rfl hb79 ?_
                refine r_aload_n hC dX10_readStory_244 4 rfl ?_
                refine r_getr hC 4 (ci := 10) rfl u10_in (by decide) mT_4_239 dX10_readStory_245 ka0 rfl rfl hbr ?_
                refine r_getiN hC 7 (ci := 9) rfl u9_in (by decide) nF_7 dX10_readStory_248 krm rfl rfl (fun x80_ e80 => ?_)
                have r80 := hs78.rng krm rfl e80
                have f80 : x80_.toInt = (I78 rm 7).toInt := by rw [e80]
                have w80 : x80_ = x77_ := by rw [e80]; exact (Eq.trans (up2_kk eI78 hk76 krm (by omega)) e77.symm)
                have wt80 : x80_.toInt = x77_.toInt := by rw [w80]
                refine r_iload_n hC dX10_readStory_251 1 rfl ?_
                refine x_iastore hC hk79 hn79 (by decide) rfl rfl dX10_readStory_252 (by omega) (by omega) (fun I81 eI81 => ?_)
                have hs81 := hs78.put0 eI81 hk79 (rng_arr (by decide) _) rfl (xF_arr (by decide) _) (by decide)
                have hF81 := hF78.put eI81 hk79 (inS_arr rfl _)
                refine r_aload_n hC dX10_readStory_253 4 rfl ?_
                refine r_getr hC 4 (ci := 10) rfl u10_in (by decide) mT_4_239 dX10_readStory_254 ka0 rfl rfl hbr ?_
                refine r_getrN hC 19 (ci := 9) rfl u9_in (by decide) nF_19 dX10_readStory_257 krm rfl rfl hB76 ?_
                refine r_aload_n hC dX10_readStory_260 4 rfl ?_
                refine r_getr hC 4 (ci := 10) rfl u10_in (by decide) mT_4_239 dX10_readStory_261 ka0 rfl rfl hbr ?_
                refine r_getiN hC 7 (ci := 9) rfl u9_in (by decide) nF_7 dX10_readStory_264 krm rfl rfl (fun x82_ e82 => ?_)
                have r82 := hs81.rng krm rfl e82
                have f82 : x82_.toInt = (I81 rm 7).toInt := by rw [e82]
                have w82 : x82_ = x80_ := by rw [e82]; exact (Eq.trans (up2_kk eI81 hk79 krm (by decide)) e80.symm)
                have wt82 : x82_.toInt = x80_.toInt := by rw [w82]
                refine r_iload hC dX10_readStory_267 0 rfl ?_
                refine x_iastore hC hK76 hN76 (by omega) (kOb (by omega)) (kAb (by omega)) dX10_readStory_269 (by omega) (by omega) (fun I83 eI83 => ?_)
                have hs83 : Sf K len I83 R := hs81.putK (rm := rm) eI83 (Or.inr hK76) (by have h9 := clampI (i := x82_) (by omega); omega)
                have hF83 := hF81.put eI83 hK76 (inS_big rfl (by omega) _)
                refine r_aload_n hC dX10_readStory_270 4 rfl ?_
                refine r_getr hC 4 (ci := 10) rfl u10_in (by decide) mT_4_239 dX10_readStory_271 ka0 rfl rfl hbr ?_
                refine r_dup hC dX10_readStory_274 rfl ?_
                refine r_getiN hC 7 (ci := 9) rfl u9_in (by decide) nF_7 dX10_readStory_275 krm rfl rfl (fun x84_ e84 => ?_)
                have r84 := hs83.rng krm rfl e84
                have f84 : x84_.toInt = (I83 rm 7).toInt := by rw [e84]
                have w84 : x84_ = x82_ := by rw [e84]; exact (Eq.trans (up2_kk eI83 hK76 krm (by omega)) e82.symm)
                have wt84 : x84_.toInt = x82_.toInt := by rw [w84]
                refine r_iconst hC (v := (1)) dX10_readStory_278 (by decide) (by decide) (fun x85_ e85 t85 => ?_)
                refine r_iadd hC dX10_readStory_279 (fun x86_ e86 => ?_)
                try have t86 : x86_.toInt = x84_.toInt + x85_.toInt := by rw [e86]; exact ti_add (by omega) (by omega)
                refine r_putiN hC 7 (ci := 9) rfl u9_in tyX9_ok nmX9 (by decide) nF_7 rfl rfl rfl dX10_readStory_280 krm rfl rfl (fun I87 eI87 => ?_)
                have hs87 : Sf K len I87 R := hs83.putA7 eI87 krm hb76 hB76 (by omega) (by omega) (j := x77_.toNatClampNeg) (by have h9 := clampI (i := x77_) (by omega); omega) (by omega) (by rw [(show I83 kd76 x77_.toNatClampNeg = x56_ from (Eq.trans (up2_kk eI83 hK76 hk76 (by omega)) (Eq.trans (up2_kk eI81 hk79 hk76 (by omega)) (by rw [eI78]; exact up2_self _ _ _ _)))), cl_eq (show x77_.toInt = x82_.toInt by omega), (show I83 mo76 x82_.toNatClampNeg = x69_ from (by rw [eI83]; exact up2_self _ _ _ _))]; omega)
                have hF87 := hF83.put eI87 krm rfl
                have hG3 : I87 rm 3 = G3 := (Eq.trans (up2_at (Or.inr (by decide)) eI87) (Eq.trans (up2_kk eI83 hK76 krm (by omega)) (Eq.trans (up2_kk eI81 hk79 krm (by decide)) (Eq.trans (up2_kk eI78 hk76 krm (by omega)) (Eq.trans (up2_kk eI75 hk73 krm (by decide)) (Eq.trans (hf62.get krm rfl) (Eq.trans (hf59.get krm rfl) (Eq.trans (hf9.get krm rfl) (Eq.trans (hf6.get krm rfl) (Eq.trans (hf3.get krm rfl) eG3.symm))))))))))
                have hG3t : (I87 rm 3).toInt = G3.toInt := congrArg Int32.toInt hG3
                have hG4 : I87 rm 4 = G4 := (Eq.trans (up2_at (Or.inr (by decide)) eI87) (Eq.trans (up2_kk eI83 hK76 krm (by omega)) (Eq.trans (up2_kk eI81 hk79 krm (by decide)) (Eq.trans (up2_kk eI78 hk76 krm (by omega)) (Eq.trans (up2_kk eI75 hk73 krm (by decide)) (Eq.trans (hf62.get krm rfl) (Eq.trans (hf59.get krm rfl) (Eq.trans (hf9.get krm rfl) (Eq.trans (hf6.get krm rfl) (Eq.trans (hf3.get krm rfl) eG4.symm))))))))))
                have hG4t : (I87 rm 4).toInt = G4.toInt := congrArg Int32.toInt hG4
                have hG7 : I87 rm 7 = x86_ := (by rw [eI87]; exact up2_self _ _ _ _)
                have hG7t : (I87 rm 7).toInt = x86_.toInt := congrArg Int32.toInt hG7
                have hG8 : I87 rm 8 = G8 := (Eq.trans (up2_at (Or.inr (by decide)) eI87) (Eq.trans (up2_kk eI83 hK76 krm (by omega)) (Eq.trans (up2_kk eI81 hk79 krm (by decide)) (Eq.trans (up2_kk eI78 hk76 krm (by omega)) (Eq.trans (up2_kk eI75 hk73 krm (by decide)) (Eq.trans (hf62.get krm rfl) (Eq.trans (hf59.get krm rfl) (Eq.trans (hf9.get krm rfl) (Eq.trans (hf6.get krm rfl) (Eq.trans (hf3.get krm rfl) eG8.symm))))))))))
                have hG8t : (I87 rm 8).toInt = G8.toInt := congrArg Int32.toInt hG8
                have hG9 : I87 rm 9 = G9 := (Eq.trans (up2_at (Or.inr (by decide)) eI87) (Eq.trans (up2_kk eI83 hK76 krm (by omega)) (Eq.trans (up2_kk eI81 hk79 krm (by decide)) (Eq.trans (up2_kk eI78 hk76 krm (by omega)) (Eq.trans (up2_kk eI75 hk73 krm (by decide)) (Eq.trans (hf62.get krm rfl) (Eq.trans (hf59.get krm rfl) (Eq.trans (hf9.get krm rfl) (Eq.trans (hf6.get krm rfl) (Eq.trans (hf3.get krm rfl) eG9.symm))))))))))
                have hG9t : (I87 rm 9).toInt = G9.toInt := congrArg Int32.toInt hG9
                have hGN : I87 rm 10 = N1 := (Eq.trans (up2_at (Or.inr (by decide)) eI87) (Eq.trans (up2_kk eI83 hK76 krm (by omega)) (Eq.trans (up2_kk eI81 hk79 krm (by decide)) (Eq.trans (up2_kk eI78 hk76 krm (by omega)) (Eq.trans (up2_kk eI75 hk73 krm (by decide)) (Eq.trans (hf62.get krm rfl) (Eq.trans (hf59.get krm rfl) (Eq.trans (hf9.get krm rfl) eN1.symm))))))))
                have hGNt : (I87 rm 10).toInt = N1.toInt := congrArg Int32.toInt hGN
                have hv8 : I87 a0 8 = A9 := (Eq.trans (up2_kk eI87 krm ka0 (by decide)) (Eq.trans (up2_kk eI83 hK76 ka0 (by omega)) (Eq.trans (up2_kk eI81 hk79 ka0 (by decide)) (Eq.trans (up2_kk eI78 hk76 ka0 (by omega)) (Eq.trans (up2_kk eI75 hk73 ka0 (by decide)) eA9.symm)))))
                have hv8t : (I87 a0 8).toInt = A9.toInt := congrArg Int32.toInt hv8
                have hv9 : I87 a0 9 = x70_ := (Eq.trans (up2_kk eI87 krm ka0 (by decide)) (Eq.trans (up2_kk eI83 hK76 ka0 (by omega)) (Eq.trans (up2_kk eI81 hk79 ka0 (by decide)) (Eq.trans (up2_kk eI78 hk76 ka0 (by omega)) (Eq.trans (up2_kk eI75 hk73 ka0 (by decide)) e70.symm)))))
                have hv9t : (I87 a0 9).toInt = x70_.toInt := congrArg Int32.toInt hv9
                exact r_vret hC hQ hlk hr (by decide) (by decide) dX10_readStory_283 ⟨_, _, rfl, rfl, ⟨hs87, hF87, hFJ62, (by omega), (by omega), (by omega), (by omega)⟩⟩
              · have hG3 : I62 rm 3 = G3 := (Eq.trans (hf62.get krm rfl) (Eq.trans (hf59.get krm rfl) (Eq.trans (hf9.get krm rfl) (Eq.trans (hf6.get krm rfl) (Eq.trans (hf3.get krm rfl) eG3.symm)))))
                have hG3t : (I62 rm 3).toInt = G3.toInt := congrArg Int32.toInt hG3
                have hG4 : I62 rm 4 = G4 := (Eq.trans (hf62.get krm rfl) (Eq.trans (hf59.get krm rfl) (Eq.trans (hf9.get krm rfl) (Eq.trans (hf6.get krm rfl) (Eq.trans (hf3.get krm rfl) eG4.symm)))))
                have hG4t : (I62 rm 4).toInt = G4.toInt := congrArg Int32.toInt hG4
                have hG7 : I62 rm 7 = x5_ := (Eq.trans (hf62.get krm rfl) (Eq.trans (hf59.get krm rfl) (Eq.trans (hf9.get krm rfl) (Eq.trans (hf6.get krm rfl) e5.symm))))
                have hG7t : (I62 rm 7).toInt = x5_.toInt := congrArg Int32.toInt hG7
                have hG8 : I62 rm 8 = G8 := (Eq.trans (hf62.get krm rfl) (Eq.trans (hf59.get krm rfl) (Eq.trans (hf9.get krm rfl) (Eq.trans (hf6.get krm rfl) (Eq.trans (hf3.get krm rfl) eG8.symm)))))
                have hG8t : (I62 rm 8).toInt = G8.toInt := congrArg Int32.toInt hG8
                have hG9 : I62 rm 9 = G9 := (Eq.trans (hf62.get krm rfl) (Eq.trans (hf59.get krm rfl) (Eq.trans (hf9.get krm rfl) (Eq.trans (hf6.get krm rfl) (Eq.trans (hf3.get krm rfl) eG9.symm)))))
                have hG9t : (I62 rm 9).toInt = G9.toInt := congrArg Int32.toInt hG9
                have hGN : I62 rm 10 = N1 := (Eq.trans (hf62.get krm rfl) (Eq.trans (hf59.get krm rfl) (Eq.trans (hf9.get krm rfl) eN1.symm)))
                have hGNt : (I62 rm 10).toInt = N1.toInt := congrArg Int32.toInt hGN
                have hv8 : I62 a0 8 = A9 := eA9.symm
                have hv8t : (I62 a0 8).toInt = A9.toInt := congrArg Int32.toInt hv8
                have hv9 : I62 a0 9 = x70_ := e70.symm
                have hv9t : (I62 a0 9).toInt = x70_.toInt := congrArg Int32.toInt hv9
                exact r_vret hC hQ hlk hr (by decide) (by decide) dX10_readStory_204 ⟨_, _, rfl, rfl, ⟨hs62, hF62, hFJ62, (by omega), (by omega), (by omega), (by omega)⟩⟩
          · refine r_iconst hC (v := (4)) dX10_readStory_96 (by decide) (by decide) (fun x88_ e88 t88 => ?_)
            refine r_goto hC (tgt := 115) dX10_readStory_97 (by decide) ?_
            refine r_istore_n hC (lv' := [(2, .int x88_), (1, .int x9_), (0, .ref a0)]) dX10_readStory_115 (by decide) rfl ?_
            refine r_iload_n hC dX10_readStory_116 0 rfl ?_
            refine r_iconst hC (v := (-1)) dX10_readStory_117 (by decide) (by decide) (fun x89_ e89 t89 => ?_)
            refine r_icmp_ne hC (tgt := 126) dX10_readStory_118 (by decide) (fun c90 => ?_) (fun c90 => ?_)
            rotate_left
            · exfalso; omega
            refine r_aload_n hC dX10_readStory_126 2 rfl ?_
            refine r_callV hC (As := []) (rest := []) (ci := 10) (c_X10_goesOn g (xL X) K len I9 J9 R hs9 a0 ka0) mT_5_199 mT_1_10 mT_5_196 mT_5_198 mP_49 okX10_goesOn ⟨by decide, by decide⟩ rfl (by show kO (K a0) = _; rw [ka0]; rfl) rfl rfl (Nat.le_of_ble_eq_true rfl) ⟨by decide, by decide⟩ dX10_readStory_127 (aV2 (F := fun st M => P g X 5 130 [(2, .int x88_), (1, .int x9_), (0, .ref a0)] st _ _ M) (M := (K, len, I9, J9, R)) fun I91 J91 h91 => ?_)
            obtain ⟨hs91, hf91, hfj91, k91_0, k91_1, k91_2, k91_3⟩ := h91
            show P g X 5 130 [(2, .int x88_), (1, .int x9_), (0, .ref a0)] [] _ _ (K, len, I91, J91, R)
            have hF91 : Fr K [(10, 7), (10, 10), (11, 8), (11, 9), (11, 10), (11, 11), (11, 12), (11, 13), (41, 999), (1000, 999)] I I91 := hF9.trans hf91 rfl rfl
            have hFJ91 : Fr K [(11, 14), (42, 999)] J J91 := hFJ9.trans hfj91 rfl rfl
            refine r_aload_n hC dX10_readStory_130 2 rfl ?_
            refine r_iconst hC (v := (0)) dX10_readStory_131 (by decide) (by decide) (fun x92_ e92 t92 => ?_)
            refine r_bipush hC (v := (99)) dX10_readStory_132 (by decide) (by decide) (fun x93_ e93 t93 => ?_)
            refine r_callV hC (As := [.int x92_, .int x93_]) (rest := []) (ci := 10) (c_X10_readWhole g (xL X) K len I91 J91 R hs91 a0 ka0 x92_ x93_) mT_6_5 mT_1_10 mT_6_2 mT_6_4 mP_57 okX10_readWhole ⟨by decide, by decide⟩ rfl (by show kO (K a0) = _; rw [ka0]; rfl) rfl rfl (Nat.le_of_ble_eq_true rfl) ⟨by decide, by decide⟩ dX10_readStory_134 (aI2 (F := fun st M => P g X 5 137 [(2, .int x88_), (1, .int x9_), (0, .ref a0)] st _ _ M) (M := (K, len, I91, J91, R)) fun x94_ I94 J94 h94 => ?_)
            obtain ⟨hs94, hf94, hfj94, k94_0, k94_1, k94_2, k94_3⟩ := h94
            show P g X 5 137 [(2, .int x88_), (1, .int x9_), (0, .ref a0)] [.int x94_] _ _ (K, len, I94, J94, R)
            have hF94 : Fr K [(10, 7), (10, 10), (11, 8), (11, 9), (11, 10), (11, 11), (11, 12), (11, 13), (41, 999), (1000, 999)] I I94 := hF91.trans hf94 rfl rfl
            have hFJ94 : Fr K [(11, 14), (42, 999)] J J94 := hFJ91.trans hfj94 rfl rfl
            refine r_istore_n hC (lv' := [(3, .int x94_), (2, .int x88_), (1, .int x9_), (0, .ref a0)]) dX10_readStory_137 (by decide) rfl ?_
            refine r_iload_n hC dX10_readStory_138 1 rfl ?_
            refine r_iconst hC (v := (2)) dX10_readStory_139 (by decide) (by decide) (fun x95_ e95 t95 => ?_)
            refine r_icmp_ne hC (tgt := 156) dX10_readStory_140 (by decide) (fun c96 => ?_) (fun c96 => ?_)
            rotate_left
            · exfalso; omega
            refine r_iload_n hC dX10_readStory_156 1 rfl ?_
            refine r_iconst hC (v := (3)) dX10_readStory_157 (by decide) (by decide) (fun x97_ e97 t97 => ?_)
            refine r_icmp_ne hC (tgt := 175) dX10_readStory_158 (by decide) (fun c98 => ?_) (fun c98 => ?_)
            rotate_left
            · exfalso; omega
            refine r_iload_n hC dX10_readStory_175 1 rfl ?_
            refine r_iconst hC (v := (4)) dX10_readStory_176 (by decide) (by decide) (fun x99_ e99 t99 => ?_)
            refine r_icmp_ne hC (tgt := 193) dX10_readStory_177 (by decide) (fun c100 => ?_) (fun c100 => ?_)
            · exfalso; omega
            refine r_aload_n hC dX10_readStory_180 3 rfl ?_
            refine r_ldcwS hC (i := 54) (by decide) rfl rfl dX10_readStory_181 ?_
            refine r_iconst hC (v := (1)) dX10_readStory_184 (by decide) (by decide) (fun x101_ e101 t101 => ?_)
            refine r_bipush hC (v := (99)) dX10_readStory_185 (by decide) (by decide) (fun x102_ e102 t102 => ?_)
            refine r_callV hC (As := [.ref (g.2.2.1 54), .int x101_, .int x102_]) (rest := []) (ci := 10) (c_X10_readPart g (xL X) K len I94 J94 R hs94 a0 ka0 54 (by decide) x101_ x102_) mT_6_1 mT_1_10 mT_5_238 mT_6_0 mP_56 okX10_readPart ⟨by decide, by decide⟩ rfl (by show kO (K a0) = _; rw [ka0]; rfl) rfl rfl (Nat.le_of_ble_eq_true rfl) ⟨by decide, by decide⟩ dX10_readStory_187 (aI2 (F := fun st M => P g X 5 190 [(3, .int x94_), (2, .int x88_), (1, .int x9_), (0, .ref a0)] st _ _ M) (M := (K, len, I94, J94, R)) fun x103_ I103 J103 h103 => ?_)
            obtain ⟨hs103, hf103, hfj103, k103_0, k103_1, k103_2, k103_3⟩ := h103
            show P g X 5 190 [(3, .int x94_), (2, .int x88_), (1, .int x9_), (0, .ref a0)] [.int x103_] _ _ (K, len, I103, J103, R)
            have hF103 : Fr K [(10, 7), (10, 10), (11, 8), (11, 9), (11, 10), (11, 11), (11, 12), (11, 13), (41, 999), (1000, 999)] I I103 := hF94.trans hf103 rfl rfl
            have hFJ103 : Fr K [(11, 14), (42, 999)] J J103 := hFJ94.trans hfj103 rfl rfl
            refine r_goto hC (tgt := 194) dX10_readStory_190 (by decide) ?_
            refine r_istore hC (lv' := [(4, .int x103_), (3, .int x94_), (2, .int x88_), (1, .int x9_), (0, .ref a0)]) dX10_readStory_194 (by decide) rfl ?_
            refine r_aload_n hC dX10_readStory_196 4 rfl ?_
            obtain ⟨A9, eA9⟩ : ∃ z : Int32, z = I103 a0 8 := ⟨_, rfl⟩
            have fA9 : A9.toInt = (I103 a0 8).toInt := by rw [eA9]
            have rA9 := hs103.rng ka0 rfl eA9
            refine r_geti hC 9 (ci := 10) rfl u10_in (by decide) mT_5_4 dX10_readStory_197 ka0 rfl rfl (fun x104_ e104 => ?_)
            have f104 : x104_.toInt = (I103 a0 9).toInt := by rw [e104]
            refine r_iconst hC (v := (5)) dX10_readStory_200 (by decide) (by decide) (fun x105_ e105 t105 => ?_)
            refine r_icmp_ne hC (tgt := 205) dX10_readStory_201 (by decide) (fun c106 => ?_) (fun c106 => ?_)
            · refine r_aload_n hC dX10_readStory_205 4 rfl ?_
              refine r_getr hC 4 (ci := 10) rfl u10_in (by decide) mT_4_239 dX10_readStory_206 ka0 rfl rfl hbr ?_
              obtain ⟨a107_, hb107, hk107, hn107⟩ := hs103.row krm 16 41 6 (by decide) (by decide)
              refine r_getrN hC 16 (ci := 9) rfl u9_in (by decide) nF_16 dX10_readStory_209 krm rfl rfl hb107 ?_
              refine r_aload_n hC dX10_readStory_212 4 rfl ?_
              refine r_getr hC 4 (ci := 10) rfl u10_in (by decide) mT_4_239 dX10_readStory_213 ka0 rfl rfl hbr ?_
              refine r_getiN hC 7 (ci := 9) rfl u9_in (by decide) nF_7 dX10_readStory_216 krm rfl rfl (fun x108_ e108 => ?_)
              have r108 := hs103.rng krm rfl e108
              have f108 : x108_.toInt = (I103 rm 7).toInt := by rw [e108]
              have w108 : x108_ = x5_ := by rw [e108]; exact (Eq.trans (hf103.get krm rfl) (Eq.trans (hf94.get krm rfl) (Eq.trans (hf91.get krm rfl) (Eq.trans (hf9.get krm rfl) (Eq.trans (hf6.get krm rfl) e5.symm)))))
              have wt108 : x108_.toInt = x5_.toInt := by rw [w108]
              refine r_iload_n hC dX10_readStory_219 3 rfl ?_
              refine x_iastore hC hk107 hn107 (by decide) rfl rfl dX10_readStory_220 (by omega) (by omega) (fun I109 eI109 => ?_)
              have hs109 := hs103.put0 eI109 hk107 (rng_arr (by decide) _) rfl (xF_arr (by decide) _) (by decide)
              have hF109 := hF103.put eI109 hk107 (inS_arr rfl _)
              refine r_aload_n hC dX10_readStory_221 4 rfl ?_
              refine r_getr hC 4 (ci := 10) rfl u10_in (by decide) mT_4_239 dX10_readStory_222 ka0 rfl rfl hbr ?_
              obtain ⟨kd110, mo110, hb110, hk110, hn110, hB110, hK110, hN110⟩ := hs109.2.2.1 rm krm
              refine r_getrN hC 17 (ci := 9) rfl u9_in (by decide) nF_17 dX10_readStory_225 krm rfl rfl hb110 ?_
              refine r_aload_n hC dX10_readStory_228 4 rfl ?_
              refine r_getr hC 4 (ci := 10) rfl u10_in (by decide) mT_4_239 dX10_readStory_229 ka0 rfl rfl hbr ?_
              refine r_getiN hC 7 (ci := 9) rfl u9_in (by decide) nF_7 dX10_readStory_232 krm rfl rfl (fun x111_ e111 => ?_)
              have r111 := hs109.rng krm rfl e111
              have f111 : x111_.toInt = (I109 rm 7).toInt := by rw [e111]
              have w111 : x111_ = x108_ := by rw [e111]; exact (Eq.trans (up2_kk eI109 hk107 krm (by decide)) e108.symm)
              have wt111 : x111_.toInt = x108_.toInt := by rw [w111]
              refine r_iload_n hC dX10_readStory_235 2 rfl ?_
              refine x_iastore hC hk110 hn110 (by omega) (kOb (by omega)) (kAb (by omega)) dX10_readStory_236 (by omega) (by omega) (fun I112 eI112 => ?_)
              have hs112 : Sf K len I112 R := hs109.putK (rm := rm) eI112 (Or.inl hk110) (by have h9 := clampI (i := x111_) (by omega); omega)
              have hF112 := hF109.put eI112 hk110 (inS_big rfl (by omega) _)
              refine r_aload_n hC dX10_readStory_237 4 rfl ?_
              refine r_getr hC 4 (ci := 10) rfl u10_in (by decide) mT_4_239 dX10_readStory_238 ka0 rfl rfl hbr ?_
              obtain ⟨a113_, hb113, hk113, hn113⟩ := hs112.row krm 18 41 6 (by decide) (by decide)
              refine r_getrN hC 18 (ci := 9) rfl u9_in (by decide) nF_18 dX10_readStory_241 krm rfl rfl hb113 ?_
              refine r_aload_n hC dX10_readStory_244 4 rfl ?_
              refine r_getr hC 4 (ci := 10) rfl u10_in (by decide) mT_4_239 dX10_readStory_245 ka0 rfl rfl hbr ?_
              refine r_getiN hC 7 (ci := 9) rfl u9_in (by decide) nF_7 dX10_readStory_248 krm rfl rfl (fun x114_ e114 => ?_)
              have r114 := hs112.rng krm rfl e114
              have f114 : x114_.toInt = (I112 rm 7).toInt := by rw [e114]
              have w114 : x114_ = x111_ := by rw [e114]; exact (Eq.trans (up2_kk eI112 hk110 krm (by omega)) e111.symm)
              have wt114 : x114_.toInt = x111_.toInt := by rw [w114]
              refine r_iload_n hC dX10_readStory_251 1 rfl ?_
              refine x_iastore hC hk113 hn113 (by decide) rfl rfl dX10_readStory_252 (by omega) (by omega) (fun I115 eI115 => ?_)
              have hs115 := hs112.put0 eI115 hk113 (rng_arr (by decide) _) rfl (xF_arr (by decide) _) (by decide)
              have hF115 := hF112.put eI115 hk113 (inS_arr rfl _)
              refine r_aload_n hC dX10_readStory_253 4 rfl ?_
              refine r_getr hC 4 (ci := 10) rfl u10_in (by decide) mT_4_239 dX10_readStory_254 ka0 rfl rfl hbr ?_
              refine r_getrN hC 19 (ci := 9) rfl u9_in (by decide) nF_19 dX10_readStory_257 krm rfl rfl hB110 ?_
              refine r_aload_n hC dX10_readStory_260 4 rfl ?_
              refine r_getr hC 4 (ci := 10) rfl u10_in (by decide) mT_4_239 dX10_readStory_261 ka0 rfl rfl hbr ?_
              refine r_getiN hC 7 (ci := 9) rfl u9_in (by decide) nF_7 dX10_readStory_264 krm rfl rfl (fun x116_ e116 => ?_)
              have r116 := hs115.rng krm rfl e116
              have f116 : x116_.toInt = (I115 rm 7).toInt := by rw [e116]
              have w116 : x116_ = x114_ := by rw [e116]; exact (Eq.trans (up2_kk eI115 hk113 krm (by decide)) e114.symm)
              have wt116 : x116_.toInt = x114_.toInt := by rw [w116]
              refine r_iload hC dX10_readStory_267 0 rfl ?_
              refine x_iastore hC hK110 hN110 (by omega) (kOb (by omega)) (kAb (by omega)) dX10_readStory_269 (by omega) (by omega) (fun I117 eI117 => ?_)
              have hs117 : Sf K len I117 R := hs115.putK (rm := rm) eI117 (Or.inr hK110) (by have h9 := clampI (i := x116_) (by omega); omega)
              have hF117 := hF115.put eI117 hK110 (inS_big rfl (by omega) _)
              refine r_aload_n hC dX10_readStory_270 4 rfl ?_
              refine r_getr hC 4 (ci := 10) rfl u10_in (by decide) mT_4_239 dX10_readStory_271 ka0 rfl rfl hbr ?_
              refine r_dup hC dX10_readStory_274 rfl ?_
              refine r_getiN hC 7 (ci := 9) rfl u9_in (by decide) nF_7 dX10_readStory_275 krm rfl rfl (fun x118_ e118 => ?_)
              have r118 := hs117.rng krm rfl e118
              have f118 : x118_.toInt = (I117 rm 7).toInt := by rw [e118]
              have w118 : x118_ = x116_ := by rw [e118]; exact (Eq.trans (up2_kk eI117 hK110 krm (by omega)) e116.symm)
              have wt118 : x118_.toInt = x116_.toInt := by rw [w118]
              refine r_iconst hC (v := (1)) dX10_readStory_278 (by decide) (by decide) (fun x119_ e119 t119 => ?_)
              refine r_iadd hC dX10_readStory_279 (fun x120_ e120 => ?_)
              try have t120 : x120_.toInt = x118_.toInt + x119_.toInt := by rw [e120]; exact ti_add (by omega) (by omega)
              refine r_putiN hC 7 (ci := 9) rfl u9_in tyX9_ok nmX9 (by decide) nF_7 rfl rfl rfl dX10_readStory_280 krm rfl rfl (fun I121 eI121 => ?_)
              have hs121 : Sf K len I121 R := hs117.putA7 eI121 krm hb110 hB110 (by omega) (by omega) (j := x111_.toNatClampNeg) (by have h9 := clampI (i := x111_) (by omega); omega) (by omega) (by rw [(show I117 kd110 x111_.toNatClampNeg = x88_ from (Eq.trans (up2_kk eI117 hK110 hk110 (by omega)) (Eq.trans (up2_kk eI115 hk113 hk110 (by omega)) (by rw [eI112]; exact up2_self _ _ _ _)))), cl_eq (show x111_.toInt = x116_.toInt by omega), (show I117 mo110 x116_.toNatClampNeg = x103_ from (by rw [eI117]; exact up2_self _ _ _ _))]; omega)
              have hF121 := hF117.put eI121 krm rfl
              have hG3 : I121 rm 3 = G3 := (Eq.trans (up2_at (Or.inr (by decide)) eI121) (Eq.trans (up2_kk eI117 hK110 krm (by omega)) (Eq.trans (up2_kk eI115 hk113 krm (by decide)) (Eq.trans (up2_kk eI112 hk110 krm (by omega)) (Eq.trans (up2_kk eI109 hk107 krm (by decide)) (Eq.trans (hf103.get krm rfl) (Eq.trans (hf94.get krm rfl) (Eq.trans (hf91.get krm rfl) (Eq.trans (hf9.get krm rfl) (Eq.trans (hf6.get krm rfl) (Eq.trans (hf3.get krm rfl) eG3.symm)))))))))))
              have hG3t : (I121 rm 3).toInt = G3.toInt := congrArg Int32.toInt hG3
              have hG4 : I121 rm 4 = G4 := (Eq.trans (up2_at (Or.inr (by decide)) eI121) (Eq.trans (up2_kk eI117 hK110 krm (by omega)) (Eq.trans (up2_kk eI115 hk113 krm (by decide)) (Eq.trans (up2_kk eI112 hk110 krm (by omega)) (Eq.trans (up2_kk eI109 hk107 krm (by decide)) (Eq.trans (hf103.get krm rfl) (Eq.trans (hf94.get krm rfl) (Eq.trans (hf91.get krm rfl) (Eq.trans (hf9.get krm rfl) (Eq.trans (hf6.get krm rfl) (Eq.trans (hf3.get krm rfl) eG4.symm)))))))))))
              have hG4t : (I121 rm 4).toInt = G4.toInt := congrArg Int32.toInt hG4
              have hG7 : I121 rm 7 = x120_ := (by rw [eI121]; exact up2_self _ _ _ _)
              have hG7t : (I121 rm 7).toInt = x120_.toInt := congrArg Int32.toInt hG7
              have hG8 : I121 rm 8 = G8 := (Eq.trans (up2_at (Or.inr (by decide)) eI121) (Eq.trans (up2_kk eI117 hK110 krm (by omega)) (Eq.trans (up2_kk eI115 hk113 krm (by decide)) (Eq.trans (up2_kk eI112 hk110 krm (by omega)) (Eq.trans (up2_kk eI109 hk107 krm (by decide)) (Eq.trans (hf103.get krm rfl) (Eq.trans (hf94.get krm rfl) (Eq.trans (hf91.get krm rfl) (Eq.trans (hf9.get krm rfl) (Eq.trans (hf6.get krm rfl) (Eq.trans (hf3.get krm rfl) eG8.symm)))))))))))
              have hG8t : (I121 rm 8).toInt = G8.toInt := congrArg Int32.toInt hG8
              have hG9 : I121 rm 9 = G9 := (Eq.trans (up2_at (Or.inr (by decide)) eI121) (Eq.trans (up2_kk eI117 hK110 krm (by omega)) (Eq.trans (up2_kk eI115 hk113 krm (by decide)) (Eq.trans (up2_kk eI112 hk110 krm (by omega)) (Eq.trans (up2_kk eI109 hk107 krm (by decide)) (Eq.trans (hf103.get krm rfl) (Eq.trans (hf94.get krm rfl) (Eq.trans (hf91.get krm rfl) (Eq.trans (hf9.get krm rfl) (Eq.trans (hf6.get krm rfl) (Eq.trans (hf3.get krm rfl) eG9.symm)))))))))))
              have hG9t : (I121 rm 9).toInt = G9.toInt := congrArg Int32.toInt hG9
              have hGN : I121 rm 10 = N1 := (Eq.trans (up2_at (Or.inr (by decide)) eI121) (Eq.trans (up2_kk eI117 hK110 krm (by omega)) (Eq.trans (up2_kk eI115 hk113 krm (by decide)) (Eq.trans (up2_kk eI112 hk110 krm (by omega)) (Eq.trans (up2_kk eI109 hk107 krm (by decide)) (Eq.trans (hf103.get krm rfl) (Eq.trans (hf94.get krm rfl) (Eq.trans (hf91.get krm rfl) (Eq.trans (hf9.get krm rfl) eN1.symm)))))))))
              have hGNt : (I121 rm 10).toInt = N1.toInt := congrArg Int32.toInt hGN
              have hv8 : I121 a0 8 = A9 := (Eq.trans (up2_kk eI121 krm ka0 (by decide)) (Eq.trans (up2_kk eI117 hK110 ka0 (by omega)) (Eq.trans (up2_kk eI115 hk113 ka0 (by decide)) (Eq.trans (up2_kk eI112 hk110 ka0 (by omega)) (Eq.trans (up2_kk eI109 hk107 ka0 (by decide)) eA9.symm)))))
              have hv8t : (I121 a0 8).toInt = A9.toInt := congrArg Int32.toInt hv8
              have hv9 : I121 a0 9 = x104_ := (Eq.trans (up2_kk eI121 krm ka0 (by decide)) (Eq.trans (up2_kk eI117 hK110 ka0 (by omega)) (Eq.trans (up2_kk eI115 hk113 ka0 (by decide)) (Eq.trans (up2_kk eI112 hk110 ka0 (by omega)) (Eq.trans (up2_kk eI109 hk107 ka0 (by decide)) e104.symm)))))
              have hv9t : (I121 a0 9).toInt = x104_.toInt := congrArg Int32.toInt hv9
              exact r_vret hC hQ hlk hr (by decide) (by decide) dX10_readStory_283 ⟨_, _, rfl, rfl, ⟨hs121, hF121, hFJ103, (by omega), (by omega), (by omega), (by omega)⟩⟩
            · have hG3 : I103 rm 3 = G3 := (Eq.trans (hf103.get krm rfl) (Eq.trans (hf94.get krm rfl) (Eq.trans (hf91.get krm rfl) (Eq.trans (hf9.get krm rfl) (Eq.trans (hf6.get krm rfl) (Eq.trans (hf3.get krm rfl) eG3.symm))))))
              have hG3t : (I103 rm 3).toInt = G3.toInt := congrArg Int32.toInt hG3
              have hG4 : I103 rm 4 = G4 := (Eq.trans (hf103.get krm rfl) (Eq.trans (hf94.get krm rfl) (Eq.trans (hf91.get krm rfl) (Eq.trans (hf9.get krm rfl) (Eq.trans (hf6.get krm rfl) (Eq.trans (hf3.get krm rfl) eG4.symm))))))
              have hG4t : (I103 rm 4).toInt = G4.toInt := congrArg Int32.toInt hG4
              have hG7 : I103 rm 7 = x5_ := (Eq.trans (hf103.get krm rfl) (Eq.trans (hf94.get krm rfl) (Eq.trans (hf91.get krm rfl) (Eq.trans (hf9.get krm rfl) (Eq.trans (hf6.get krm rfl) e5.symm)))))
              have hG7t : (I103 rm 7).toInt = x5_.toInt := congrArg Int32.toInt hG7
              have hG8 : I103 rm 8 = G8 := (Eq.trans (hf103.get krm rfl) (Eq.trans (hf94.get krm rfl) (Eq.trans (hf91.get krm rfl) (Eq.trans (hf9.get krm rfl) (Eq.trans (hf6.get krm rfl) (Eq.trans (hf3.get krm rfl) eG8.symm))))))
              have hG8t : (I103 rm 8).toInt = G8.toInt := congrArg Int32.toInt hG8
              have hG9 : I103 rm 9 = G9 := (Eq.trans (hf103.get krm rfl) (Eq.trans (hf94.get krm rfl) (Eq.trans (hf91.get krm rfl) (Eq.trans (hf9.get krm rfl) (Eq.trans (hf6.get krm rfl) (Eq.trans (hf3.get krm rfl) eG9.symm))))))
              have hG9t : (I103 rm 9).toInt = G9.toInt := congrArg Int32.toInt hG9
              have hGN : I103 rm 10 = N1 := (Eq.trans (hf103.get krm rfl) (Eq.trans (hf94.get krm rfl) (Eq.trans (hf91.get krm rfl) (Eq.trans (hf9.get krm rfl) eN1.symm))))
              have hGNt : (I103 rm 10).toInt = N1.toInt := congrArg Int32.toInt hGN
              have hv8 : I103 a0 8 = A9 := eA9.symm
              have hv8t : (I103 a0 8).toInt = A9.toInt := congrArg Int32.toInt hv8
              have hv9 : I103 a0 9 = x104_ := e104.symm
              have hv9t : (I103 a0 9).toInt = x104_.toInt := congrArg Int32.toInt hv9
              exact r_vret hC hQ hlk hr (by decide) (by decide) dX10_readStory_204 ⟨_, _, rfl, rfl, ⟨hs103, hF103, hFJ103, (by omega), (by omega), (by omega), (by omega)⟩⟩
        · refine r_iconst hC (v := (3)) dX10_readStory_83 (by decide) (by decide) (fun x122_ e122 t122 => ?_)
          refine r_goto hC (tgt := 115) dX10_readStory_84 (by decide) ?_
          refine r_istore_n hC (lv' := [(2, .int x122_), (1, .int x9_), (0, .ref a0)]) dX10_readStory_115 (by decide) rfl ?_
          refine r_iload_n hC dX10_readStory_116 0 rfl ?_
          refine r_iconst hC (v := (-1)) dX10_readStory_117 (by decide) (by decide) (fun x123_ e123 t123 => ?_)
          refine r_icmp_ne hC (tgt := 126) dX10_readStory_118 (by decide) (fun c124 => ?_) (fun c124 => ?_)
          rotate_left
          · exfalso; omega
          refine r_aload_n hC dX10_readStory_126 2 rfl ?_
          refine r_callV hC (As := []) (rest := []) (ci := 10) (c_X10_goesOn g (xL X) K len I9 J9 R hs9 a0 ka0) mT_5_199 mT_1_10 mT_5_196 mT_5_198 mP_49 okX10_goesOn ⟨by decide, by decide⟩ rfl (by show kO (K a0) = _; rw [ka0]; rfl) rfl rfl (Nat.le_of_ble_eq_true rfl) ⟨by decide, by decide⟩ dX10_readStory_127 (aV2 (F := fun st M => P g X 5 130 [(2, .int x122_), (1, .int x9_), (0, .ref a0)] st _ _ M) (M := (K, len, I9, J9, R)) fun I125 J125 h125 => ?_)
          obtain ⟨hs125, hf125, hfj125, k125_0, k125_1, k125_2, k125_3⟩ := h125
          show P g X 5 130 [(2, .int x122_), (1, .int x9_), (0, .ref a0)] [] _ _ (K, len, I125, J125, R)
          have hF125 : Fr K [(10, 7), (10, 10), (11, 8), (11, 9), (11, 10), (11, 11), (11, 12), (11, 13), (41, 999), (1000, 999)] I I125 := hF9.trans hf125 rfl rfl
          have hFJ125 : Fr K [(11, 14), (42, 999)] J J125 := hFJ9.trans hfj125 rfl rfl
          refine r_aload_n hC dX10_readStory_130 2 rfl ?_
          refine r_iconst hC (v := (0)) dX10_readStory_131 (by decide) (by decide) (fun x126_ e126 t126 => ?_)
          refine r_bipush hC (v := (99)) dX10_readStory_132 (by decide) (by decide) (fun x127_ e127 t127 => ?_)
          refine r_callV hC (As := [.int x126_, .int x127_]) (rest := []) (ci := 10) (c_X10_readWhole g (xL X) K len I125 J125 R hs125 a0 ka0 x126_ x127_) mT_6_5 mT_1_10 mT_6_2 mT_6_4 mP_57 okX10_readWhole ⟨by decide, by decide⟩ rfl (by show kO (K a0) = _; rw [ka0]; rfl) rfl rfl (Nat.le_of_ble_eq_true rfl) ⟨by decide, by decide⟩ dX10_readStory_134 (aI2 (F := fun st M => P g X 5 137 [(2, .int x122_), (1, .int x9_), (0, .ref a0)] st _ _ M) (M := (K, len, I125, J125, R)) fun x128_ I128 J128 h128 => ?_)
          obtain ⟨hs128, hf128, hfj128, k128_0, k128_1, k128_2, k128_3⟩ := h128
          show P g X 5 137 [(2, .int x122_), (1, .int x9_), (0, .ref a0)] [.int x128_] _ _ (K, len, I128, J128, R)
          have hF128 : Fr K [(10, 7), (10, 10), (11, 8), (11, 9), (11, 10), (11, 11), (11, 12), (11, 13), (41, 999), (1000, 999)] I I128 := hF125.trans hf128 rfl rfl
          have hFJ128 : Fr K [(11, 14), (42, 999)] J J128 := hFJ125.trans hfj128 rfl rfl
          refine r_istore_n hC (lv' := [(3, .int x128_), (2, .int x122_), (1, .int x9_), (0, .ref a0)]) dX10_readStory_137 (by decide) rfl ?_
          refine r_iload_n hC dX10_readStory_138 1 rfl ?_
          refine r_iconst hC (v := (2)) dX10_readStory_139 (by decide) (by decide) (fun x129_ e129 t129 => ?_)
          refine r_icmp_ne hC (tgt := 156) dX10_readStory_140 (by decide) (fun c130 => ?_) (fun c130 => ?_)
          rotate_left
          · exfalso; omega
          refine r_iload_n hC dX10_readStory_156 1 rfl ?_
          refine r_iconst hC (v := (3)) dX10_readStory_157 (by decide) (by decide) (fun x131_ e131 t131 => ?_)
          refine r_icmp_ne hC (tgt := 175) dX10_readStory_158 (by decide) (fun c132 => ?_) (fun c132 => ?_)
          · exfalso; omega
          refine r_aload_n hC dX10_readStory_161 3 rfl ?_
          refine r_ldcwS hC (i := 53) (by decide) rfl rfl dX10_readStory_162 ?_
          refine r_iconst hC (v := (0)) dX10_readStory_165 (by decide) (by decide) (fun x133_ e133 t133 => ?_)
          refine r_sipush hC (v := (999)) dX10_readStory_166 (by decide) (by decide) (fun x134_ e134 t134 => ?_)
          refine r_callV hC (As := [.ref (g.2.2.1 53), .int x133_, .int x134_]) (rest := []) (ci := 10) (c_X10_readPart g (xL X) K len I128 J128 R hs128 a0 ka0 53 (by decide) x133_ x134_) mT_6_1 mT_1_10 mT_5_238 mT_6_0 mP_56 okX10_readPart ⟨by decide, by decide⟩ rfl (by show kO (K a0) = _; rw [ka0]; rfl) rfl rfl (Nat.le_of_ble_eq_true rfl) ⟨by decide, by decide⟩ dX10_readStory_169 (aI2 (F := fun st M => P g X 5 172 [(3, .int x128_), (2, .int x122_), (1, .int x9_), (0, .ref a0)] st _ _ M) (M := (K, len, I128, J128, R)) fun x135_ I135 J135 h135 => ?_)
          obtain ⟨hs135, hf135, hfj135, k135_0, k135_1, k135_2, k135_3⟩ := h135
          show P g X 5 172 [(3, .int x128_), (2, .int x122_), (1, .int x9_), (0, .ref a0)] [.int x135_] _ _ (K, len, I135, J135, R)
          have hF135 : Fr K [(10, 7), (10, 10), (11, 8), (11, 9), (11, 10), (11, 11), (11, 12), (11, 13), (41, 999), (1000, 999)] I I135 := hF128.trans hf135 rfl rfl
          have hFJ135 : Fr K [(11, 14), (42, 999)] J J135 := hFJ128.trans hfj135 rfl rfl
          refine r_goto hC (tgt := 194) dX10_readStory_172 (by decide) ?_
          refine r_istore hC (lv' := [(4, .int x135_), (3, .int x128_), (2, .int x122_), (1, .int x9_), (0, .ref a0)]) dX10_readStory_194 (by decide) rfl ?_
          refine r_aload_n hC dX10_readStory_196 4 rfl ?_
          obtain ⟨A9, eA9⟩ : ∃ z : Int32, z = I135 a0 8 := ⟨_, rfl⟩
          have fA9 : A9.toInt = (I135 a0 8).toInt := by rw [eA9]
          have rA9 := hs135.rng ka0 rfl eA9
          refine r_geti hC 9 (ci := 10) rfl u10_in (by decide) mT_5_4 dX10_readStory_197 ka0 rfl rfl (fun x136_ e136 => ?_)
          have f136 : x136_.toInt = (I135 a0 9).toInt := by rw [e136]
          refine r_iconst hC (v := (5)) dX10_readStory_200 (by decide) (by decide) (fun x137_ e137 t137 => ?_)
          refine r_icmp_ne hC (tgt := 205) dX10_readStory_201 (by decide) (fun c138 => ?_) (fun c138 => ?_)
          · refine r_aload_n hC dX10_readStory_205 4 rfl ?_
            refine r_getr hC 4 (ci := 10) rfl u10_in (by decide) mT_4_239 dX10_readStory_206 ka0 rfl rfl hbr ?_
            obtain ⟨a139_, hb139, hk139, hn139⟩ := hs135.row krm 16 41 6 (by decide) (by decide)
            refine r_getrN hC 16 (ci := 9) rfl u9_in (by decide) nF_16 dX10_readStory_209 krm rfl rfl hb139 ?_
            refine r_aload_n hC dX10_readStory_212 4 rfl ?_
            refine r_getr hC 4 (ci := 10) rfl u10_in (by decide) mT_4_239 dX10_readStory_213 ka0 rfl rfl hbr ?_
            refine r_getiN hC 7 (ci := 9) rfl u9_in (by decide) nF_7 dX10_readStory_216 krm rfl rfl (fun x140_ e140 => ?_)
            have r140 := hs135.rng krm rfl e140
            have f140 : x140_.toInt = (I135 rm 7).toInt := by rw [e140]
            have w140 : x140_ = x5_ := by rw [e140]; exact (Eq.trans (hf135.get krm rfl) (Eq.trans (hf128.get krm rfl) (Eq.trans (hf125.get krm rfl) (Eq.trans (hf9.get krm rfl) (Eq.trans (hf6.get krm rfl) e5.symm)))))
            have wt140 : x140_.toInt = x5_.toInt := by rw [w140]
            refine r_iload_n hC dX10_readStory_219 3 rfl ?_
            refine x_iastore hC hk139 hn139 (by decide) rfl rfl dX10_readStory_220 (by omega) (by omega) (fun I141 eI141 => ?_)
            have hs141 := hs135.put0 eI141 hk139 (rng_arr (by decide) _) rfl (xF_arr (by decide) _) (by decide)
            have hF141 := hF135.put eI141 hk139 (inS_arr rfl _)
            refine r_aload_n hC dX10_readStory_221 4 rfl ?_
            refine r_getr hC 4 (ci := 10) rfl u10_in (by decide) mT_4_239 dX10_readStory_222 ka0 rfl rfl hbr ?_
            obtain ⟨kd142, mo142, hb142, hk142, hn142, hB142, hK142, hN142⟩ := hs141.2.2.1 rm krm
            refine r_getrN hC 17 (ci := 9) rfl u9_in (by decide) nF_17 dX10_readStory_225 krm rfl rfl hb142 ?_
            refine r_aload_n hC dX10_readStory_228 4 rfl ?_
            refine r_getr hC 4 (ci := 10) rfl u10_in (by decide) mT_4_239 dX10_readStory_229 ka0 rfl rfl hbr ?_
            refine r_getiN hC 7 (ci := 9) rfl u9_in (by decide) nF_7 dX10_readStory_232 krm rfl rfl (fun x143_ e143 => ?_)
            have r143 := hs141.rng krm rfl e143
            have f143 : x143_.toInt = (I141 rm 7).toInt := by rw [e143]
            have w143 : x143_ = x140_ := by rw [e143]; exact (Eq.trans (up2_kk eI141 hk139 krm (by decide)) e140.symm)
            have wt143 : x143_.toInt = x140_.toInt := by rw [w143]
            refine r_iload_n hC dX10_readStory_235 2 rfl ?_
            refine x_iastore hC hk142 hn142 (by omega) (kOb (by omega)) (kAb (by omega)) dX10_readStory_236 (by omega) (by omega) (fun I144 eI144 => ?_)
            have hs144 : Sf K len I144 R := hs141.putK (rm := rm) eI144 (Or.inl hk142) (by have h9 := clampI (i := x143_) (by omega); omega)
            have hF144 := hF141.put eI144 hk142 (inS_big rfl (by omega) _)
            refine r_aload_n hC dX10_readStory_237 4 rfl ?_
            refine r_getr hC 4 (ci := 10) rfl u10_in (by decide) mT_4_239 dX10_readStory_238 ka0 rfl rfl hbr ?_
            obtain ⟨a145_, hb145, hk145, hn145⟩ := hs144.row krm 18 41 6 (by decide) (by decide)
            refine r_getrN hC 18 (ci := 9) rfl u9_in (by decide) nF_18 dX10_readStory_241 krm rfl rfl hb145 ?_
            refine r_aload_n hC dX10_readStory_244 4 rfl ?_
            refine r_getr hC 4 (ci := 10) rfl u10_in (by decide) mT_4_239 dX10_readStory_245 ka0 rfl rfl hbr ?_
            refine r_getiN hC 7 (ci := 9) rfl u9_in (by decide) nF_7 dX10_readStory_248 krm rfl rfl (fun x146_ e146 => ?_)
            have r146 := hs144.rng krm rfl e146
            have f146 : x146_.toInt = (I144 rm 7).toInt := by rw [e146]
            have w146 : x146_ = x143_ := by rw [e146]; exact (Eq.trans (up2_kk eI144 hk142 krm (by omega)) e143.symm)
            have wt146 : x146_.toInt = x143_.toInt := by rw [w146]
            refine r_iload_n hC dX10_readStory_251 1 rfl ?_
            refine x_iastore hC hk145 hn145 (by decide) rfl rfl dX10_readStory_252 (by omega) (by omega) (fun I147 eI147 => ?_)
            have hs147 := hs144.put0 eI147 hk145 (rng_arr (by decide) _) rfl (xF_arr (by decide) _) (by decide)
            have hF147 := hF144.put eI147 hk145 (inS_arr rfl _)
            refine r_aload_n hC dX10_readStory_253 4 rfl ?_
            refine r_getr hC 4 (ci := 10) rfl u10_in (by decide) mT_4_239 dX10_readStory_254 ka0 rfl rfl hbr ?_
            refine r_getrN hC 19 (ci := 9) rfl u9_in (by decide) nF_19 dX10_readStory_257 krm rfl rfl hB142 ?_
            refine r_aload_n hC dX10_readStory_260 4 rfl ?_
            refine r_getr hC 4 (ci := 10) rfl u10_in (by decide) mT_4_239 dX10_readStory_261 ka0 rfl rfl hbr ?_
            refine r_getiN hC 7 (ci := 9) rfl u9_in (by decide) nF_7 dX10_readStory_264 krm rfl rfl (fun x148_ e148 => ?_)
            have r148 := hs147.rng krm rfl e148
            have f148 : x148_.toInt = (I147 rm 7).toInt := by rw [e148]
            have w148 : x148_ = x146_ := by rw [e148]; exact (Eq.trans (up2_kk eI147 hk145 krm (by decide)) e146.symm)
            have wt148 : x148_.toInt = x146_.toInt := by rw [w148]
            refine r_iload hC dX10_readStory_267 0 rfl ?_
            refine x_iastore hC hK142 hN142 (by omega) (kOb (by omega)) (kAb (by omega)) dX10_readStory_269 (by omega) (by omega) (fun I149 eI149 => ?_)
            have hs149 : Sf K len I149 R := hs147.putK (rm := rm) eI149 (Or.inr hK142) (by have h9 := clampI (i := x148_) (by omega); omega)
            have hF149 := hF147.put eI149 hK142 (inS_big rfl (by omega) _)
            refine r_aload_n hC dX10_readStory_270 4 rfl ?_
            refine r_getr hC 4 (ci := 10) rfl u10_in (by decide) mT_4_239 dX10_readStory_271 ka0 rfl rfl hbr ?_
            refine r_dup hC dX10_readStory_274 rfl ?_
            refine r_getiN hC 7 (ci := 9) rfl u9_in (by decide) nF_7 dX10_readStory_275 krm rfl rfl (fun x150_ e150 => ?_)
            have r150 := hs149.rng krm rfl e150
            have f150 : x150_.toInt = (I149 rm 7).toInt := by rw [e150]
            have w150 : x150_ = x148_ := by rw [e150]; exact (Eq.trans (up2_kk eI149 hK142 krm (by omega)) e148.symm)
            have wt150 : x150_.toInt = x148_.toInt := by rw [w150]
            refine r_iconst hC (v := (1)) dX10_readStory_278 (by decide) (by decide) (fun x151_ e151 t151 => ?_)
            refine r_iadd hC dX10_readStory_279 (fun x152_ e152 => ?_)
            try have t152 : x152_.toInt = x150_.toInt + x151_.toInt := by rw [e152]; exact ti_add (by omega) (by omega)
            refine r_putiN hC 7 (ci := 9) rfl u9_in tyX9_ok nmX9 (by decide) nF_7 rfl rfl rfl dX10_readStory_280 krm rfl rfl (fun I153 eI153 => ?_)
            have hs153 : Sf K len I153 R := hs149.putA7 eI153 krm hb142 hB142 (by omega) (by omega) (j := x143_.toNatClampNeg) (by have h9 := clampI (i := x143_) (by omega); omega) (by omega) (by rw [(show I149 kd142 x143_.toNatClampNeg = x122_ from (Eq.trans (up2_kk eI149 hK142 hk142 (by omega)) (Eq.trans (up2_kk eI147 hk145 hk142 (by omega)) (by rw [eI144]; exact up2_self _ _ _ _)))), cl_eq (show x143_.toInt = x148_.toInt by omega), (show I149 mo142 x148_.toNatClampNeg = x135_ from (by rw [eI149]; exact up2_self _ _ _ _))]; omega)
            have hF153 := hF149.put eI153 krm rfl
            have hG3 : I153 rm 3 = G3 := (Eq.trans (up2_at (Or.inr (by decide)) eI153) (Eq.trans (up2_kk eI149 hK142 krm (by omega)) (Eq.trans (up2_kk eI147 hk145 krm (by decide)) (Eq.trans (up2_kk eI144 hk142 krm (by omega)) (Eq.trans (up2_kk eI141 hk139 krm (by decide)) (Eq.trans (hf135.get krm rfl) (Eq.trans (hf128.get krm rfl) (Eq.trans (hf125.get krm rfl) (Eq.trans (hf9.get krm rfl) (Eq.trans (hf6.get krm rfl) (Eq.trans (hf3.get krm rfl) eG3.symm)))))))))))
            have hG3t : (I153 rm 3).toInt = G3.toInt := congrArg Int32.toInt hG3
            have hG4 : I153 rm 4 = G4 := (Eq.trans (up2_at (Or.inr (by decide)) eI153) (Eq.trans (up2_kk eI149 hK142 krm (by omega)) (Eq.trans (up2_kk eI147 hk145 krm (by decide)) (Eq.trans (up2_kk eI144 hk142 krm (by omega)) (Eq.trans (up2_kk eI141 hk139 krm (by decide)) (Eq.trans (hf135.get krm rfl) (Eq.trans (hf128.get krm rfl) (Eq.trans (hf125.get krm rfl) (Eq.trans (hf9.get krm rfl) (Eq.trans (hf6.get krm rfl) (Eq.trans (hf3.get krm rfl) eG4.symm)))))))))))
            have hG4t : (I153 rm 4).toInt = G4.toInt := congrArg Int32.toInt hG4
            have hG7 : I153 rm 7 = x152_ := (by rw [eI153]; exact up2_self _ _ _ _)
            have hG7t : (I153 rm 7).toInt = x152_.toInt := congrArg Int32.toInt hG7
            have hG8 : I153 rm 8 = G8 := (Eq.trans (up2_at (Or.inr (by decide)) eI153) (Eq.trans (up2_kk eI149 hK142 krm (by omega)) (Eq.trans (up2_kk eI147 hk145 krm (by decide)) (Eq.trans (up2_kk eI144 hk142 krm (by omega)) (Eq.trans (up2_kk eI141 hk139 krm (by decide)) (Eq.trans (hf135.get krm rfl) (Eq.trans (hf128.get krm rfl) (Eq.trans (hf125.get krm rfl) (Eq.trans (hf9.get krm rfl) (Eq.trans (hf6.get krm rfl) (Eq.trans (hf3.get krm rfl) eG8.symm)))))))))))
            have hG8t : (I153 rm 8).toInt = G8.toInt := congrArg Int32.toInt hG8
            have hG9 : I153 rm 9 = G9 := (Eq.trans (up2_at (Or.inr (by decide)) eI153) (Eq.trans (up2_kk eI149 hK142 krm (by omega)) (Eq.trans (up2_kk eI147 hk145 krm (by decide)) (Eq.trans (up2_kk eI144 hk142 krm (by omega)) (Eq.trans (up2_kk eI141 hk139 krm (by decide)) (Eq.trans (hf135.get krm rfl) (Eq.trans (hf128.get krm rfl) (Eq.trans (hf125.get krm rfl) (Eq.trans (hf9.get krm rfl) (Eq.trans (hf6.get krm rfl) (Eq.trans (hf3.get krm rfl) eG9.symm)))))))))))
            have hG9t : (I153 rm 9).toInt = G9.toInt := congrArg Int32.toInt hG9
            have hGN : I153 rm 10 = N1 := (Eq.trans (up2_at (Or.inr (by decide)) eI153) (Eq.trans (up2_kk eI149 hK142 krm (by omega)) (Eq.trans (up2_kk eI147 hk145 krm (by decide)) (Eq.trans (up2_kk eI144 hk142 krm (by omega)) (Eq.trans (up2_kk eI141 hk139 krm (by decide)) (Eq.trans (hf135.get krm rfl) (Eq.trans (hf128.get krm rfl) (Eq.trans (hf125.get krm rfl) (Eq.trans (hf9.get krm rfl) eN1.symm)))))))))
            have hGNt : (I153 rm 10).toInt = N1.toInt := congrArg Int32.toInt hGN
            have hv8 : I153 a0 8 = A9 := (Eq.trans (up2_kk eI153 krm ka0 (by decide)) (Eq.trans (up2_kk eI149 hK142 ka0 (by omega)) (Eq.trans (up2_kk eI147 hk145 ka0 (by decide)) (Eq.trans (up2_kk eI144 hk142 ka0 (by omega)) (Eq.trans (up2_kk eI141 hk139 ka0 (by decide)) eA9.symm)))))
            have hv8t : (I153 a0 8).toInt = A9.toInt := congrArg Int32.toInt hv8
            have hv9 : I153 a0 9 = x136_ := (Eq.trans (up2_kk eI153 krm ka0 (by decide)) (Eq.trans (up2_kk eI149 hK142 ka0 (by omega)) (Eq.trans (up2_kk eI147 hk145 ka0 (by decide)) (Eq.trans (up2_kk eI144 hk142 ka0 (by omega)) (Eq.trans (up2_kk eI141 hk139 ka0 (by decide)) e136.symm)))))
            have hv9t : (I153 a0 9).toInt = x136_.toInt := congrArg Int32.toInt hv9
            exact r_vret hC hQ hlk hr (by decide) (by decide) dX10_readStory_283 ⟨_, _, rfl, rfl, ⟨hs153, hF153, hFJ135, (by omega), (by omega), (by omega), (by omega)⟩⟩
          · have hG3 : I135 rm 3 = G3 := (Eq.trans (hf135.get krm rfl) (Eq.trans (hf128.get krm rfl) (Eq.trans (hf125.get krm rfl) (Eq.trans (hf9.get krm rfl) (Eq.trans (hf6.get krm rfl) (Eq.trans (hf3.get krm rfl) eG3.symm))))))
            have hG3t : (I135 rm 3).toInt = G3.toInt := congrArg Int32.toInt hG3
            have hG4 : I135 rm 4 = G4 := (Eq.trans (hf135.get krm rfl) (Eq.trans (hf128.get krm rfl) (Eq.trans (hf125.get krm rfl) (Eq.trans (hf9.get krm rfl) (Eq.trans (hf6.get krm rfl) (Eq.trans (hf3.get krm rfl) eG4.symm))))))
            have hG4t : (I135 rm 4).toInt = G4.toInt := congrArg Int32.toInt hG4
            have hG7 : I135 rm 7 = x5_ := (Eq.trans (hf135.get krm rfl) (Eq.trans (hf128.get krm rfl) (Eq.trans (hf125.get krm rfl) (Eq.trans (hf9.get krm rfl) (Eq.trans (hf6.get krm rfl) e5.symm)))))
            have hG7t : (I135 rm 7).toInt = x5_.toInt := congrArg Int32.toInt hG7
            have hG8 : I135 rm 8 = G8 := (Eq.trans (hf135.get krm rfl) (Eq.trans (hf128.get krm rfl) (Eq.trans (hf125.get krm rfl) (Eq.trans (hf9.get krm rfl) (Eq.trans (hf6.get krm rfl) (Eq.trans (hf3.get krm rfl) eG8.symm))))))
            have hG8t : (I135 rm 8).toInt = G8.toInt := congrArg Int32.toInt hG8
            have hG9 : I135 rm 9 = G9 := (Eq.trans (hf135.get krm rfl) (Eq.trans (hf128.get krm rfl) (Eq.trans (hf125.get krm rfl) (Eq.trans (hf9.get krm rfl) (Eq.trans (hf6.get krm rfl) (Eq.trans (hf3.get krm rfl) eG9.symm))))))
            have hG9t : (I135 rm 9).toInt = G9.toInt := congrArg Int32.toInt hG9
            have hGN : I135 rm 10 = N1 := (Eq.trans (hf135.get krm rfl) (Eq.trans (hf128.get krm rfl) (Eq.trans (hf125.get krm rfl) (Eq.trans (hf9.get krm rfl) eN1.symm))))
            have hGNt : (I135 rm 10).toInt = N1.toInt := congrArg Int32.toInt hGN
            have hv8 : I135 a0 8 = A9 := eA9.symm
            have hv8t : (I135 a0 8).toInt = A9.toInt := congrArg Int32.toInt hv8
            have hv9 : I135 a0 9 = x136_ := e136.symm
            have hv9t : (I135 a0 9).toInt = x136_.toInt := congrArg Int32.toInt hv9
            exact r_vret hC hQ hlk hr (by decide) (by decide) dX10_readStory_204 ⟨_, _, rfl, rfl, ⟨hs135, hF135, hFJ135, (by omega), (by omega), (by omega), (by omega)⟩⟩
      · refine r_iconst hC (v := (2)) dX10_readStory_70 (by decide) (by decide) (fun x154_ e154 t154 => ?_)
        refine r_goto hC (tgt := 115) dX10_readStory_71 (by decide) ?_
        refine r_istore_n hC (lv' := [(2, .int x154_), (1, .int x9_), (0, .ref a0)]) dX10_readStory_115 (by decide) rfl ?_
        refine r_iload_n hC dX10_readStory_116 0 rfl ?_
        refine r_iconst hC (v := (-1)) dX10_readStory_117 (by decide) (by decide) (fun x155_ e155 t155 => ?_)
        refine r_icmp_ne hC (tgt := 126) dX10_readStory_118 (by decide) (fun c156 => ?_) (fun c156 => ?_)
        rotate_left
        · exfalso; omega
        refine r_aload_n hC dX10_readStory_126 2 rfl ?_
        refine r_callV hC (As := []) (rest := []) (ci := 10) (c_X10_goesOn g (xL X) K len I9 J9 R hs9 a0 ka0) mT_5_199 mT_1_10 mT_5_196 mT_5_198 mP_49 okX10_goesOn ⟨by decide, by decide⟩ rfl (by show kO (K a0) = _; rw [ka0]; rfl) rfl rfl (Nat.le_of_ble_eq_true rfl) ⟨by decide, by decide⟩ dX10_readStory_127 (aV2 (F := fun st M => P g X 5 130 [(2, .int x154_), (1, .int x9_), (0, .ref a0)] st _ _ M) (M := (K, len, I9, J9, R)) fun I157 J157 h157 => ?_)
        obtain ⟨hs157, hf157, hfj157, k157_0, k157_1, k157_2, k157_3⟩ := h157
        show P g X 5 130 [(2, .int x154_), (1, .int x9_), (0, .ref a0)] [] _ _ (K, len, I157, J157, R)
        have hF157 : Fr K [(10, 7), (10, 10), (11, 8), (11, 9), (11, 10), (11, 11), (11, 12), (11, 13), (41, 999), (1000, 999)] I I157 := hF9.trans hf157 rfl rfl
        have hFJ157 : Fr K [(11, 14), (42, 999)] J J157 := hFJ9.trans hfj157 rfl rfl
        refine r_aload_n hC dX10_readStory_130 2 rfl ?_
        refine r_iconst hC (v := (0)) dX10_readStory_131 (by decide) (by decide) (fun x158_ e158 t158 => ?_)
        refine r_bipush hC (v := (99)) dX10_readStory_132 (by decide) (by decide) (fun x159_ e159 t159 => ?_)
        refine r_callV hC (As := [.int x158_, .int x159_]) (rest := []) (ci := 10) (c_X10_readWhole g (xL X) K len I157 J157 R hs157 a0 ka0 x158_ x159_) mT_6_5 mT_1_10 mT_6_2 mT_6_4 mP_57 okX10_readWhole ⟨by decide, by decide⟩ rfl (by show kO (K a0) = _; rw [ka0]; rfl) rfl rfl (Nat.le_of_ble_eq_true rfl) ⟨by decide, by decide⟩ dX10_readStory_134 (aI2 (F := fun st M => P g X 5 137 [(2, .int x154_), (1, .int x9_), (0, .ref a0)] st _ _ M) (M := (K, len, I157, J157, R)) fun x160_ I160 J160 h160 => ?_)
        obtain ⟨hs160, hf160, hfj160, k160_0, k160_1, k160_2, k160_3⟩ := h160
        show P g X 5 137 [(2, .int x154_), (1, .int x9_), (0, .ref a0)] [.int x160_] _ _ (K, len, I160, J160, R)
        have hF160 : Fr K [(10, 7), (10, 10), (11, 8), (11, 9), (11, 10), (11, 11), (11, 12), (11, 13), (41, 999), (1000, 999)] I I160 := hF157.trans hf160 rfl rfl
        have hFJ160 : Fr K [(11, 14), (42, 999)] J J160 := hFJ157.trans hfj160 rfl rfl
        refine r_istore_n hC (lv' := [(3, .int x160_), (2, .int x154_), (1, .int x9_), (0, .ref a0)]) dX10_readStory_137 (by decide) rfl ?_
        refine r_iload_n hC dX10_readStory_138 1 rfl ?_
        refine r_iconst hC (v := (2)) dX10_readStory_139 (by decide) (by decide) (fun x161_ e161 t161 => ?_)
        refine r_icmp_ne hC (tgt := 156) dX10_readStory_140 (by decide) (fun c162 => ?_) (fun c162 => ?_)
        · exfalso; omega
        refine r_aload_n hC dX10_readStory_143 3 rfl ?_
        refine r_ldcwS hC (i := 52) (by decide) rfl rfl dX10_readStory_144 ?_
        refine r_iconst hC (v := (1)) dX10_readStory_147 (by decide) (by decide) (fun x163_ e163 t163 => ?_)
        refine r_bipush hC (v := (20)) dX10_readStory_148 (by decide) (by decide) (fun x164_ e164 t164 => ?_)
        refine r_callV hC (As := [.ref (g.2.2.1 52), .int x163_, .int x164_]) (rest := []) (ci := 10) (c_X10_readPart g (xL X) K len I160 J160 R hs160 a0 ka0 52 (by decide) x163_ x164_) mT_6_1 mT_1_10 mT_5_238 mT_6_0 mP_56 okX10_readPart ⟨by decide, by decide⟩ rfl (by show kO (K a0) = _; rw [ka0]; rfl) rfl rfl (Nat.le_of_ble_eq_true rfl) ⟨by decide, by decide⟩ dX10_readStory_150 (aI2 (F := fun st M => P g X 5 153 [(3, .int x160_), (2, .int x154_), (1, .int x9_), (0, .ref a0)] st _ _ M) (M := (K, len, I160, J160, R)) fun x165_ I165 J165 h165 => ?_)
        obtain ⟨hs165, hf165, hfj165, k165_0, k165_1, k165_2, k165_3⟩ := h165
        show P g X 5 153 [(3, .int x160_), (2, .int x154_), (1, .int x9_), (0, .ref a0)] [.int x165_] _ _ (K, len, I165, J165, R)
        have hF165 : Fr K [(10, 7), (10, 10), (11, 8), (11, 9), (11, 10), (11, 11), (11, 12), (11, 13), (41, 999), (1000, 999)] I I165 := hF160.trans hf165 rfl rfl
        have hFJ165 : Fr K [(11, 14), (42, 999)] J J165 := hFJ160.trans hfj165 rfl rfl
        refine r_goto hC (tgt := 194) dX10_readStory_153 (by decide) ?_
        refine r_istore hC (lv' := [(4, .int x165_), (3, .int x160_), (2, .int x154_), (1, .int x9_), (0, .ref a0)]) dX10_readStory_194 (by decide) rfl ?_
        refine r_aload_n hC dX10_readStory_196 4 rfl ?_
        obtain ⟨A9, eA9⟩ : ∃ z : Int32, z = I165 a0 8 := ⟨_, rfl⟩
        have fA9 : A9.toInt = (I165 a0 8).toInt := by rw [eA9]
        have rA9 := hs165.rng ka0 rfl eA9
        refine r_geti hC 9 (ci := 10) rfl u10_in (by decide) mT_5_4 dX10_readStory_197 ka0 rfl rfl (fun x166_ e166 => ?_)
        have f166 : x166_.toInt = (I165 a0 9).toInt := by rw [e166]
        refine r_iconst hC (v := (5)) dX10_readStory_200 (by decide) (by decide) (fun x167_ e167 t167 => ?_)
        refine r_icmp_ne hC (tgt := 205) dX10_readStory_201 (by decide) (fun c168 => ?_) (fun c168 => ?_)
        · refine r_aload_n hC dX10_readStory_205 4 rfl ?_
          refine r_getr hC 4 (ci := 10) rfl u10_in (by decide) mT_4_239 dX10_readStory_206 ka0 rfl rfl hbr ?_
          obtain ⟨a169_, hb169, hk169, hn169⟩ := hs165.row krm 16 41 6 (by decide) (by decide)
          refine r_getrN hC 16 (ci := 9) rfl u9_in (by decide) nF_16 dX10_readStory_209 krm rfl rfl hb169 ?_
          refine r_aload_n hC dX10_readStory_212 4 rfl ?_
          refine r_getr hC 4 (ci := 10) rfl u10_in (by decide) mT_4_239 dX10_readStory_213 ka0 rfl rfl hbr ?_
          refine r_getiN hC 7 (ci := 9) rfl u9_in (by decide) nF_7 dX10_readStory_216 krm rfl rfl (fun x170_ e170 => ?_)
          have r170 := hs165.rng krm rfl e170
          have f170 : x170_.toInt = (I165 rm 7).toInt := by rw [e170]
          have w170 : x170_ = x5_ := by rw [e170]; exact (Eq.trans (hf165.get krm rfl) (Eq.trans (hf160.get krm rfl) (Eq.trans (hf157.get krm rfl) (Eq.trans (hf9.get krm rfl) (Eq.trans (hf6.get krm rfl) e5.symm)))))
          have wt170 : x170_.toInt = x5_.toInt := by rw [w170]
          refine r_iload_n hC dX10_readStory_219 3 rfl ?_
          refine x_iastore hC hk169 hn169 (by decide) rfl rfl dX10_readStory_220 (by omega) (by omega) (fun I171 eI171 => ?_)
          have hs171 := hs165.put0 eI171 hk169 (rng_arr (by decide) _) rfl (xF_arr (by decide) _) (by decide)
          have hF171 := hF165.put eI171 hk169 (inS_arr rfl _)
          refine r_aload_n hC dX10_readStory_221 4 rfl ?_
          refine r_getr hC 4 (ci := 10) rfl u10_in (by decide) mT_4_239 dX10_readStory_222 ka0 rfl rfl hbr ?_
          obtain ⟨kd172, mo172, hb172, hk172, hn172, hB172, hK172, hN172⟩ := hs171.2.2.1 rm krm
          refine r_getrN hC 17 (ci := 9) rfl u9_in (by decide) nF_17 dX10_readStory_225 krm rfl rfl hb172 ?_
          refine r_aload_n hC dX10_readStory_228 4 rfl ?_
          refine r_getr hC 4 (ci := 10) rfl u10_in (by decide) mT_4_239 dX10_readStory_229 ka0 rfl rfl hbr ?_
          refine r_getiN hC 7 (ci := 9) rfl u9_in (by decide) nF_7 dX10_readStory_232 krm rfl rfl (fun x173_ e173 => ?_)
          have r173 := hs171.rng krm rfl e173
          have f173 : x173_.toInt = (I171 rm 7).toInt := by rw [e173]
          have w173 : x173_ = x170_ := by rw [e173]; exact (Eq.trans (up2_kk eI171 hk169 krm (by decide)) e170.symm)
          have wt173 : x173_.toInt = x170_.toInt := by rw [w173]
          refine r_iload_n hC dX10_readStory_235 2 rfl ?_
          refine x_iastore hC hk172 hn172 (by omega) (kOb (by omega)) (kAb (by omega)) dX10_readStory_236 (by omega) (by omega) (fun I174 eI174 => ?_)
          have hs174 : Sf K len I174 R := hs171.putK (rm := rm) eI174 (Or.inl hk172) (by have h9 := clampI (i := x173_) (by omega); omega)
          have hF174 := hF171.put eI174 hk172 (inS_big rfl (by omega) _)
          refine r_aload_n hC dX10_readStory_237 4 rfl ?_
          refine r_getr hC 4 (ci := 10) rfl u10_in (by decide) mT_4_239 dX10_readStory_238 ka0 rfl rfl hbr ?_
          obtain ⟨a175_, hb175, hk175, hn175⟩ := hs174.row krm 18 41 6 (by decide) (by decide)
          refine r_getrN hC 18 (ci := 9) rfl u9_in (by decide) nF_18 dX10_readStory_241 krm rfl rfl hb175 ?_
          refine r_aload_n hC dX10_readStory_244 4 rfl ?_
          refine r_getr hC 4 (ci := 10) rfl u10_in (by decide) mT_4_239 dX10_readStory_245 ka0 rfl rfl hbr ?_
          refine r_getiN hC 7 (ci := 9) rfl u9_in (by decide) nF_7 dX10_readStory_248 krm rfl rfl (fun x176_ e176 => ?_)
          have r176 := hs174.rng krm rfl e176
          have f176 : x176_.toInt = (I174 rm 7).toInt := by rw [e176]
          have w176 : x176_ = x173_ := by rw [e176]; exact (Eq.trans (up2_kk eI174 hk172 krm (by omega)) e173.symm)
          have wt176 : x176_.toInt = x173_.toInt := by rw [w176]
          refine r_iload_n hC dX10_readStory_251 1 rfl ?_
          refine x_iastore hC hk175 hn175 (by decide) rfl rfl dX10_readStory_252 (by omega) (by omega) (fun I177 eI177 => ?_)
          have hs177 := hs174.put0 eI177 hk175 (rng_arr (by decide) _) rfl (xF_arr (by decide) _) (by decide)
          have hF177 := hF174.put eI177 hk175 (inS_arr rfl _)
          refine r_aload_n hC dX10_readStory_253 4 rfl ?_
          refine r_getr hC 4 (ci := 10) rfl u10_in (by decide) mT_4_239 dX10_readStory_254 ka0 rfl rfl hbr ?_
          refine r_getrN hC 19 (ci := 9) rfl u9_in (by decide) nF_19 dX10_readStory_257 krm rfl rfl hB172 ?_
          refine r_aload_n hC dX10_readStory_260 4 rfl ?_
          refine r_getr hC 4 (ci := 10) rfl u10_in (by decide) mT_4_239 dX10_readStory_261 ka0 rfl rfl hbr ?_
          refine r_getiN hC 7 (ci := 9) rfl u9_in (by decide) nF_7 dX10_readStory_264 krm rfl rfl (fun x178_ e178 => ?_)
          have r178 := hs177.rng krm rfl e178
          have f178 : x178_.toInt = (I177 rm 7).toInt := by rw [e178]
          have w178 : x178_ = x176_ := by rw [e178]; exact (Eq.trans (up2_kk eI177 hk175 krm (by decide)) e176.symm)
          have wt178 : x178_.toInt = x176_.toInt := by rw [w178]
          refine r_iload hC dX10_readStory_267 0 rfl ?_
          refine x_iastore hC hK172 hN172 (by omega) (kOb (by omega)) (kAb (by omega)) dX10_readStory_269 (by omega) (by omega) (fun I179 eI179 => ?_)
          have hs179 : Sf K len I179 R := hs177.putK (rm := rm) eI179 (Or.inr hK172) (by have h9 := clampI (i := x178_) (by omega); omega)
          have hF179 := hF177.put eI179 hK172 (inS_big rfl (by omega) _)
          refine r_aload_n hC dX10_readStory_270 4 rfl ?_
          refine r_getr hC 4 (ci := 10) rfl u10_in (by decide) mT_4_239 dX10_readStory_271 ka0 rfl rfl hbr ?_
          refine r_dup hC dX10_readStory_274 rfl ?_
          refine r_getiN hC 7 (ci := 9) rfl u9_in (by decide) nF_7 dX10_readStory_275 krm rfl rfl (fun x180_ e180 => ?_)
          have r180 := hs179.rng krm rfl e180
          have f180 : x180_.toInt = (I179 rm 7).toInt := by rw [e180]
          have w180 : x180_ = x178_ := by rw [e180]; exact (Eq.trans (up2_kk eI179 hK172 krm (by omega)) e178.symm)
          have wt180 : x180_.toInt = x178_.toInt := by rw [w180]
          refine r_iconst hC (v := (1)) dX10_readStory_278 (by decide) (by decide) (fun x181_ e181 t181 => ?_)
          refine r_iadd hC dX10_readStory_279 (fun x182_ e182 => ?_)
          try have t182 : x182_.toInt = x180_.toInt + x181_.toInt := by rw [e182]; exact ti_add (by omega) (by omega)
          refine r_putiN hC 7 (ci := 9) rfl u9_in tyX9_ok nmX9 (by decide) nF_7 rfl rfl rfl dX10_readStory_280 krm rfl rfl (fun I183 eI183 => ?_)
          have hs183 : Sf K len I183 R := hs179.putA7 eI183 krm hb172 hB172 (by omega) (by omega) (j := x173_.toNatClampNeg) (by have h9 := clampI (i := x173_) (by omega); omega) (by omega) (by rw [(show I179 kd172 x173_.toNatClampNeg = x154_ from (Eq.trans (up2_kk eI179 hK172 hk172 (by omega)) (Eq.trans (up2_kk eI177 hk175 hk172 (by omega)) (by rw [eI174]; exact up2_self _ _ _ _)))), cl_eq (show x173_.toInt = x178_.toInt by omega), (show I179 mo172 x178_.toNatClampNeg = x165_ from (by rw [eI179]; exact up2_self _ _ _ _))]; omega)
          have hF183 := hF179.put eI183 krm rfl
          have hG3 : I183 rm 3 = G3 := (Eq.trans (up2_at (Or.inr (by decide)) eI183) (Eq.trans (up2_kk eI179 hK172 krm (by omega)) (Eq.trans (up2_kk eI177 hk175 krm (by decide)) (Eq.trans (up2_kk eI174 hk172 krm (by omega)) (Eq.trans (up2_kk eI171 hk169 krm (by decide)) (Eq.trans (hf165.get krm rfl) (Eq.trans (hf160.get krm rfl) (Eq.trans (hf157.get krm rfl) (Eq.trans (hf9.get krm rfl) (Eq.trans (hf6.get krm rfl) (Eq.trans (hf3.get krm rfl) eG3.symm)))))))))))
          have hG3t : (I183 rm 3).toInt = G3.toInt := congrArg Int32.toInt hG3
          have hG4 : I183 rm 4 = G4 := (Eq.trans (up2_at (Or.inr (by decide)) eI183) (Eq.trans (up2_kk eI179 hK172 krm (by omega)) (Eq.trans (up2_kk eI177 hk175 krm (by decide)) (Eq.trans (up2_kk eI174 hk172 krm (by omega)) (Eq.trans (up2_kk eI171 hk169 krm (by decide)) (Eq.trans (hf165.get krm rfl) (Eq.trans (hf160.get krm rfl) (Eq.trans (hf157.get krm rfl) (Eq.trans (hf9.get krm rfl) (Eq.trans (hf6.get krm rfl) (Eq.trans (hf3.get krm rfl) eG4.symm)))))))))))
          have hG4t : (I183 rm 4).toInt = G4.toInt := congrArg Int32.toInt hG4
          have hG7 : I183 rm 7 = x182_ := (by rw [eI183]; exact up2_self _ _ _ _)
          have hG7t : (I183 rm 7).toInt = x182_.toInt := congrArg Int32.toInt hG7
          have hG8 : I183 rm 8 = G8 := (Eq.trans (up2_at (Or.inr (by decide)) eI183) (Eq.trans (up2_kk eI179 hK172 krm (by omega)) (Eq.trans (up2_kk eI177 hk175 krm (by decide)) (Eq.trans (up2_kk eI174 hk172 krm (by omega)) (Eq.trans (up2_kk eI171 hk169 krm (by decide)) (Eq.trans (hf165.get krm rfl) (Eq.trans (hf160.get krm rfl) (Eq.trans (hf157.get krm rfl) (Eq.trans (hf9.get krm rfl) (Eq.trans (hf6.get krm rfl) (Eq.trans (hf3.get krm rfl) eG8.symm)))))))))))
          have hG8t : (I183 rm 8).toInt = G8.toInt := congrArg Int32.toInt hG8
          have hG9 : I183 rm 9 = G9 := (Eq.trans (up2_at (Or.inr (by decide)) eI183) (Eq.trans (up2_kk eI179 hK172 krm (by omega)) (Eq.trans (up2_kk eI177 hk175 krm (by decide)) (Eq.trans (up2_kk eI174 hk172 krm (by omega)) (Eq.trans (up2_kk eI171 hk169 krm (by decide)) (Eq.trans (hf165.get krm rfl) (Eq.trans (hf160.get krm rfl) (Eq.trans (hf157.get krm rfl) (Eq.trans (hf9.get krm rfl) (Eq.trans (hf6.get krm rfl) (Eq.trans (hf3.get krm rfl) eG9.symm)))))))))))
          have hG9t : (I183 rm 9).toInt = G9.toInt := congrArg Int32.toInt hG9
          have hGN : I183 rm 10 = N1 := (Eq.trans (up2_at (Or.inr (by decide)) eI183) (Eq.trans (up2_kk eI179 hK172 krm (by omega)) (Eq.trans (up2_kk eI177 hk175 krm (by decide)) (Eq.trans (up2_kk eI174 hk172 krm (by omega)) (Eq.trans (up2_kk eI171 hk169 krm (by decide)) (Eq.trans (hf165.get krm rfl) (Eq.trans (hf160.get krm rfl) (Eq.trans (hf157.get krm rfl) (Eq.trans (hf9.get krm rfl) eN1.symm)))))))))
          have hGNt : (I183 rm 10).toInt = N1.toInt := congrArg Int32.toInt hGN
          have hv8 : I183 a0 8 = A9 := (Eq.trans (up2_kk eI183 krm ka0 (by decide)) (Eq.trans (up2_kk eI179 hK172 ka0 (by omega)) (Eq.trans (up2_kk eI177 hk175 ka0 (by decide)) (Eq.trans (up2_kk eI174 hk172 ka0 (by omega)) (Eq.trans (up2_kk eI171 hk169 ka0 (by decide)) eA9.symm)))))
          have hv8t : (I183 a0 8).toInt = A9.toInt := congrArg Int32.toInt hv8
          have hv9 : I183 a0 9 = x166_ := (Eq.trans (up2_kk eI183 krm ka0 (by decide)) (Eq.trans (up2_kk eI179 hK172 ka0 (by omega)) (Eq.trans (up2_kk eI177 hk175 ka0 (by decide)) (Eq.trans (up2_kk eI174 hk172 ka0 (by omega)) (Eq.trans (up2_kk eI171 hk169 ka0 (by decide)) e166.symm)))))
          have hv9t : (I183 a0 9).toInt = x166_.toInt := congrArg Int32.toInt hv9
          exact r_vret hC hQ hlk hr (by decide) (by decide) dX10_readStory_283 ⟨_, _, rfl, rfl, ⟨hs183, hF183, hFJ165, (by omega), (by omega), (by omega), (by omega)⟩⟩
        · have hG3 : I165 rm 3 = G3 := (Eq.trans (hf165.get krm rfl) (Eq.trans (hf160.get krm rfl) (Eq.trans (hf157.get krm rfl) (Eq.trans (hf9.get krm rfl) (Eq.trans (hf6.get krm rfl) (Eq.trans (hf3.get krm rfl) eG3.symm))))))
          have hG3t : (I165 rm 3).toInt = G3.toInt := congrArg Int32.toInt hG3
          have hG4 : I165 rm 4 = G4 := (Eq.trans (hf165.get krm rfl) (Eq.trans (hf160.get krm rfl) (Eq.trans (hf157.get krm rfl) (Eq.trans (hf9.get krm rfl) (Eq.trans (hf6.get krm rfl) (Eq.trans (hf3.get krm rfl) eG4.symm))))))
          have hG4t : (I165 rm 4).toInt = G4.toInt := congrArg Int32.toInt hG4
          have hG7 : I165 rm 7 = x5_ := (Eq.trans (hf165.get krm rfl) (Eq.trans (hf160.get krm rfl) (Eq.trans (hf157.get krm rfl) (Eq.trans (hf9.get krm rfl) (Eq.trans (hf6.get krm rfl) e5.symm)))))
          have hG7t : (I165 rm 7).toInt = x5_.toInt := congrArg Int32.toInt hG7
          have hG8 : I165 rm 8 = G8 := (Eq.trans (hf165.get krm rfl) (Eq.trans (hf160.get krm rfl) (Eq.trans (hf157.get krm rfl) (Eq.trans (hf9.get krm rfl) (Eq.trans (hf6.get krm rfl) (Eq.trans (hf3.get krm rfl) eG8.symm))))))
          have hG8t : (I165 rm 8).toInt = G8.toInt := congrArg Int32.toInt hG8
          have hG9 : I165 rm 9 = G9 := (Eq.trans (hf165.get krm rfl) (Eq.trans (hf160.get krm rfl) (Eq.trans (hf157.get krm rfl) (Eq.trans (hf9.get krm rfl) (Eq.trans (hf6.get krm rfl) (Eq.trans (hf3.get krm rfl) eG9.symm))))))
          have hG9t : (I165 rm 9).toInt = G9.toInt := congrArg Int32.toInt hG9
          have hGN : I165 rm 10 = N1 := (Eq.trans (hf165.get krm rfl) (Eq.trans (hf160.get krm rfl) (Eq.trans (hf157.get krm rfl) (Eq.trans (hf9.get krm rfl) eN1.symm))))
          have hGNt : (I165 rm 10).toInt = N1.toInt := congrArg Int32.toInt hGN
          have hv8 : I165 a0 8 = A9 := eA9.symm
          have hv8t : (I165 a0 8).toInt = A9.toInt := congrArg Int32.toInt hv8
          have hv9 : I165 a0 9 = x166_ := e166.symm
          have hv9t : (I165 a0 9).toInt = x166_.toInt := congrArg Int32.toInt hv9
          exact r_vret hC hQ hlk hr (by decide) (by decide) dX10_readStory_204 ⟨_, _, rfl, rfl, ⟨hs165, hF165, hFJ165, (by omega), (by omega), (by omega), (by omega)⟩⟩
    · refine r_iconst hC (v := (1)) dX10_readStory_57 (by decide) (by decide) (fun x184_ e184 t184 => ?_)
      refine r_goto hC (tgt := 115) dX10_readStory_58 (by decide) ?_
      refine r_istore_n hC (lv' := [(2, .int x184_), (1, .int x9_), (0, .ref a0)]) dX10_readStory_115 (by decide) rfl ?_
      refine r_iload_n hC dX10_readStory_116 0 rfl ?_
      refine r_iconst hC (v := (-1)) dX10_readStory_117 (by decide) (by decide) (fun x185_ e185 t185 => ?_)
      refine r_icmp_ne hC (tgt := 126) dX10_readStory_118 (by decide) (fun c186 => ?_) (fun c186 => ?_)
      rotate_left
      · exfalso; omega
      refine r_aload_n hC dX10_readStory_126 2 rfl ?_
      refine r_callV hC (As := []) (rest := []) (ci := 10) (c_X10_goesOn g (xL X) K len I9 J9 R hs9 a0 ka0) mT_5_199 mT_1_10 mT_5_196 mT_5_198 mP_49 okX10_goesOn ⟨by decide, by decide⟩ rfl (by show kO (K a0) = _; rw [ka0]; rfl) rfl rfl (Nat.le_of_ble_eq_true rfl) ⟨by decide, by decide⟩ dX10_readStory_127 (aV2 (F := fun st M => P g X 5 130 [(2, .int x184_), (1, .int x9_), (0, .ref a0)] st _ _ M) (M := (K, len, I9, J9, R)) fun I187 J187 h187 => ?_)
      obtain ⟨hs187, hf187, hfj187, k187_0, k187_1, k187_2, k187_3⟩ := h187
      show P g X 5 130 [(2, .int x184_), (1, .int x9_), (0, .ref a0)] [] _ _ (K, len, I187, J187, R)
      have hF187 : Fr K [(10, 7), (10, 10), (11, 8), (11, 9), (11, 10), (11, 11), (11, 12), (11, 13), (41, 999), (1000, 999)] I I187 := hF9.trans hf187 rfl rfl
      have hFJ187 : Fr K [(11, 14), (42, 999)] J J187 := hFJ9.trans hfj187 rfl rfl
      refine r_aload_n hC dX10_readStory_130 2 rfl ?_
      refine r_iconst hC (v := (0)) dX10_readStory_131 (by decide) (by decide) (fun x188_ e188 t188 => ?_)
      refine r_bipush hC (v := (99)) dX10_readStory_132 (by decide) (by decide) (fun x189_ e189 t189 => ?_)
      refine r_callV hC (As := [.int x188_, .int x189_]) (rest := []) (ci := 10) (c_X10_readWhole g (xL X) K len I187 J187 R hs187 a0 ka0 x188_ x189_) mT_6_5 mT_1_10 mT_6_2 mT_6_4 mP_57 okX10_readWhole ⟨by decide, by decide⟩ rfl (by show kO (K a0) = _; rw [ka0]; rfl) rfl rfl (Nat.le_of_ble_eq_true rfl) ⟨by decide, by decide⟩ dX10_readStory_134 (aI2 (F := fun st M => P g X 5 137 [(2, .int x184_), (1, .int x9_), (0, .ref a0)] st _ _ M) (M := (K, len, I187, J187, R)) fun x190_ I190 J190 h190 => ?_)
      obtain ⟨hs190, hf190, hfj190, k190_0, k190_1, k190_2, k190_3⟩ := h190
      show P g X 5 137 [(2, .int x184_), (1, .int x9_), (0, .ref a0)] [.int x190_] _ _ (K, len, I190, J190, R)
      have hF190 : Fr K [(10, 7), (10, 10), (11, 8), (11, 9), (11, 10), (11, 11), (11, 12), (11, 13), (41, 999), (1000, 999)] I I190 := hF187.trans hf190 rfl rfl
      have hFJ190 : Fr K [(11, 14), (42, 999)] J J190 := hFJ187.trans hfj190 rfl rfl
      refine r_istore_n hC (lv' := [(3, .int x190_), (2, .int x184_), (1, .int x9_), (0, .ref a0)]) dX10_readStory_137 (by decide) rfl ?_
      refine r_iload_n hC dX10_readStory_138 1 rfl ?_
      refine r_iconst hC (v := (2)) dX10_readStory_139 (by decide) (by decide) (fun x191_ e191 t191 => ?_)
      refine r_icmp_ne hC (tgt := 156) dX10_readStory_140 (by decide) (fun c192 => ?_) (fun c192 => ?_)
      rotate_left
      · exfalso; omega
      refine r_iload_n hC dX10_readStory_156 1 rfl ?_
      refine r_iconst hC (v := (3)) dX10_readStory_157 (by decide) (by decide) (fun x193_ e193 t193 => ?_)
      refine r_icmp_ne hC (tgt := 175) dX10_readStory_158 (by decide) (fun c194 => ?_) (fun c194 => ?_)
      rotate_left
      · exfalso; omega
      refine r_iload_n hC dX10_readStory_175 1 rfl ?_
      refine r_iconst hC (v := (4)) dX10_readStory_176 (by decide) (by decide) (fun x195_ e195 t195 => ?_)
      refine r_icmp_ne hC (tgt := 193) dX10_readStory_177 (by decide) (fun c196 => ?_) (fun c196 => ?_)
      rotate_left
      · exfalso; omega
      refine r_iconst hC (v := (0)) dX10_readStory_193 (by decide) (by decide) (fun x197_ e197 t197 => ?_)
      refine r_istore hC (lv' := [(4, .int x197_), (3, .int x190_), (2, .int x184_), (1, .int x9_), (0, .ref a0)]) dX10_readStory_194 (by decide) rfl ?_
      refine r_aload_n hC dX10_readStory_196 4 rfl ?_
      obtain ⟨A9, eA9⟩ : ∃ z : Int32, z = I190 a0 8 := ⟨_, rfl⟩
      have fA9 : A9.toInt = (I190 a0 8).toInt := by rw [eA9]
      have rA9 := hs190.rng ka0 rfl eA9
      refine r_geti hC 9 (ci := 10) rfl u10_in (by decide) mT_5_4 dX10_readStory_197 ka0 rfl rfl (fun x198_ e198 => ?_)
      have f198 : x198_.toInt = (I190 a0 9).toInt := by rw [e198]
      refine r_iconst hC (v := (5)) dX10_readStory_200 (by decide) (by decide) (fun x199_ e199 t199 => ?_)
      refine r_icmp_ne hC (tgt := 205) dX10_readStory_201 (by decide) (fun c200 => ?_) (fun c200 => ?_)
      · refine r_aload_n hC dX10_readStory_205 4 rfl ?_
        refine r_getr hC 4 (ci := 10) rfl u10_in (by decide) mT_4_239 dX10_readStory_206 ka0 rfl rfl hbr ?_
        obtain ⟨a201_, hb201, hk201, hn201⟩ := hs190.row krm 16 41 6 (by decide) (by decide)
        refine r_getrN hC 16 (ci := 9) rfl u9_in (by decide) nF_16 dX10_readStory_209 krm rfl rfl hb201 ?_
        refine r_aload_n hC dX10_readStory_212 4 rfl ?_
        refine r_getr hC 4 (ci := 10) rfl u10_in (by decide) mT_4_239 dX10_readStory_213 ka0 rfl rfl hbr ?_
        refine r_getiN hC 7 (ci := 9) rfl u9_in (by decide) nF_7 dX10_readStory_216 krm rfl rfl (fun x202_ e202 => ?_)
        have r202 := hs190.rng krm rfl e202
        have f202 : x202_.toInt = (I190 rm 7).toInt := by rw [e202]
        have w202 : x202_ = x5_ := by rw [e202]; exact (Eq.trans (hf190.get krm rfl) (Eq.trans (hf187.get krm rfl) (Eq.trans (hf9.get krm rfl) (Eq.trans (hf6.get krm rfl) e5.symm))))
        have wt202 : x202_.toInt = x5_.toInt := by rw [w202]
        refine r_iload_n hC dX10_readStory_219 3 rfl ?_
        refine x_iastore hC hk201 hn201 (by decide) rfl rfl dX10_readStory_220 (by omega) (by omega) (fun I203 eI203 => ?_)
        have hs203 := hs190.put0 eI203 hk201 (rng_arr (by decide) _) rfl (xF_arr (by decide) _) (by decide)
        have hF203 := hF190.put eI203 hk201 (inS_arr rfl _)
        refine r_aload_n hC dX10_readStory_221 4 rfl ?_
        refine r_getr hC 4 (ci := 10) rfl u10_in (by decide) mT_4_239 dX10_readStory_222 ka0 rfl rfl hbr ?_
        obtain ⟨kd204, mo204, hb204, hk204, hn204, hB204, hK204, hN204⟩ := hs203.2.2.1 rm krm
        refine r_getrN hC 17 (ci := 9) rfl u9_in (by decide) nF_17 dX10_readStory_225 krm rfl rfl hb204 ?_
        refine r_aload_n hC dX10_readStory_228 4 rfl ?_
        refine r_getr hC 4 (ci := 10) rfl u10_in (by decide) mT_4_239 dX10_readStory_229 ka0 rfl rfl hbr ?_
        refine r_getiN hC 7 (ci := 9) rfl u9_in (by decide) nF_7 dX10_readStory_232 krm rfl rfl (fun x205_ e205 => ?_)
        have r205 := hs203.rng krm rfl e205
        have f205 : x205_.toInt = (I203 rm 7).toInt := by rw [e205]
        have w205 : x205_ = x202_ := by rw [e205]; exact (Eq.trans (up2_kk eI203 hk201 krm (by decide)) e202.symm)
        have wt205 : x205_.toInt = x202_.toInt := by rw [w205]
        refine r_iload_n hC dX10_readStory_235 2 rfl ?_
        refine x_iastore hC hk204 hn204 (by omega) (kOb (by omega)) (kAb (by omega)) dX10_readStory_236 (by omega) (by omega) (fun I206 eI206 => ?_)
        have hs206 : Sf K len I206 R := hs203.putK (rm := rm) eI206 (Or.inl hk204) (by have h9 := clampI (i := x205_) (by omega); omega)
        have hF206 := hF203.put eI206 hk204 (inS_big rfl (by omega) _)
        refine r_aload_n hC dX10_readStory_237 4 rfl ?_
        refine r_getr hC 4 (ci := 10) rfl u10_in (by decide) mT_4_239 dX10_readStory_238 ka0 rfl rfl hbr ?_
        obtain ⟨a207_, hb207, hk207, hn207⟩ := hs206.row krm 18 41 6 (by decide) (by decide)
        refine r_getrN hC 18 (ci := 9) rfl u9_in (by decide) nF_18 dX10_readStory_241 krm rfl rfl hb207 ?_
        refine r_aload_n hC dX10_readStory_244 4 rfl ?_
        refine r_getr hC 4 (ci := 10) rfl u10_in (by decide) mT_4_239 dX10_readStory_245 ka0 rfl rfl hbr ?_
        refine r_getiN hC 7 (ci := 9) rfl u9_in (by decide) nF_7 dX10_readStory_248 krm rfl rfl (fun x208_ e208 => ?_)
        have r208 := hs206.rng krm rfl e208
        have f208 : x208_.toInt = (I206 rm 7).toInt := by rw [e208]
        have w208 : x208_ = x205_ := by rw [e208]; exact (Eq.trans (up2_kk eI206 hk204 krm (by omega)) e205.symm)
        have wt208 : x208_.toInt = x205_.toInt := by rw [w208]
        refine r_iload_n hC dX10_readStory_251 1 rfl ?_
        refine x_iastore hC hk207 hn207 (by decide) rfl rfl dX10_readStory_252 (by omega) (by omega) (fun I209 eI209 => ?_)
        have hs209 := hs206.put0 eI209 hk207 (rng_arr (by decide) _) rfl (xF_arr (by decide) _) (by decide)
        have hF209 := hF206.put eI209 hk207 (inS_arr rfl _)
        refine r_aload_n hC dX10_readStory_253 4 rfl ?_
        refine r_getr hC 4 (ci := 10) rfl u10_in (by decide) mT_4_239 dX10_readStory_254 ka0 rfl rfl hbr ?_
        refine r_getrN hC 19 (ci := 9) rfl u9_in (by decide) nF_19 dX10_readStory_257 krm rfl rfl hB204 ?_
        refine r_aload_n hC dX10_readStory_260 4 rfl ?_
        refine r_getr hC 4 (ci := 10) rfl u10_in (by decide) mT_4_239 dX10_readStory_261 ka0 rfl rfl hbr ?_
        refine r_getiN hC 7 (ci := 9) rfl u9_in (by decide) nF_7 dX10_readStory_264 krm rfl rfl (fun x210_ e210 => ?_)
        have r210 := hs209.rng krm rfl e210
        have f210 : x210_.toInt = (I209 rm 7).toInt := by rw [e210]
        have w210 : x210_ = x208_ := by rw [e210]; exact (Eq.trans (up2_kk eI209 hk207 krm (by decide)) e208.symm)
        have wt210 : x210_.toInt = x208_.toInt := by rw [w210]
        refine r_iload hC dX10_readStory_267 0 rfl ?_
        refine x_iastore hC hK204 hN204 (by omega) (kOb (by omega)) (kAb (by omega)) dX10_readStory_269 (by omega) (by omega) (fun I211 eI211 => ?_)
        have hs211 : Sf K len I211 R := hs209.putK (rm := rm) eI211 (Or.inr hK204) (by have h9 := clampI (i := x210_) (by omega); omega)
        have hF211 := hF209.put eI211 hK204 (inS_big rfl (by omega) _)
        refine r_aload_n hC dX10_readStory_270 4 rfl ?_
        refine r_getr hC 4 (ci := 10) rfl u10_in (by decide) mT_4_239 dX10_readStory_271 ka0 rfl rfl hbr ?_
        refine r_dup hC dX10_readStory_274 rfl ?_
        refine r_getiN hC 7 (ci := 9) rfl u9_in (by decide) nF_7 dX10_readStory_275 krm rfl rfl (fun x212_ e212 => ?_)
        have r212 := hs211.rng krm rfl e212
        have f212 : x212_.toInt = (I211 rm 7).toInt := by rw [e212]
        have w212 : x212_ = x210_ := by rw [e212]; exact (Eq.trans (up2_kk eI211 hK204 krm (by omega)) e210.symm)
        have wt212 : x212_.toInt = x210_.toInt := by rw [w212]
        refine r_iconst hC (v := (1)) dX10_readStory_278 (by decide) (by decide) (fun x213_ e213 t213 => ?_)
        refine r_iadd hC dX10_readStory_279 (fun x214_ e214 => ?_)
        try have t214 : x214_.toInt = x212_.toInt + x213_.toInt := by rw [e214]; exact ti_add (by omega) (by omega)
        refine r_putiN hC 7 (ci := 9) rfl u9_in tyX9_ok nmX9 (by decide) nF_7 rfl rfl rfl dX10_readStory_280 krm rfl rfl (fun I215 eI215 => ?_)
        have hs215 : Sf K len I215 R := hs211.putA7 eI215 krm hb204 hB204 (by omega) (by omega) (j := x205_.toNatClampNeg) (by have h9 := clampI (i := x205_) (by omega); omega) (by omega) (by rw [(show I211 kd204 x205_.toNatClampNeg = x184_ from (Eq.trans (up2_kk eI211 hK204 hk204 (by omega)) (Eq.trans (up2_kk eI209 hk207 hk204 (by omega)) (by rw [eI206]; exact up2_self _ _ _ _)))), cl_eq (show x205_.toInt = x210_.toInt by omega), (show I211 mo204 x210_.toNatClampNeg = x197_ from (by rw [eI211]; exact up2_self _ _ _ _))]; omega)
        have hF215 := hF211.put eI215 krm rfl
        have hG3 : I215 rm 3 = G3 := (Eq.trans (up2_at (Or.inr (by decide)) eI215) (Eq.trans (up2_kk eI211 hK204 krm (by omega)) (Eq.trans (up2_kk eI209 hk207 krm (by decide)) (Eq.trans (up2_kk eI206 hk204 krm (by omega)) (Eq.trans (up2_kk eI203 hk201 krm (by decide)) (Eq.trans (hf190.get krm rfl) (Eq.trans (hf187.get krm rfl) (Eq.trans (hf9.get krm rfl) (Eq.trans (hf6.get krm rfl) (Eq.trans (hf3.get krm rfl) eG3.symm))))))))))
        have hG3t : (I215 rm 3).toInt = G3.toInt := congrArg Int32.toInt hG3
        have hG4 : I215 rm 4 = G4 := (Eq.trans (up2_at (Or.inr (by decide)) eI215) (Eq.trans (up2_kk eI211 hK204 krm (by omega)) (Eq.trans (up2_kk eI209 hk207 krm (by decide)) (Eq.trans (up2_kk eI206 hk204 krm (by omega)) (Eq.trans (up2_kk eI203 hk201 krm (by decide)) (Eq.trans (hf190.get krm rfl) (Eq.trans (hf187.get krm rfl) (Eq.trans (hf9.get krm rfl) (Eq.trans (hf6.get krm rfl) (Eq.trans (hf3.get krm rfl) eG4.symm))))))))))
        have hG4t : (I215 rm 4).toInt = G4.toInt := congrArg Int32.toInt hG4
        have hG7 : I215 rm 7 = x214_ := (by rw [eI215]; exact up2_self _ _ _ _)
        have hG7t : (I215 rm 7).toInt = x214_.toInt := congrArg Int32.toInt hG7
        have hG8 : I215 rm 8 = G8 := (Eq.trans (up2_at (Or.inr (by decide)) eI215) (Eq.trans (up2_kk eI211 hK204 krm (by omega)) (Eq.trans (up2_kk eI209 hk207 krm (by decide)) (Eq.trans (up2_kk eI206 hk204 krm (by omega)) (Eq.trans (up2_kk eI203 hk201 krm (by decide)) (Eq.trans (hf190.get krm rfl) (Eq.trans (hf187.get krm rfl) (Eq.trans (hf9.get krm rfl) (Eq.trans (hf6.get krm rfl) (Eq.trans (hf3.get krm rfl) eG8.symm))))))))))
        have hG8t : (I215 rm 8).toInt = G8.toInt := congrArg Int32.toInt hG8
        have hG9 : I215 rm 9 = G9 := (Eq.trans (up2_at (Or.inr (by decide)) eI215) (Eq.trans (up2_kk eI211 hK204 krm (by omega)) (Eq.trans (up2_kk eI209 hk207 krm (by decide)) (Eq.trans (up2_kk eI206 hk204 krm (by omega)) (Eq.trans (up2_kk eI203 hk201 krm (by decide)) (Eq.trans (hf190.get krm rfl) (Eq.trans (hf187.get krm rfl) (Eq.trans (hf9.get krm rfl) (Eq.trans (hf6.get krm rfl) (Eq.trans (hf3.get krm rfl) eG9.symm))))))))))
        have hG9t : (I215 rm 9).toInt = G9.toInt := congrArg Int32.toInt hG9
        have hGN : I215 rm 10 = N1 := (Eq.trans (up2_at (Or.inr (by decide)) eI215) (Eq.trans (up2_kk eI211 hK204 krm (by omega)) (Eq.trans (up2_kk eI209 hk207 krm (by decide)) (Eq.trans (up2_kk eI206 hk204 krm (by omega)) (Eq.trans (up2_kk eI203 hk201 krm (by decide)) (Eq.trans (hf190.get krm rfl) (Eq.trans (hf187.get krm rfl) (Eq.trans (hf9.get krm rfl) eN1.symm))))))))
        have hGNt : (I215 rm 10).toInt = N1.toInt := congrArg Int32.toInt hGN
        have hv8 : I215 a0 8 = A9 := (Eq.trans (up2_kk eI215 krm ka0 (by decide)) (Eq.trans (up2_kk eI211 hK204 ka0 (by omega)) (Eq.trans (up2_kk eI209 hk207 ka0 (by decide)) (Eq.trans (up2_kk eI206 hk204 ka0 (by omega)) (Eq.trans (up2_kk eI203 hk201 ka0 (by decide)) eA9.symm)))))
        have hv8t : (I215 a0 8).toInt = A9.toInt := congrArg Int32.toInt hv8
        have hv9 : I215 a0 9 = x198_ := (Eq.trans (up2_kk eI215 krm ka0 (by decide)) (Eq.trans (up2_kk eI211 hK204 ka0 (by omega)) (Eq.trans (up2_kk eI209 hk207 ka0 (by decide)) (Eq.trans (up2_kk eI206 hk204 ka0 (by omega)) (Eq.trans (up2_kk eI203 hk201 ka0 (by decide)) e198.symm)))))
        have hv9t : (I215 a0 9).toInt = x198_.toInt := congrArg Int32.toInt hv9
        exact r_vret hC hQ hlk hr (by decide) (by decide) dX10_readStory_283 ⟨_, _, rfl, rfl, ⟨hs215, hF215, hFJ190, (by omega), (by omega), (by omega), (by omega)⟩⟩
      · have hG3 : I190 rm 3 = G3 := (Eq.trans (hf190.get krm rfl) (Eq.trans (hf187.get krm rfl) (Eq.trans (hf9.get krm rfl) (Eq.trans (hf6.get krm rfl) (Eq.trans (hf3.get krm rfl) eG3.symm)))))
        have hG3t : (I190 rm 3).toInt = G3.toInt := congrArg Int32.toInt hG3
        have hG4 : I190 rm 4 = G4 := (Eq.trans (hf190.get krm rfl) (Eq.trans (hf187.get krm rfl) (Eq.trans (hf9.get krm rfl) (Eq.trans (hf6.get krm rfl) (Eq.trans (hf3.get krm rfl) eG4.symm)))))
        have hG4t : (I190 rm 4).toInt = G4.toInt := congrArg Int32.toInt hG4
        have hG7 : I190 rm 7 = x5_ := (Eq.trans (hf190.get krm rfl) (Eq.trans (hf187.get krm rfl) (Eq.trans (hf9.get krm rfl) (Eq.trans (hf6.get krm rfl) e5.symm))))
        have hG7t : (I190 rm 7).toInt = x5_.toInt := congrArg Int32.toInt hG7
        have hG8 : I190 rm 8 = G8 := (Eq.trans (hf190.get krm rfl) (Eq.trans (hf187.get krm rfl) (Eq.trans (hf9.get krm rfl) (Eq.trans (hf6.get krm rfl) (Eq.trans (hf3.get krm rfl) eG8.symm)))))
        have hG8t : (I190 rm 8).toInt = G8.toInt := congrArg Int32.toInt hG8
        have hG9 : I190 rm 9 = G9 := (Eq.trans (hf190.get krm rfl) (Eq.trans (hf187.get krm rfl) (Eq.trans (hf9.get krm rfl) (Eq.trans (hf6.get krm rfl) (Eq.trans (hf3.get krm rfl) eG9.symm)))))
        have hG9t : (I190 rm 9).toInt = G9.toInt := congrArg Int32.toInt hG9
        have hGN : I190 rm 10 = N1 := (Eq.trans (hf190.get krm rfl) (Eq.trans (hf187.get krm rfl) (Eq.trans (hf9.get krm rfl) eN1.symm)))
        have hGNt : (I190 rm 10).toInt = N1.toInt := congrArg Int32.toInt hGN
        have hv8 : I190 a0 8 = A9 := eA9.symm
        have hv8t : (I190 a0 8).toInt = A9.toInt := congrArg Int32.toInt hv8
        have hv9 : I190 a0 9 = x198_ := e198.symm
        have hv9t : (I190 a0 9).toInt = x198_.toInt := congrArg Int32.toInt hv9
        exact r_vret hC hQ hlk hr (by decide) (by decide) dX10_readStory_204 ⟨_, _, rfl, rfl, ⟨hs190, hF190, hFJ190, (by omega), (by omega), (by omega), (by omega)⟩⟩
  · refine r_iconst hC (v := (0)) dX10_readStory_44 (by decide) (by decide) (fun x216_ e216 t216 => ?_)
    refine r_goto hC (tgt := 115) dX10_readStory_45 (by decide) ?_
    refine r_istore_n hC (lv' := [(2, .int x216_), (1, .int x9_), (0, .ref a0)]) dX10_readStory_115 (by decide) rfl ?_
    refine r_iload_n hC dX10_readStory_116 0 rfl ?_
    refine r_iconst hC (v := (-1)) dX10_readStory_117 (by decide) (by decide) (fun x217_ e217 t217 => ?_)
    refine r_icmp_ne hC (tgt := 126) dX10_readStory_118 (by decide) (fun c218 => ?_) (fun c218 => ?_)
    rotate_left
    · exfalso; omega
    refine r_aload_n hC dX10_readStory_126 2 rfl ?_
    refine r_callV hC (As := []) (rest := []) (ci := 10) (c_X10_goesOn g (xL X) K len I9 J9 R hs9 a0 ka0) mT_5_199 mT_1_10 mT_5_196 mT_5_198 mP_49 okX10_goesOn ⟨by decide, by decide⟩ rfl (by show kO (K a0) = _; rw [ka0]; rfl) rfl rfl (Nat.le_of_ble_eq_true rfl) ⟨by decide, by decide⟩ dX10_readStory_127 (aV2 (F := fun st M => P g X 5 130 [(2, .int x216_), (1, .int x9_), (0, .ref a0)] st _ _ M) (M := (K, len, I9, J9, R)) fun I219 J219 h219 => ?_)
    obtain ⟨hs219, hf219, hfj219, k219_0, k219_1, k219_2, k219_3⟩ := h219
    show P g X 5 130 [(2, .int x216_), (1, .int x9_), (0, .ref a0)] [] _ _ (K, len, I219, J219, R)
    have hF219 : Fr K [(10, 7), (10, 10), (11, 8), (11, 9), (11, 10), (11, 11), (11, 12), (11, 13), (41, 999), (1000, 999)] I I219 := hF9.trans hf219 rfl rfl
    have hFJ219 : Fr K [(11, 14), (42, 999)] J J219 := hFJ9.trans hfj219 rfl rfl
    refine r_aload_n hC dX10_readStory_130 2 rfl ?_
    refine r_iconst hC (v := (0)) dX10_readStory_131 (by decide) (by decide) (fun x220_ e220 t220 => ?_)
    refine r_bipush hC (v := (99)) dX10_readStory_132 (by decide) (by decide) (fun x221_ e221 t221 => ?_)
    refine r_callV hC (As := [.int x220_, .int x221_]) (rest := []) (ci := 10) (c_X10_readWhole g (xL X) K len I219 J219 R hs219 a0 ka0 x220_ x221_) mT_6_5 mT_1_10 mT_6_2 mT_6_4 mP_57 okX10_readWhole ⟨by decide, by decide⟩ rfl (by show kO (K a0) = _; rw [ka0]; rfl) rfl rfl (Nat.le_of_ble_eq_true rfl) ⟨by decide, by decide⟩ dX10_readStory_134 (aI2 (F := fun st M => P g X 5 137 [(2, .int x216_), (1, .int x9_), (0, .ref a0)] st _ _ M) (M := (K, len, I219, J219, R)) fun x222_ I222 J222 h222 => ?_)
    obtain ⟨hs222, hf222, hfj222, k222_0, k222_1, k222_2, k222_3⟩ := h222
    show P g X 5 137 [(2, .int x216_), (1, .int x9_), (0, .ref a0)] [.int x222_] _ _ (K, len, I222, J222, R)
    have hF222 : Fr K [(10, 7), (10, 10), (11, 8), (11, 9), (11, 10), (11, 11), (11, 12), (11, 13), (41, 999), (1000, 999)] I I222 := hF219.trans hf222 rfl rfl
    have hFJ222 : Fr K [(11, 14), (42, 999)] J J222 := hFJ219.trans hfj222 rfl rfl
    refine r_istore_n hC (lv' := [(3, .int x222_), (2, .int x216_), (1, .int x9_), (0, .ref a0)]) dX10_readStory_137 (by decide) rfl ?_
    refine r_iload_n hC dX10_readStory_138 1 rfl ?_
    refine r_iconst hC (v := (2)) dX10_readStory_139 (by decide) (by decide) (fun x223_ e223 t223 => ?_)
    refine r_icmp_ne hC (tgt := 156) dX10_readStory_140 (by decide) (fun c224 => ?_) (fun c224 => ?_)
    rotate_left
    · exfalso; omega
    refine r_iload_n hC dX10_readStory_156 1 rfl ?_
    refine r_iconst hC (v := (3)) dX10_readStory_157 (by decide) (by decide) (fun x225_ e225 t225 => ?_)
    refine r_icmp_ne hC (tgt := 175) dX10_readStory_158 (by decide) (fun c226 => ?_) (fun c226 => ?_)
    rotate_left
    · exfalso; omega
    refine r_iload_n hC dX10_readStory_175 1 rfl ?_
    refine r_iconst hC (v := (4)) dX10_readStory_176 (by decide) (by decide) (fun x227_ e227 t227 => ?_)
    refine r_icmp_ne hC (tgt := 193) dX10_readStory_177 (by decide) (fun c228 => ?_) (fun c228 => ?_)
    rotate_left
    · exfalso; omega
    refine r_iconst hC (v := (0)) dX10_readStory_193 (by decide) (by decide) (fun x229_ e229 t229 => ?_)
    refine r_istore hC (lv' := [(4, .int x229_), (3, .int x222_), (2, .int x216_), (1, .int x9_), (0, .ref a0)]) dX10_readStory_194 (by decide) rfl ?_
    refine r_aload_n hC dX10_readStory_196 4 rfl ?_
    obtain ⟨A9, eA9⟩ : ∃ z : Int32, z = I222 a0 8 := ⟨_, rfl⟩
    have fA9 : A9.toInt = (I222 a0 8).toInt := by rw [eA9]
    have rA9 := hs222.rng ka0 rfl eA9
    refine r_geti hC 9 (ci := 10) rfl u10_in (by decide) mT_5_4 dX10_readStory_197 ka0 rfl rfl (fun x230_ e230 => ?_)
    have f230 : x230_.toInt = (I222 a0 9).toInt := by rw [e230]
    refine r_iconst hC (v := (5)) dX10_readStory_200 (by decide) (by decide) (fun x231_ e231 t231 => ?_)
    refine r_icmp_ne hC (tgt := 205) dX10_readStory_201 (by decide) (fun c232 => ?_) (fun c232 => ?_)
    · refine r_aload_n hC dX10_readStory_205 4 rfl ?_
      refine r_getr hC 4 (ci := 10) rfl u10_in (by decide) mT_4_239 dX10_readStory_206 ka0 rfl rfl hbr ?_
      obtain ⟨a233_, hb233, hk233, hn233⟩ := hs222.row krm 16 41 6 (by decide) (by decide)
      refine r_getrN hC 16 (ci := 9) rfl u9_in (by decide) nF_16 dX10_readStory_209 krm rfl rfl hb233 ?_
      refine r_aload_n hC dX10_readStory_212 4 rfl ?_
      refine r_getr hC 4 (ci := 10) rfl u10_in (by decide) mT_4_239 dX10_readStory_213 ka0 rfl rfl hbr ?_
      refine r_getiN hC 7 (ci := 9) rfl u9_in (by decide) nF_7 dX10_readStory_216 krm rfl rfl (fun x234_ e234 => ?_)
      have r234 := hs222.rng krm rfl e234
      have f234 : x234_.toInt = (I222 rm 7).toInt := by rw [e234]
      have w234 : x234_ = x5_ := by rw [e234]; exact (Eq.trans (hf222.get krm rfl) (Eq.trans (hf219.get krm rfl) (Eq.trans (hf9.get krm rfl) (Eq.trans (hf6.get krm rfl) e5.symm))))
      have wt234 : x234_.toInt = x5_.toInt := by rw [w234]
      refine r_iload_n hC dX10_readStory_219 3 rfl ?_
      refine x_iastore hC hk233 hn233 (by decide) rfl rfl dX10_readStory_220 (by omega) (by omega) (fun I235 eI235 => ?_)
      have hs235 := hs222.put0 eI235 hk233 (rng_arr (by decide) _) rfl (xF_arr (by decide) _) (by decide)
      have hF235 := hF222.put eI235 hk233 (inS_arr rfl _)
      refine r_aload_n hC dX10_readStory_221 4 rfl ?_
      refine r_getr hC 4 (ci := 10) rfl u10_in (by decide) mT_4_239 dX10_readStory_222 ka0 rfl rfl hbr ?_
      obtain ⟨kd236, mo236, hb236, hk236, hn236, hB236, hK236, hN236⟩ := hs235.2.2.1 rm krm
      refine r_getrN hC 17 (ci := 9) rfl u9_in (by decide) nF_17 dX10_readStory_225 krm rfl rfl hb236 ?_
      refine r_aload_n hC dX10_readStory_228 4 rfl ?_
      refine r_getr hC 4 (ci := 10) rfl u10_in (by decide) mT_4_239 dX10_readStory_229 ka0 rfl rfl hbr ?_
      refine r_getiN hC 7 (ci := 9) rfl u9_in (by decide) nF_7 dX10_readStory_232 krm rfl rfl (fun x237_ e237 => ?_)
      have r237 := hs235.rng krm rfl e237
      have f237 : x237_.toInt = (I235 rm 7).toInt := by rw [e237]
      have w237 : x237_ = x234_ := by rw [e237]; exact (Eq.trans (up2_kk eI235 hk233 krm (by decide)) e234.symm)
      have wt237 : x237_.toInt = x234_.toInt := by rw [w237]
      refine r_iload_n hC dX10_readStory_235 2 rfl ?_
      refine x_iastore hC hk236 hn236 (by omega) (kOb (by omega)) (kAb (by omega)) dX10_readStory_236 (by omega) (by omega) (fun I238 eI238 => ?_)
      have hs238 : Sf K len I238 R := hs235.putK (rm := rm) eI238 (Or.inl hk236) (by have h9 := clampI (i := x237_) (by omega); omega)
      have hF238 := hF235.put eI238 hk236 (inS_big rfl (by omega) _)
      refine r_aload_n hC dX10_readStory_237 4 rfl ?_
      refine r_getr hC 4 (ci := 10) rfl u10_in (by decide) mT_4_239 dX10_readStory_238 ka0 rfl rfl hbr ?_
      obtain ⟨a239_, hb239, hk239, hn239⟩ := hs238.row krm 18 41 6 (by decide) (by decide)
      refine r_getrN hC 18 (ci := 9) rfl u9_in (by decide) nF_18 dX10_readStory_241 krm rfl rfl hb239 ?_
      refine r_aload_n hC dX10_readStory_244 4 rfl ?_
      refine r_getr hC 4 (ci := 10) rfl u10_in (by decide) mT_4_239 dX10_readStory_245 ka0 rfl rfl hbr ?_
      refine r_getiN hC 7 (ci := 9) rfl u9_in (by decide) nF_7 dX10_readStory_248 krm rfl rfl (fun x240_ e240 => ?_)
      have r240 := hs238.rng krm rfl e240
      have f240 : x240_.toInt = (I238 rm 7).toInt := by rw [e240]
      have w240 : x240_ = x237_ := by rw [e240]; exact (Eq.trans (up2_kk eI238 hk236 krm (by omega)) e237.symm)
      have wt240 : x240_.toInt = x237_.toInt := by rw [w240]
      refine r_iload_n hC dX10_readStory_251 1 rfl ?_
      refine x_iastore hC hk239 hn239 (by decide) rfl rfl dX10_readStory_252 (by omega) (by omega) (fun I241 eI241 => ?_)
      have hs241 := hs238.put0 eI241 hk239 (rng_arr (by decide) _) rfl (xF_arr (by decide) _) (by decide)
      have hF241 := hF238.put eI241 hk239 (inS_arr rfl _)
      refine r_aload_n hC dX10_readStory_253 4 rfl ?_
      refine r_getr hC 4 (ci := 10) rfl u10_in (by decide) mT_4_239 dX10_readStory_254 ka0 rfl rfl hbr ?_
      refine r_getrN hC 19 (ci := 9) rfl u9_in (by decide) nF_19 dX10_readStory_257 krm rfl rfl hB236 ?_
      refine r_aload_n hC dX10_readStory_260 4 rfl ?_
      refine r_getr hC 4 (ci := 10) rfl u10_in (by decide) mT_4_239 dX10_readStory_261 ka0 rfl rfl hbr ?_
      refine r_getiN hC 7 (ci := 9) rfl u9_in (by decide) nF_7 dX10_readStory_264 krm rfl rfl (fun x242_ e242 => ?_)
      have r242 := hs241.rng krm rfl e242
      have f242 : x242_.toInt = (I241 rm 7).toInt := by rw [e242]
      have w242 : x242_ = x240_ := by rw [e242]; exact (Eq.trans (up2_kk eI241 hk239 krm (by decide)) e240.symm)
      have wt242 : x242_.toInt = x240_.toInt := by rw [w242]
      refine r_iload hC dX10_readStory_267 0 rfl ?_
      refine x_iastore hC hK236 hN236 (by omega) (kOb (by omega)) (kAb (by omega)) dX10_readStory_269 (by omega) (by omega) (fun I243 eI243 => ?_)
      have hs243 : Sf K len I243 R := hs241.putK (rm := rm) eI243 (Or.inr hK236) (by have h9 := clampI (i := x242_) (by omega); omega)
      have hF243 := hF241.put eI243 hK236 (inS_big rfl (by omega) _)
      refine r_aload_n hC dX10_readStory_270 4 rfl ?_
      refine r_getr hC 4 (ci := 10) rfl u10_in (by decide) mT_4_239 dX10_readStory_271 ka0 rfl rfl hbr ?_
      refine r_dup hC dX10_readStory_274 rfl ?_
      refine r_getiN hC 7 (ci := 9) rfl u9_in (by decide) nF_7 dX10_readStory_275 krm rfl rfl (fun x244_ e244 => ?_)
      have r244 := hs243.rng krm rfl e244
      have f244 : x244_.toInt = (I243 rm 7).toInt := by rw [e244]
      have w244 : x244_ = x242_ := by rw [e244]; exact (Eq.trans (up2_kk eI243 hK236 krm (by omega)) e242.symm)
      have wt244 : x244_.toInt = x242_.toInt := by rw [w244]
      refine r_iconst hC (v := (1)) dX10_readStory_278 (by decide) (by decide) (fun x245_ e245 t245 => ?_)
      refine r_iadd hC dX10_readStory_279 (fun x246_ e246 => ?_)
      try have t246 : x246_.toInt = x244_.toInt + x245_.toInt := by rw [e246]; exact ti_add (by omega) (by omega)
      refine r_putiN hC 7 (ci := 9) rfl u9_in tyX9_ok nmX9 (by decide) nF_7 rfl rfl rfl dX10_readStory_280 krm rfl rfl (fun I247 eI247 => ?_)
      have hs247 : Sf K len I247 R := hs243.putA7 eI247 krm hb236 hB236 (by omega) (by omega) (j := x237_.toNatClampNeg) (by have h9 := clampI (i := x237_) (by omega); omega) (by omega) (by rw [(show I243 kd236 x237_.toNatClampNeg = x216_ from (Eq.trans (up2_kk eI243 hK236 hk236 (by omega)) (Eq.trans (up2_kk eI241 hk239 hk236 (by omega)) (by rw [eI238]; exact up2_self _ _ _ _)))), cl_eq (show x237_.toInt = x242_.toInt by omega), (show I243 mo236 x242_.toNatClampNeg = x229_ from (by rw [eI243]; exact up2_self _ _ _ _))]; omega)
      have hF247 := hF243.put eI247 krm rfl
      have hG3 : I247 rm 3 = G3 := (Eq.trans (up2_at (Or.inr (by decide)) eI247) (Eq.trans (up2_kk eI243 hK236 krm (by omega)) (Eq.trans (up2_kk eI241 hk239 krm (by decide)) (Eq.trans (up2_kk eI238 hk236 krm (by omega)) (Eq.trans (up2_kk eI235 hk233 krm (by decide)) (Eq.trans (hf222.get krm rfl) (Eq.trans (hf219.get krm rfl) (Eq.trans (hf9.get krm rfl) (Eq.trans (hf6.get krm rfl) (Eq.trans (hf3.get krm rfl) eG3.symm))))))))))
      have hG3t : (I247 rm 3).toInt = G3.toInt := congrArg Int32.toInt hG3
      have hG4 : I247 rm 4 = G4 := (Eq.trans (up2_at (Or.inr (by decide)) eI247) (Eq.trans (up2_kk eI243 hK236 krm (by omega)) (Eq.trans (up2_kk eI241 hk239 krm (by decide)) (Eq.trans (up2_kk eI238 hk236 krm (by omega)) (Eq.trans (up2_kk eI235 hk233 krm (by decide)) (Eq.trans (hf222.get krm rfl) (Eq.trans (hf219.get krm rfl) (Eq.trans (hf9.get krm rfl) (Eq.trans (hf6.get krm rfl) (Eq.trans (hf3.get krm rfl) eG4.symm))))))))))
      have hG4t : (I247 rm 4).toInt = G4.toInt := congrArg Int32.toInt hG4
      have hG7 : I247 rm 7 = x246_ := (by rw [eI247]; exact up2_self _ _ _ _)
      have hG7t : (I247 rm 7).toInt = x246_.toInt := congrArg Int32.toInt hG7
      have hG8 : I247 rm 8 = G8 := (Eq.trans (up2_at (Or.inr (by decide)) eI247) (Eq.trans (up2_kk eI243 hK236 krm (by omega)) (Eq.trans (up2_kk eI241 hk239 krm (by decide)) (Eq.trans (up2_kk eI238 hk236 krm (by omega)) (Eq.trans (up2_kk eI235 hk233 krm (by decide)) (Eq.trans (hf222.get krm rfl) (Eq.trans (hf219.get krm rfl) (Eq.trans (hf9.get krm rfl) (Eq.trans (hf6.get krm rfl) (Eq.trans (hf3.get krm rfl) eG8.symm))))))))))
      have hG8t : (I247 rm 8).toInt = G8.toInt := congrArg Int32.toInt hG8
      have hG9 : I247 rm 9 = G9 := (Eq.trans (up2_at (Or.inr (by decide)) eI247) (Eq.trans (up2_kk eI243 hK236 krm (by omega)) (Eq.trans (up2_kk eI241 hk239 krm (by decide)) (Eq.trans (up2_kk eI238 hk236 krm (by omega)) (Eq.trans (up2_kk eI235 hk233 krm (by decide)) (Eq.trans (hf222.get krm rfl) (Eq.trans (hf219.get krm rfl) (Eq.trans (hf9.get krm rfl) (Eq.trans (hf6.get krm rfl) (Eq.trans (hf3.get krm rfl) eG9.symm))))))))))
      have hG9t : (I247 rm 9).toInt = G9.toInt := congrArg Int32.toInt hG9
      have hGN : I247 rm 10 = N1 := (Eq.trans (up2_at (Or.inr (by decide)) eI247) (Eq.trans (up2_kk eI243 hK236 krm (by omega)) (Eq.trans (up2_kk eI241 hk239 krm (by decide)) (Eq.trans (up2_kk eI238 hk236 krm (by omega)) (Eq.trans (up2_kk eI235 hk233 krm (by decide)) (Eq.trans (hf222.get krm rfl) (Eq.trans (hf219.get krm rfl) (Eq.trans (hf9.get krm rfl) eN1.symm))))))))
      have hGNt : (I247 rm 10).toInt = N1.toInt := congrArg Int32.toInt hGN
      have hv8 : I247 a0 8 = A9 := (Eq.trans (up2_kk eI247 krm ka0 (by decide)) (Eq.trans (up2_kk eI243 hK236 ka0 (by omega)) (Eq.trans (up2_kk eI241 hk239 ka0 (by decide)) (Eq.trans (up2_kk eI238 hk236 ka0 (by omega)) (Eq.trans (up2_kk eI235 hk233 ka0 (by decide)) eA9.symm)))))
      have hv8t : (I247 a0 8).toInt = A9.toInt := congrArg Int32.toInt hv8
      have hv9 : I247 a0 9 = x230_ := (Eq.trans (up2_kk eI247 krm ka0 (by decide)) (Eq.trans (up2_kk eI243 hK236 ka0 (by omega)) (Eq.trans (up2_kk eI241 hk239 ka0 (by decide)) (Eq.trans (up2_kk eI238 hk236 ka0 (by omega)) (Eq.trans (up2_kk eI235 hk233 ka0 (by decide)) e230.symm)))))
      have hv9t : (I247 a0 9).toInt = x230_.toInt := congrArg Int32.toInt hv9
      exact r_vret hC hQ hlk hr (by decide) (by decide) dX10_readStory_283 ⟨_, _, rfl, rfl, ⟨hs247, hF247, hFJ222, (by omega), (by omega), (by omega), (by omega)⟩⟩
    · have hG3 : I222 rm 3 = G3 := (Eq.trans (hf222.get krm rfl) (Eq.trans (hf219.get krm rfl) (Eq.trans (hf9.get krm rfl) (Eq.trans (hf6.get krm rfl) (Eq.trans (hf3.get krm rfl) eG3.symm)))))
      have hG3t : (I222 rm 3).toInt = G3.toInt := congrArg Int32.toInt hG3
      have hG4 : I222 rm 4 = G4 := (Eq.trans (hf222.get krm rfl) (Eq.trans (hf219.get krm rfl) (Eq.trans (hf9.get krm rfl) (Eq.trans (hf6.get krm rfl) (Eq.trans (hf3.get krm rfl) eG4.symm)))))
      have hG4t : (I222 rm 4).toInt = G4.toInt := congrArg Int32.toInt hG4
      have hG7 : I222 rm 7 = x5_ := (Eq.trans (hf222.get krm rfl) (Eq.trans (hf219.get krm rfl) (Eq.trans (hf9.get krm rfl) (Eq.trans (hf6.get krm rfl) e5.symm))))
      have hG7t : (I222 rm 7).toInt = x5_.toInt := congrArg Int32.toInt hG7
      have hG8 : I222 rm 8 = G8 := (Eq.trans (hf222.get krm rfl) (Eq.trans (hf219.get krm rfl) (Eq.trans (hf9.get krm rfl) (Eq.trans (hf6.get krm rfl) (Eq.trans (hf3.get krm rfl) eG8.symm)))))
      have hG8t : (I222 rm 8).toInt = G8.toInt := congrArg Int32.toInt hG8
      have hG9 : I222 rm 9 = G9 := (Eq.trans (hf222.get krm rfl) (Eq.trans (hf219.get krm rfl) (Eq.trans (hf9.get krm rfl) (Eq.trans (hf6.get krm rfl) (Eq.trans (hf3.get krm rfl) eG9.symm)))))
      have hG9t : (I222 rm 9).toInt = G9.toInt := congrArg Int32.toInt hG9
      have hGN : I222 rm 10 = N1 := (Eq.trans (hf222.get krm rfl) (Eq.trans (hf219.get krm rfl) (Eq.trans (hf9.get krm rfl) eN1.symm)))
      have hGNt : (I222 rm 10).toInt = N1.toInt := congrArg Int32.toInt hGN
      have hv8 : I222 a0 8 = A9 := eA9.symm
      have hv8t : (I222 a0 8).toInt = A9.toInt := congrArg Int32.toInt hv8
      have hv9 : I222 a0 9 = x230_ := e230.symm
      have hv9t : (I222 a0 9).toInt = x230_.toInt := congrArg Int32.toInt hv9
      exact r_vret hC hQ hlk hr (by decide) (by decide) dX10_readStory_204 ⟨_, _, rfl, rfl, ⟨hs222, hF222, hFJ222, (by omega), (by omega), (by omega), (by omega)⟩⟩
set_option maxHeartbeats 4000000 in
set_option maxRecDepth 100000 in
theorem c_X10_readVillage (g : GG) (l : Launch) (K len : Nat → Nat) (I : Nat → Nat → Int32) (J : Nat → Nat → Int64) (R : Nat → Nat → Option Nat) (hs : Sf K len I R) (a0 : Nat) (ka0 : K a0 = 11) (rm : Nat) (hbr : R a0 4 = some rm) (krm : K rm = 10) (p0 : (I a0 9).toInt = 2) (p1 : (I rm 10).toInt ≤ (I rm 3).toInt + (I rm 7).toInt + (I rm 8).toInt + (I rm 9).toInt) (p2 : (I rm 4).toInt ≤ 8) : Ct g l yX10_readVillage cX10_readVillage 4 (Option.none : Option Jvm.ClassFile.FieldType) rmX10_readVillage [.ref a0] (K, len, I, J, R) (pV2 (K, len, I, J, R) (fun I' J' => Sf K len I' R ∧ Fr K [(10, 8), (10, 10), (11, 8), (11, 9), (11, 10), (11, 11), (11, 12), (11, 13), (41, 999)] I I' ∧ Fr K [(11, 14), (42, 999)] J J' ∧ ((I' a0 9).toInt = 5 ∨ (I' rm 10).toInt ≤ (I' rm 3).toInt + (I' rm 7).toInt + (I' rm 8).toInt + (I' rm 9).toInt) ∧ ((I' rm 4).toInt ≤ 8) ∧ ((I a0 8).toInt ≤ (I' a0 8).toInt) ∧ ((I' a0 9).toInt = 4 → (I a0 8).toInt < (I' a0 8).toInt))) := by
  refine Ct_intro (by decide +kernel) (Nat.le_of_ble_eq_true rfl) (fun X hC hL hKK hNm hr hlk hQ => ?_)
  subst hL
  have hC : Cx g X cX10_readVillage "HillTapModel" 4 rmX10_readVillage := hC
  show P g X 4 0 [(0, .ref a0)] [] 0 0 (K, len, I, J, R)
  have hF : Fr K [(10, 8), (10, 10), (11, 8), (11, 9), (11, 10), (11, 11), (11, 12), (11, 13), (41, 999)] I I := Fr.refl
  have hFJ : Fr K [(11, 14), (42, 999)] J J := Fr.refl
  obtain ⟨G3, eG3⟩ : ∃ z : Int32, z = I rm 3 := ⟨_, rfl⟩
  have fG3 : G3.toInt = (I rm 3).toInt := by rw [eG3]
  have rG3 := hs.rng krm rfl eG3
  obtain ⟨G4, eG4⟩ : ∃ z : Int32, z = I rm 4 := ⟨_, rfl⟩
  have fG4 : G4.toInt = (I rm 4).toInt := by rw [eG4]
  have rG4 := hs.rng krm rfl eG4
  obtain ⟨G7, eG7⟩ : ∃ z : Int32, z = I rm 7 := ⟨_, rfl⟩
  have fG7 : G7.toInt = (I rm 7).toInt := by rw [eG7]
  have rG7 := hs.rng krm rfl eG7
  obtain ⟨G8, eG8⟩ : ∃ z : Int32, z = I rm 8 := ⟨_, rfl⟩
  have fG8 : G8.toInt = (I rm 8).toInt := by rw [eG8]
  have rG8 := hs.rng krm rfl eG8
  obtain ⟨G9, eG9⟩ : ∃ z : Int32, z = I rm 9 := ⟨_, rfl⟩
  have fG9 : G9.toInt = (I rm 9).toInt := by rw [eG9]
  have rG9 := hs.rng krm rfl eG9
  obtain ⟨GN, eGN⟩ : ∃ z : Int32, z = I rm 10 := ⟨_, rfl⟩
  have fGN : GN.toInt = (I rm 10).toInt := by rw [eGN]
  have rGN := hs.rng krm rfl eGN
  obtain ⟨A0, eA0⟩ : ∃ z : Int32, z = I a0 8 := ⟨_, rfl⟩
  have fA0 : A0.toInt = (I a0 8).toInt := by rw [eA0]
  have rA0 := hs.rng ka0 rfl eA0
  obtain ⟨T0, eT0⟩ : ∃ z : Int32, z = I a0 9 := ⟨_, rfl⟩
  have fT0 : T0.toInt = (I a0 9).toInt := by rw [eT0]
  refine r_aload_n hC dX10_readVillage_0 0 rfl ?_
  refine r_aload_n hC dX10_readVillage_1 0 rfl ?_
  refine r_getr hC 4 (ci := 10) rfl u10_in (by decide) mT_4_239 dX10_readVillage_2 ka0 rfl rfl hbr ?_
  refine r_getiN hC 8 (ci := 9) rfl u9_in (by decide) nF_8 dX10_readVillage_5 krm rfl rfl (fun x1_ e1 => ?_)
  have r1 := hs.rng krm rfl e1
  have f1 : x1_.toInt = (I rm 8).toInt := by rw [e1]
  have w1 : x1_ = G8 := by rw [e1]; exact eG8.symm
  have wt1 : x1_.toInt = G8.toInt := by rw [w1]
  refine r_iconst hC (v := (4)) dX10_readVillage_8 (by decide) (by decide) (fun x2_ e2 t2 => ?_)
  refine r_callV hC (As := [.int x1_, .int x2_]) (rest := []) (ci := 10) (c_X10_begins g (xL X) K len I J R hs a0 ka0 x1_ x2_) mT_6_19 mT_1_10 mT_6_16 mT_6_18 mP_59 okX10_begins ⟨by decide, by decide⟩ rfl (by show kO (K a0) = _; rw [ka0]; rfl) rfl rfl (Nat.le_of_ble_eq_true rfl) ⟨by decide, by decide⟩ dX10_readVillage_9 (aV2 (F := fun st M => P g X 4 12 [(0, .ref a0)] st _ _ M) (M := (K, len, I, J, R)) fun I3 J3 h3 => ?_)
  obtain ⟨hs3, hf3, hfj3, k3_0, k3_1, k3_2, k3_3⟩ := h3
  show P g X 4 12 [(0, .ref a0)] [] _ _ (K, len, I3, J3, R)
  have hF3 : Fr K [(10, 8), (10, 10), (11, 8), (11, 9), (11, 10), (11, 11), (11, 12), (11, 13), (41, 999)] I I3 := hF.trans hf3 rfl rfl
  have hFJ3 : Fr K [(11, 14), (42, 999)] J J3 := hFJ.trans hfj3 rfl rfl
  refine r_aload_n hC dX10_readVillage_12 0 rfl ?_
  refine r_iconst hC (v := (1)) dX10_readVillage_13 (by decide) (by decide) (fun x4_ e4 t4 => ?_)
  refine r_aload_n hC dX10_readVillage_14 0 rfl ?_
  refine r_getr hC 4 (ci := 10) rfl u10_in (by decide) mT_4_239 dX10_readVillage_15 ka0 rfl rfl hbr ?_
  refine r_getiN hC 8 (ci := 9) rfl u9_in (by decide) nF_8 dX10_readVillage_18 krm rfl rfl (fun x5_ e5 => ?_)
  have r5 := hs3.rng krm rfl e5
  have f5 : x5_.toInt = (I3 rm 8).toInt := by rw [e5]
  have w5 : x5_ = x1_ := by rw [e5]; exact (Eq.trans (hf3.get krm rfl) e1.symm)
  have wt5 : x5_.toInt = x1_.toInt := by rw [w5]
  have qG3 : I3 rm 3 = G3 := (Eq.trans (hf3.get krm rfl) eG3.symm)
  have qG3t : (I3 rm 3).toInt = G3.toInt := congrArg Int32.toInt qG3
  have qG4 : I3 rm 4 = G4 := (Eq.trans (hf3.get krm rfl) eG4.symm)
  have qG4t : (I3 rm 4).toInt = G4.toInt := congrArg Int32.toInt qG4
  have qG7 : I3 rm 7 = G7 := (Eq.trans (hf3.get krm rfl) eG7.symm)
  have qG7t : (I3 rm 7).toInt = G7.toInt := congrArg Int32.toInt qG7
  have qG8 : I3 rm 8 = x5_ := e5.symm
  have qG8t : (I3 rm 8).toInt = x5_.toInt := congrArg Int32.toInt qG8
  have qG9 : I3 rm 9 = G9 := (Eq.trans (hf3.get krm rfl) eG9.symm)
  have qG9t : (I3 rm 9).toInt = G9.toInt := congrArg Int32.toInt qG9
  have qGN : I3 rm 10 = GN := (Eq.trans (hf3.get krm rfl) eGN.symm)
  have qGNt : (I3 rm 10).toInt = GN.toInt := congrArg Int32.toInt qGN
  refine r_callV hC (As := [.int x4_, .int x5_]) (rest := []) (ci := 10) (c_X10_readFresh g (xL X) K len I3 J3 R hs3 a0 ka0 x4_ x5_ rm hbr krm (by omega)) mT_6_23 mT_1_10 mT_6_20 mT_6_22 mP_60 okX10_readFresh ⟨by decide, by decide⟩ rfl (by show kO (K a0) = _; rw [ka0]; rfl) rfl rfl (Nat.le_of_ble_eq_true rfl) ⟨by decide, by decide⟩ dX10_readVillage_21 (aV2 (F := fun st M => P g X 4 24 [(0, .ref a0)] st _ _ M) (M := (K, len, I3, J3, R)) fun I6 J6 h6 => ?_)
  obtain ⟨hs6, hf6, hfj6, k6_0, k6_1, k6_2, k6_3⟩ := h6
  show P g X 4 24 [(0, .ref a0)] [] _ _ (K, len, I6, J6, R)
  have hF6 : Fr K [(10, 8), (10, 10), (11, 8), (11, 9), (11, 10), (11, 11), (11, 12), (11, 13), (41, 999)] I I6 := hF3.trans hf6 rfl rfl
  have hFJ6 : Fr K [(11, 14), (42, 999)] J J6 := hFJ3.trans hfj6 rfl rfl
  obtain ⟨N1, eN1⟩ : ∃ z : Int32, z = I6 rm 10 := ⟨_, rfl⟩
  have fN1 : N1.toInt = (I6 rm 10).toInt := by rw [eN1]
  have rN1 := hs6.rng krm rfl eN1
  refine r_aload_n hC dX10_readVillage_24 0 rfl ?_
  refine r_ldcwS hC (i := 55) (by decide) rfl rfl dX10_readVillage_25 ?_
  refine r_iconst hC (v := (0)) dX10_readVillage_28 (by decide) (by decide) (fun x7_ e7 t7 => ?_)
  refine r_sipush hC (v := (999)) dX10_readVillage_29 (by decide) (by decide) (fun x8_ e8 t8 => ?_)
  refine r_callV hC (As := [.ref (g.2.2.1 55), .int x7_, .int x8_]) (rest := []) (ci := 10) (c_X10_readPart g (xL X) K len I6 J6 R hs6 a0 ka0 55 (by decide) x7_ x8_) mT_6_1 mT_1_10 mT_5_238 mT_6_0 mP_56 okX10_readPart ⟨by decide, by decide⟩ rfl (by show kO (K a0) = _; rw [ka0]; rfl) rfl rfl (Nat.le_of_ble_eq_true rfl) ⟨by decide, by decide⟩ dX10_readVillage_32 (aI2 (F := fun st M => P g X 4 35 [(0, .ref a0)] st _ _ M) (M := (K, len, I6, J6, R)) fun x9_ I9 J9 h9 => ?_)
  obtain ⟨hs9, hf9, hfj9, k9_0, k9_1, k9_2, k9_3⟩ := h9
  show P g X 4 35 [(0, .ref a0)] [.int x9_] _ _ (K, len, I9, J9, R)
  have hF9 : Fr K [(10, 8), (10, 10), (11, 8), (11, 9), (11, 10), (11, 11), (11, 12), (11, 13), (41, 999)] I I9 := hF6.trans hf9 rfl rfl
  have hFJ9 : Fr K [(11, 14), (42, 999)] J J9 := hFJ6.trans hfj9 rfl rfl
  refine r_istore_n hC (lv' := [(1, .int x9_), (0, .ref a0)]) dX10_readVillage_35 (by decide) rfl ?_
  refine r_aload_n hC dX10_readVillage_36 1 rfl ?_
  refine r_ldcwS hC (i := 56) (by decide) rfl rfl dX10_readVillage_37 ?_
  refine r_iconst hC (v := (1)) dX10_readVillage_40 (by decide) (by decide) (fun x10_ e10 t10 => ?_)
  refine r_sipush hC (v := (999)) dX10_readVillage_41 (by decide) (by decide) (fun x11_ e11 t11 => ?_)
  refine r_callV hC (As := [.ref (g.2.2.1 56), .int x10_, .int x11_]) (rest := []) (ci := 10) (c_X10_readPart g (xL X) K len I9 J9 R hs9 a0 ka0 56 (by decide) x10_ x11_) mT_6_1 mT_1_10 mT_5_238 mT_6_0 mP_56 okX10_readPart ⟨by decide, by decide⟩ rfl (by show kO (K a0) = _; rw [ka0]; rfl) rfl rfl (Nat.le_of_ble_eq_true rfl) ⟨by decide, by decide⟩ dX10_readVillage_44 (aI2 (F := fun st M => P g X 4 47 [(1, .int x9_), (0, .ref a0)] st _ _ M) (M := (K, len, I9, J9, R)) fun x12_ I12 J12 h12 => ?_)
  obtain ⟨hs12, hf12, hfj12, k12_0, k12_1, k12_2, k12_3⟩ := h12
  show P g X 4 47 [(1, .int x9_), (0, .ref a0)] [.int x12_] _ _ (K, len, I12, J12, R)
  have hF12 : Fr K [(10, 8), (10, 10), (11, 8), (11, 9), (11, 10), (11, 11), (11, 12), (11, 13), (41, 999)] I I12 := hF9.trans hf12 rfl rfl
  have hFJ12 : Fr K [(11, 14), (42, 999)] J J12 := hFJ9.trans hfj12 rfl rfl
  refine r_istore_n hC (lv' := [(2, .int x12_), (1, .int x9_), (0, .ref a0)]) dX10_readVillage_47 (by decide) rfl ?_
  refine r_aload_n hC dX10_readVillage_48 2 rfl ?_
  refine r_ldcwS hC (i := 57) (by decide) rfl rfl dX10_readVillage_49 ?_
  refine r_iconst hC (v := (0)) dX10_readVillage_52 (by decide) (by decide) (fun x13_ e13 t13 => ?_)
  refine r_bipush hC (v := (30)) dX10_readVillage_53 (by decide) (by decide) (fun x14_ e14 t14 => ?_)
  refine r_callV hC (As := [.ref (g.2.2.1 57), .int x13_, .int x14_]) (rest := []) (ci := 10) (c_X10_readPart g (xL X) K len I12 J12 R hs12 a0 ka0 57 (by decide) x13_ x14_) mT_6_1 mT_1_10 mT_5_238 mT_6_0 mP_56 okX10_readPart ⟨by decide, by decide⟩ rfl (by show kO (K a0) = _; rw [ka0]; rfl) rfl rfl (Nat.le_of_ble_eq_true rfl) ⟨by decide, by decide⟩ dX10_readVillage_55 (aI2 (F := fun st M => P g X 4 58 [(2, .int x12_), (1, .int x9_), (0, .ref a0)] st _ _ M) (M := (K, len, I12, J12, R)) fun x15_ I15 J15 h15 => ?_)
  obtain ⟨hs15, hf15, hfj15, k15_0, k15_1, k15_2, k15_3⟩ := h15
  show P g X 4 58 [(2, .int x12_), (1, .int x9_), (0, .ref a0)] [.int x15_] _ _ (K, len, I15, J15, R)
  have hF15 : Fr K [(10, 8), (10, 10), (11, 8), (11, 9), (11, 10), (11, 11), (11, 12), (11, 13), (41, 999)] I I15 := hF12.trans hf15 rfl rfl
  have hFJ15 : Fr K [(11, 14), (42, 999)] J J15 := hFJ12.trans hfj15 rfl rfl
  refine r_istore_n hC (lv' := [(3, .int x15_), (2, .int x12_), (1, .int x9_), (0, .ref a0)]) dX10_readVillage_58 (by decide) rfl ?_
  refine r_aload_n hC dX10_readVillage_59 3 rfl ?_
  obtain ⟨A9, eA9⟩ : ∃ z : Int32, z = I15 a0 8 := ⟨_, rfl⟩
  have fA9 : A9.toInt = (I15 a0 8).toInt := by rw [eA9]
  have rA9 := hs15.rng ka0 rfl eA9
  refine r_geti hC 9 (ci := 10) rfl u10_in (by decide) mT_5_4 dX10_readVillage_60 ka0 rfl rfl (fun x16_ e16 => ?_)
  have f16 : x16_.toInt = (I15 a0 9).toInt := by rw [e16]
  refine r_iconst hC (v := (5)) dX10_readVillage_63 (by decide) (by decide) (fun x17_ e17 t17 => ?_)
  refine r_icmp_ne hC (tgt := 68) dX10_readVillage_64 (by decide) (fun c18 => ?_) (fun c18 => ?_)
  · refine r_aload_n hC dX10_readVillage_68 3 rfl ?_
    refine r_getr hC 4 (ci := 10) rfl u10_in (by decide) mT_4_239 dX10_readVillage_69 ka0 rfl rfl hbr ?_
    obtain ⟨a19_, hb19, hk19, hn19⟩ := hs15.row krm 20 41 4 (by decide) (by decide)
    refine r_getrN hC 20 (ci := 9) rfl u9_in (by decide) nF_20 dX10_readVillage_72 krm rfl rfl hb19 ?_
    refine r_aload_n hC dX10_readVillage_75 3 rfl ?_
    refine r_getr hC 4 (ci := 10) rfl u10_in (by decide) mT_4_239 dX10_readVillage_76 ka0 rfl rfl hbr ?_
    refine r_getiN hC 8 (ci := 9) rfl u9_in (by decide) nF_8 dX10_readVillage_79 krm rfl rfl (fun x20_ e20 => ?_)
    have r20 := hs15.rng krm rfl e20
    have f20 : x20_.toInt = (I15 rm 8).toInt := by rw [e20]
    have w20 : x20_ = x5_ := by rw [e20]; exact (Eq.trans (hf15.get krm rfl) (Eq.trans (hf12.get krm rfl) (Eq.trans (hf9.get krm rfl) (Eq.trans (hf6.get krm rfl) e5.symm))))
    have wt20 : x20_.toInt = x5_.toInt := by rw [w20]
    refine r_iload_n hC dX10_readVillage_82 2 rfl ?_
    refine x_iastore hC hk19 hn19 (by decide) rfl rfl dX10_readVillage_83 (by omega) (by omega) (fun I21 eI21 => ?_)
    have hs21 := hs15.put0 eI21 hk19 (rng_arr (by decide) _) rfl (xF_arr (by decide) _) (by decide)
    have hF21 := hF15.put eI21 hk19 (inS_arr rfl _)
    refine r_aload_n hC dX10_readVillage_84 3 rfl ?_
    refine r_getr hC 4 (ci := 10) rfl u10_in (by decide) mT_4_239 dX10_readVillage_85 ka0 rfl rfl hbr ?_
    obtain ⟨a22_, hb22, hk22, hn22⟩ := hs21.row krm 21 41 4 (by decide) (by decide)
    refine r_getrN hC 21 (ci := 9) rfl u9_in (by decide) nF_21 dX10_readVillage_88 krm rfl rfl hb22 ?_
    refine r_aload_n hC dX10_readVillage_91 3 rfl ?_
    refine r_getr hC 4 (ci := 10) rfl u10_in (by decide) mT_4_239 dX10_readVillage_92 ka0 rfl rfl hbr ?_
    refine r_getiN hC 8 (ci := 9) rfl u9_in (by decide) nF_8 dX10_readVillage_95 krm rfl rfl (fun x23_ e23 => ?_)
    have r23 := hs21.rng krm rfl e23
    have f23 : x23_.toInt = (I21 rm 8).toInt := by rw [e23]
    have w23 : x23_ = x20_ := by rw [e23]; exact (Eq.trans (up2_kk eI21 hk19 krm (by decide)) e20.symm)
    have wt23 : x23_.toInt = x20_.toInt := by rw [w23]
    refine r_iload_n hC dX10_readVillage_98 1 rfl ?_
    refine x_iastore hC hk22 hn22 (by decide) rfl rfl dX10_readVillage_99 (by omega) (by omega) (fun I24 eI24 => ?_)
    have hs24 := hs21.put0 eI24 hk22 (rng_arr (by decide) _) rfl (xF_arr (by decide) _) (by decide)
    have hF24 := hF21.put eI24 hk22 (inS_arr rfl _)
    refine r_aload_n hC dX10_readVillage_100 3 rfl ?_
    refine r_getr hC 4 (ci := 10) rfl u10_in (by decide) mT_4_239 dX10_readVillage_101 ka0 rfl rfl hbr ?_
    obtain ⟨a25_, hb25, hk25, hn25⟩ := hs24.row krm 22 41 4 (by decide) (by decide)
    refine r_getrN hC 22 (ci := 9) rfl u9_in (by decide) nF_22 dX10_readVillage_104 krm rfl rfl hb25 ?_
    refine r_aload_n hC dX10_readVillage_107 3 rfl ?_
    refine r_getr hC 4 (ci := 10) rfl u10_in (by decide) mT_4_239 dX10_readVillage_108 ka0 rfl rfl hbr ?_
    refine r_getiN hC 8 (ci := 9) rfl u9_in (by decide) nF_8 dX10_readVillage_111 krm rfl rfl (fun x26_ e26 => ?_)
    have r26 := hs24.rng krm rfl e26
    have f26 : x26_.toInt = (I24 rm 8).toInt := by rw [e26]
    have w26 : x26_ = x23_ := by rw [e26]; exact (Eq.trans (up2_kk eI24 hk22 krm (by decide)) e23.symm)
    have wt26 : x26_.toInt = x23_.toInt := by rw [w26]
    refine r_iload_n hC dX10_readVillage_114 0 rfl ?_
    refine x_iastore hC hk25 hn25 (by decide) rfl rfl dX10_readVillage_115 (by omega) (by omega) (fun I27 eI27 => ?_)
    have hs27 := hs24.put0 eI27 hk25 (rng_arr (by decide) _) rfl (xF_arr (by decide) _) (by decide)
    have hF27 := hF24.put eI27 hk25 (inS_arr rfl _)
    refine r_aload_n hC dX10_readVillage_116 3 rfl ?_
    refine r_getr hC 4 (ci := 10) rfl u10_in (by decide) mT_4_239 dX10_readVillage_117 ka0 rfl rfl hbr ?_
    refine r_dup hC dX10_readVillage_120 rfl ?_
    refine r_getiN hC 8 (ci := 9) rfl u9_in (by decide) nF_8 dX10_readVillage_121 krm rfl rfl (fun x28_ e28 => ?_)
    have r28 := hs27.rng krm rfl e28
    have f28 : x28_.toInt = (I27 rm 8).toInt := by rw [e28]
    have w28 : x28_ = x26_ := by rw [e28]; exact (Eq.trans (up2_kk eI27 hk25 krm (by decide)) e26.symm)
    have wt28 : x28_.toInt = x26_.toInt := by rw [w28]
    refine r_iconst hC (v := (1)) dX10_readVillage_124 (by decide) (by decide) (fun x29_ e29 t29 => ?_)
    refine r_iadd hC dX10_readVillage_125 (fun x30_ e30 => ?_)
    try have t30 : x30_.toInt = x28_.toInt + x29_.toInt := by rw [e30]; exact ti_add (by omega) (by omega)
    refine r_putiN hC 8 (ci := 9) rfl u9_in tyX9_ok nmX9 (by decide) nF_8 rfl rfl rfl dX10_readVillage_126 krm rfl rfl (fun I31 eI31 => ?_)
    have hs31 := hs27.put1 eI31 krm rfl (by omega) (by omega) rfl rfl (by decide)
    have hF31 := hF27.put eI31 krm rfl
    have hG3 : I31 rm 3 = G3 := (Eq.trans (up2_at (Or.inr (by decide)) eI31) (Eq.trans (up2_kk eI27 hk25 krm (by decide)) (Eq.trans (up2_kk eI24 hk22 krm (by decide)) (Eq.trans (up2_kk eI21 hk19 krm (by decide)) (Eq.trans (hf15.get krm rfl) (Eq.trans (hf12.get krm rfl) (Eq.trans (hf9.get krm rfl) (Eq.trans (hf6.get krm rfl) (Eq.trans (hf3.get krm rfl) eG3.symm)))))))))
    have hG3t : (I31 rm 3).toInt = G3.toInt := congrArg Int32.toInt hG3
    have hG4 : I31 rm 4 = G4 := (Eq.trans (up2_at (Or.inr (by decide)) eI31) (Eq.trans (up2_kk eI27 hk25 krm (by decide)) (Eq.trans (up2_kk eI24 hk22 krm (by decide)) (Eq.trans (up2_kk eI21 hk19 krm (by decide)) (Eq.trans (hf15.get krm rfl) (Eq.trans (hf12.get krm rfl) (Eq.trans (hf9.get krm rfl) (Eq.trans (hf6.get krm rfl) (Eq.trans (hf3.get krm rfl) eG4.symm)))))))))
    have hG4t : (I31 rm 4).toInt = G4.toInt := congrArg Int32.toInt hG4
    have hG7 : I31 rm 7 = G7 := (Eq.trans (up2_at (Or.inr (by decide)) eI31) (Eq.trans (up2_kk eI27 hk25 krm (by decide)) (Eq.trans (up2_kk eI24 hk22 krm (by decide)) (Eq.trans (up2_kk eI21 hk19 krm (by decide)) (Eq.trans (hf15.get krm rfl) (Eq.trans (hf12.get krm rfl) (Eq.trans (hf9.get krm rfl) (Eq.trans (hf6.get krm rfl) (Eq.trans (hf3.get krm rfl) eG7.symm)))))))))
    have hG7t : (I31 rm 7).toInt = G7.toInt := congrArg Int32.toInt hG7
    have hG8 : I31 rm 8 = x30_ := (by rw [eI31]; exact up2_self _ _ _ _)
    have hG8t : (I31 rm 8).toInt = x30_.toInt := congrArg Int32.toInt hG8
    have hG9 : I31 rm 9 = G9 := (Eq.trans (up2_at (Or.inr (by decide)) eI31) (Eq.trans (up2_kk eI27 hk25 krm (by decide)) (Eq.trans (up2_kk eI24 hk22 krm (by decide)) (Eq.trans (up2_kk eI21 hk19 krm (by decide)) (Eq.trans (hf15.get krm rfl) (Eq.trans (hf12.get krm rfl) (Eq.trans (hf9.get krm rfl) (Eq.trans (hf6.get krm rfl) (Eq.trans (hf3.get krm rfl) eG9.symm)))))))))
    have hG9t : (I31 rm 9).toInt = G9.toInt := congrArg Int32.toInt hG9
    have hGN : I31 rm 10 = N1 := (Eq.trans (up2_at (Or.inr (by decide)) eI31) (Eq.trans (up2_kk eI27 hk25 krm (by decide)) (Eq.trans (up2_kk eI24 hk22 krm (by decide)) (Eq.trans (up2_kk eI21 hk19 krm (by decide)) (Eq.trans (hf15.get krm rfl) (Eq.trans (hf12.get krm rfl) (Eq.trans (hf9.get krm rfl) eN1.symm)))))))
    have hGNt : (I31 rm 10).toInt = N1.toInt := congrArg Int32.toInt hGN
    have hv8 : I31 a0 8 = A9 := (Eq.trans (up2_kk eI31 krm ka0 (by decide)) (Eq.trans (up2_kk eI27 hk25 ka0 (by decide)) (Eq.trans (up2_kk eI24 hk22 ka0 (by decide)) (Eq.trans (up2_kk eI21 hk19 ka0 (by decide)) eA9.symm))))
    have hv8t : (I31 a0 8).toInt = A9.toInt := congrArg Int32.toInt hv8
    have hv9 : I31 a0 9 = x16_ := (Eq.trans (up2_kk eI31 krm ka0 (by decide)) (Eq.trans (up2_kk eI27 hk25 ka0 (by decide)) (Eq.trans (up2_kk eI24 hk22 ka0 (by decide)) (Eq.trans (up2_kk eI21 hk19 ka0 (by decide)) e16.symm))))
    have hv9t : (I31 a0 9).toInt = x16_.toInt := congrArg Int32.toInt hv9
    exact r_vret hC hQ hlk hr (by decide) (by decide) dX10_readVillage_129 ⟨_, _, rfl, rfl, ⟨hs31, hF31, hFJ15, (by omega), (by omega), (by omega), (by omega)⟩⟩
  · have hG3 : I15 rm 3 = G3 := (Eq.trans (hf15.get krm rfl) (Eq.trans (hf12.get krm rfl) (Eq.trans (hf9.get krm rfl) (Eq.trans (hf6.get krm rfl) (Eq.trans (hf3.get krm rfl) eG3.symm)))))
    have hG3t : (I15 rm 3).toInt = G3.toInt := congrArg Int32.toInt hG3
    have hG4 : I15 rm 4 = G4 := (Eq.trans (hf15.get krm rfl) (Eq.trans (hf12.get krm rfl) (Eq.trans (hf9.get krm rfl) (Eq.trans (hf6.get krm rfl) (Eq.trans (hf3.get krm rfl) eG4.symm)))))
    have hG4t : (I15 rm 4).toInt = G4.toInt := congrArg Int32.toInt hG4
    have hG7 : I15 rm 7 = G7 := (Eq.trans (hf15.get krm rfl) (Eq.trans (hf12.get krm rfl) (Eq.trans (hf9.get krm rfl) (Eq.trans (hf6.get krm rfl) (Eq.trans (hf3.get krm rfl) eG7.symm)))))
    have hG7t : (I15 rm 7).toInt = G7.toInt := congrArg Int32.toInt hG7
    have hG8 : I15 rm 8 = x5_ := (Eq.trans (hf15.get krm rfl) (Eq.trans (hf12.get krm rfl) (Eq.trans (hf9.get krm rfl) (Eq.trans (hf6.get krm rfl) e5.symm))))
    have hG8t : (I15 rm 8).toInt = x5_.toInt := congrArg Int32.toInt hG8
    have hG9 : I15 rm 9 = G9 := (Eq.trans (hf15.get krm rfl) (Eq.trans (hf12.get krm rfl) (Eq.trans (hf9.get krm rfl) (Eq.trans (hf6.get krm rfl) (Eq.trans (hf3.get krm rfl) eG9.symm)))))
    have hG9t : (I15 rm 9).toInt = G9.toInt := congrArg Int32.toInt hG9
    have hGN : I15 rm 10 = N1 := (Eq.trans (hf15.get krm rfl) (Eq.trans (hf12.get krm rfl) (Eq.trans (hf9.get krm rfl) eN1.symm)))
    have hGNt : (I15 rm 10).toInt = N1.toInt := congrArg Int32.toInt hGN
    have hv8 : I15 a0 8 = A9 := eA9.symm
    have hv8t : (I15 a0 8).toInt = A9.toInt := congrArg Int32.toInt hv8
    have hv9 : I15 a0 9 = x16_ := e16.symm
    have hv9t : (I15 a0 9).toInt = x16_.toInt := congrArg Int32.toInt hv9
    exact r_vret hC hQ hlk hr (by decide) (by decide) dX10_readVillage_67 ⟨_, _, rfl, rfl, ⟨hs15, hF15, hFJ15, (by omega), (by omega), (by omega), (by omega)⟩⟩
set_option maxHeartbeats 4000000 in
set_option maxRecDepth 100000 in
theorem c_X10_readKnower (g : GG) (l : Launch) (K len : Nat → Nat) (I : Nat → Nat → Int32) (J : Nat → Nat → Int64) (R : Nat → Nat → Option Nat) (hs : Sf K len I R) (a0 : Nat) (ka0 : K a0 = 11) (rm : Nat) (hbr : R a0 4 = some rm) (krm : K rm = 10) (p0 : (I a0 9).toInt = 2) (p1 : (I rm 10).toInt ≤ (I rm 3).toInt + (I rm 7).toInt + (I rm 8).toInt + (I rm 9).toInt) (p2 : (I rm 4).toInt ≤ 8) : Ct g l yX10_readKnower cX10_readKnower 3 (Option.none : Option Jvm.ClassFile.FieldType) rmX10_readKnower [.ref a0] (K, len, I, J, R) (pV2 (K, len, I, J, R) (fun I' J' => Sf K len I' R ∧ Fr K [(10, 9), (10, 10), (11, 8), (11, 9), (11, 10), (11, 11), (11, 12), (11, 13), (41, 999)] I I' ∧ Fr K [(11, 14), (42, 999)] J J' ∧ ((I' a0 9).toInt = 5 ∨ (I' rm 10).toInt ≤ (I' rm 3).toInt + (I' rm 7).toInt + (I' rm 8).toInt + (I' rm 9).toInt) ∧ ((I' rm 4).toInt ≤ 8) ∧ ((I a0 8).toInt ≤ (I' a0 8).toInt) ∧ ((I' a0 9).toInt = 4 → (I a0 8).toInt < (I' a0 8).toInt))) := by
  refine Ct_intro (by decide +kernel) (Nat.le_of_ble_eq_true rfl) (fun X hC hL hKK hNm hr hlk hQ => ?_)
  subst hL
  have hC : Cx g X cX10_readKnower "HillTapModel" 3 rmX10_readKnower := hC
  show P g X 3 0 [(0, .ref a0)] [] 0 0 (K, len, I, J, R)
  have hF : Fr K [(10, 9), (10, 10), (11, 8), (11, 9), (11, 10), (11, 11), (11, 12), (11, 13), (41, 999)] I I := Fr.refl
  have hFJ : Fr K [(11, 14), (42, 999)] J J := Fr.refl
  obtain ⟨G3, eG3⟩ : ∃ z : Int32, z = I rm 3 := ⟨_, rfl⟩
  have fG3 : G3.toInt = (I rm 3).toInt := by rw [eG3]
  have rG3 := hs.rng krm rfl eG3
  obtain ⟨G4, eG4⟩ : ∃ z : Int32, z = I rm 4 := ⟨_, rfl⟩
  have fG4 : G4.toInt = (I rm 4).toInt := by rw [eG4]
  have rG4 := hs.rng krm rfl eG4
  obtain ⟨G7, eG7⟩ : ∃ z : Int32, z = I rm 7 := ⟨_, rfl⟩
  have fG7 : G7.toInt = (I rm 7).toInt := by rw [eG7]
  have rG7 := hs.rng krm rfl eG7
  obtain ⟨G8, eG8⟩ : ∃ z : Int32, z = I rm 8 := ⟨_, rfl⟩
  have fG8 : G8.toInt = (I rm 8).toInt := by rw [eG8]
  have rG8 := hs.rng krm rfl eG8
  obtain ⟨G9, eG9⟩ : ∃ z : Int32, z = I rm 9 := ⟨_, rfl⟩
  have fG9 : G9.toInt = (I rm 9).toInt := by rw [eG9]
  have rG9 := hs.rng krm rfl eG9
  obtain ⟨GN, eGN⟩ : ∃ z : Int32, z = I rm 10 := ⟨_, rfl⟩
  have fGN : GN.toInt = (I rm 10).toInt := by rw [eGN]
  have rGN := hs.rng krm rfl eGN
  obtain ⟨A0, eA0⟩ : ∃ z : Int32, z = I a0 8 := ⟨_, rfl⟩
  have fA0 : A0.toInt = (I a0 8).toInt := by rw [eA0]
  have rA0 := hs.rng ka0 rfl eA0
  obtain ⟨T0, eT0⟩ : ∃ z : Int32, z = I a0 9 := ⟨_, rfl⟩
  have fT0 : T0.toInt = (I a0 9).toInt := by rw [eT0]
  refine r_aload_n hC dX10_readKnower_0 0 rfl ?_
  refine r_aload_n hC dX10_readKnower_1 0 rfl ?_
  refine r_getr hC 4 (ci := 10) rfl u10_in (by decide) mT_4_239 dX10_readKnower_2 ka0 rfl rfl hbr ?_
  refine r_getiN hC 9 (ci := 9) rfl u9_in (by decide) nF_9 dX10_readKnower_5 krm rfl rfl (fun x1_ e1 => ?_)
  have r1 := hs.rng krm rfl e1
  have f1 : x1_.toInt = (I rm 9).toInt := by rw [e1]
  have w1 : x1_ = G9 := by rw [e1]; exact eG9.symm
  have wt1 : x1_.toInt = G9.toInt := by rw [w1]
  refine r_iconst hC (v := (4)) dX10_readKnower_8 (by decide) (by decide) (fun x2_ e2 t2 => ?_)
  refine r_callV hC (As := [.int x1_, .int x2_]) (rest := []) (ci := 10) (c_X10_begins g (xL X) K len I J R hs a0 ka0 x1_ x2_) mT_6_19 mT_1_10 mT_6_16 mT_6_18 mP_59 okX10_begins ⟨by decide, by decide⟩ rfl (by show kO (K a0) = _; rw [ka0]; rfl) rfl rfl (Nat.le_of_ble_eq_true rfl) ⟨by decide, by decide⟩ dX10_readKnower_9 (aV2 (F := fun st M => P g X 3 12 [(0, .ref a0)] st _ _ M) (M := (K, len, I, J, R)) fun I3 J3 h3 => ?_)
  obtain ⟨hs3, hf3, hfj3, k3_0, k3_1, k3_2, k3_3⟩ := h3
  show P g X 3 12 [(0, .ref a0)] [] _ _ (K, len, I3, J3, R)
  have hF3 : Fr K [(10, 9), (10, 10), (11, 8), (11, 9), (11, 10), (11, 11), (11, 12), (11, 13), (41, 999)] I I3 := hF.trans hf3 rfl rfl
  have hFJ3 : Fr K [(11, 14), (42, 999)] J J3 := hFJ.trans hfj3 rfl rfl
  refine r_aload_n hC dX10_readKnower_12 0 rfl ?_
  refine r_iconst hC (v := (1)) dX10_readKnower_13 (by decide) (by decide) (fun x4_ e4 t4 => ?_)
  refine r_aload_n hC dX10_readKnower_14 0 rfl ?_
  refine r_getr hC 4 (ci := 10) rfl u10_in (by decide) mT_4_239 dX10_readKnower_15 ka0 rfl rfl hbr ?_
  refine r_getiN hC 9 (ci := 9) rfl u9_in (by decide) nF_9 dX10_readKnower_18 krm rfl rfl (fun x5_ e5 => ?_)
  have r5 := hs3.rng krm rfl e5
  have f5 : x5_.toInt = (I3 rm 9).toInt := by rw [e5]
  have w5 : x5_ = x1_ := by rw [e5]; exact (Eq.trans (hf3.get krm rfl) e1.symm)
  have wt5 : x5_.toInt = x1_.toInt := by rw [w5]
  have qG3 : I3 rm 3 = G3 := (Eq.trans (hf3.get krm rfl) eG3.symm)
  have qG3t : (I3 rm 3).toInt = G3.toInt := congrArg Int32.toInt qG3
  have qG4 : I3 rm 4 = G4 := (Eq.trans (hf3.get krm rfl) eG4.symm)
  have qG4t : (I3 rm 4).toInt = G4.toInt := congrArg Int32.toInt qG4
  have qG7 : I3 rm 7 = G7 := (Eq.trans (hf3.get krm rfl) eG7.symm)
  have qG7t : (I3 rm 7).toInt = G7.toInt := congrArg Int32.toInt qG7
  have qG8 : I3 rm 8 = G8 := (Eq.trans (hf3.get krm rfl) eG8.symm)
  have qG8t : (I3 rm 8).toInt = G8.toInt := congrArg Int32.toInt qG8
  have qG9 : I3 rm 9 = x5_ := e5.symm
  have qG9t : (I3 rm 9).toInt = x5_.toInt := congrArg Int32.toInt qG9
  have qGN : I3 rm 10 = GN := (Eq.trans (hf3.get krm rfl) eGN.symm)
  have qGNt : (I3 rm 10).toInt = GN.toInt := congrArg Int32.toInt qGN
  refine r_callV hC (As := [.int x4_, .int x5_]) (rest := []) (ci := 10) (c_X10_readFresh g (xL X) K len I3 J3 R hs3 a0 ka0 x4_ x5_ rm hbr krm (by omega)) mT_6_23 mT_1_10 mT_6_20 mT_6_22 mP_60 okX10_readFresh ⟨by decide, by decide⟩ rfl (by show kO (K a0) = _; rw [ka0]; rfl) rfl rfl (Nat.le_of_ble_eq_true rfl) ⟨by decide, by decide⟩ dX10_readKnower_21 (aV2 (F := fun st M => P g X 3 24 [(0, .ref a0)] st _ _ M) (M := (K, len, I3, J3, R)) fun I6 J6 h6 => ?_)
  obtain ⟨hs6, hf6, hfj6, k6_0, k6_1, k6_2, k6_3⟩ := h6
  show P g X 3 24 [(0, .ref a0)] [] _ _ (K, len, I6, J6, R)
  have hF6 : Fr K [(10, 9), (10, 10), (11, 8), (11, 9), (11, 10), (11, 11), (11, 12), (11, 13), (41, 999)] I I6 := hF3.trans hf6 rfl rfl
  have hFJ6 : Fr K [(11, 14), (42, 999)] J J6 := hFJ3.trans hfj6 rfl rfl
  obtain ⟨N1, eN1⟩ : ∃ z : Int32, z = I6 rm 10 := ⟨_, rfl⟩
  have fN1 : N1.toInt = (I6 rm 10).toInt := by rw [eN1]
  have rN1 := hs6.rng krm rfl eN1
  refine r_aload_n hC dX10_readKnower_24 0 rfl ?_
  refine r_ldcwS hC (i := 58) (by decide) rfl rfl dX10_readKnower_25 ?_
  refine r_callV hC (As := [.ref (g.2.2.1 58)]) (rest := []) (ci := 10) (c_X10_isWord g (xL X) K len I6 J6 R hs6 a0 ka0 58 (by decide)) mT_5_223 mT_1_10 mT_5_220 mT_5_222 mP_53 okX10_isWord ⟨by decide, by decide⟩ rfl (by show kO (K a0) = _; rw [ka0]; rfl) rfl rfl (Nat.le_of_ble_eq_true rfl) ⟨by decide, by decide⟩ dX10_readKnower_28 (aI0 (F := fun st M => P g X 3 31 [(0, .ref a0)] st _ _ M) (M := (K, len, I6, J6, R)) fun x7_ h7 => ?_)
  obtain ⟨k7_0, k7_1, k7_2⟩ := h7
  show P g X 3 31 [(0, .ref a0)] [.int x7_] _ _ (K, len, I6, J6, R)
  refine r_if_ne hC (tgt := 39) dX10_readKnower_31 (by decide) (fun c8 => ?_) (fun c8 => ?_)
  · refine r_aload_n hC dX10_readKnower_39 0 rfl ?_
    refine r_callV hC (As := []) (rest := []) (ci := 10) (c_X10_goesOn g (xL X) K len I6 J6 R hs6 a0 ka0) mT_5_199 mT_1_10 mT_5_196 mT_5_198 mP_49 okX10_goesOn ⟨by decide, by decide⟩ rfl (by show kO (K a0) = _; rw [ka0]; rfl) rfl rfl (Nat.le_of_ble_eq_true rfl) ⟨by decide, by decide⟩ dX10_readKnower_40 (aV2 (F := fun st M => P g X 3 43 [(0, .ref a0)] st _ _ M) (M := (K, len, I6, J6, R)) fun I9 J9 h9 => ?_)
    obtain ⟨hs9, hf9, hfj9, k9_0, k9_1, k9_2, k9_3⟩ := h9
    show P g X 3 43 [(0, .ref a0)] [] _ _ (K, len, I9, J9, R)
    have hF9 : Fr K [(10, 9), (10, 10), (11, 8), (11, 9), (11, 10), (11, 11), (11, 12), (11, 13), (41, 999)] I I9 := hF6.trans hf9 rfl rfl
    have hFJ9 : Fr K [(11, 14), (42, 999)] J J9 := hFJ6.trans hfj9 rfl rfl
    refine r_aload_n hC dX10_readKnower_43 0 rfl ?_
    refine r_callV hC (As := []) (rest := []) (ci := 10) (c_X10_isName g (xL X) K len I9 J9 R hs9 a0 ka0) mT_6_27 mT_1_10 mT_6_24 mT_6_26 mP_61 okX10_isName ⟨by decide, by decide⟩ rfl (by show kO (K a0) = _; rw [ka0]; rfl) rfl rfl (Nat.le_of_ble_eq_true rfl) ⟨by decide, by decide⟩ dX10_readKnower_44 (aI0 (F := fun st M => P g X 3 47 [(0, .ref a0)] st _ _ M) (M := (K, len, I9, J9, R)) fun x10_ h10 => ?_)
    obtain ⟨k10_0, k10_1, k10_2⟩ := h10
    show P g X 3 47 [(0, .ref a0)] [.int x10_] _ _ (K, len, I9, J9, R)
    refine r_if_ne hC (tgt := 55) dX10_readKnower_47 (by decide) (fun c11 => ?_) (fun c11 => ?_)
    · refine r_aload_n hC dX10_readKnower_55 0 rfl ?_
      refine r_getr hC 4 (ci := 10) rfl u10_in (by decide) mT_4_239 dX10_readKnower_56 ka0 rfl rfl hbr ?_
      refine r_aload_n hC dX10_readKnower_59 0 rfl ?_
      refine r_getj hC 14 (ci := 10) rfl u10_in (by decide) mT_5_9 dX10_readKnower_60 ka0 rfl rfl (fun y12_ e12 => ?_)
      refine r_callV hC (As := [.long y12_]) (rest := []) (ci := 9) (c_X9_find g (xL X) K len I9 J9 R hs9 rm krm y12_) mT_6_36 mT_1_17 mT_6_33 mT_6_34 mT_6_35 okX9_find ⟨by decide, by decide⟩ rfl (by show kO (K rm) = _; rw [krm]; rfl) rfl rfl (Nat.le_of_ble_eq_true rfl) ⟨by decide, by decide⟩ dX10_readKnower_63 (aI0 (F := fun st M => P g X 3 66 [(0, .ref a0)] st _ _ M) (M := (K, len, I9, J9, R)) fun x13_ h13 => ?_)
      obtain ⟨k13_0, k13_1⟩ := h13
      show P g X 3 66 [(0, .ref a0)] [.int x13_] _ _ (K, len, I9, J9, R)
      refine r_istore_n hC (lv' := [(1, .int x13_), (0, .ref a0)]) dX10_readKnower_66 (by decide) rfl ?_
      refine r_iload_n hC dX10_readKnower_67 0 rfl ?_
      refine r_iconst hC (v := (-1)) dX10_readKnower_68 (by decide) (by decide) (fun x14_ e14 t14 => ?_)
      refine r_icmp_eq hC (tgt := 84) dX10_readKnower_69 (by decide) (fun c15 => ?_) (fun c15 => ?_)
      · refine r_aload_n hC dX10_readKnower_84 1 rfl ?_
        refine r_iconst hC (v := (2)) dX10_readKnower_85 (by decide) (by decide) (fun x16_ e16 t16 => ?_)
        refine r_callV hC (As := [.int x16_]) (rest := []) (ci := 10) (c_X10_wrong g (xL X) K len I9 J9 R hs9 a0 ka0 x16_) mT_5_236 mT_1_10 mT_5_233 mT_5_235 mP_55 okX10_wrong ⟨by decide, by decide⟩ rfl (by show kO (K a0) = _; rw [ka0]; rfl) rfl rfl (Nat.le_of_ble_eq_true rfl) ⟨by decide, by decide⟩ dX10_readKnower_86 (aV1 (F := fun st M => P g X 3 89 [(1, .int x13_), (0, .ref a0)] st _ _ M) (M := (K, len, I9, J9, R)) fun I17 h17 => ?_)
        obtain ⟨hs17, hf17, k17_0, k17_1⟩ := h17
        show P g X 3 89 [(1, .int x13_), (0, .ref a0)] [] _ _ (K, len, I17, J9, R)
        have hF17 : Fr K [(10, 9), (10, 10), (11, 8), (11, 9), (11, 10), (11, 11), (11, 12), (11, 13), (41, 999)] I I17 := hF9.trans hf17 rfl rfl
        refine r_aload_n hC dX10_readKnower_89 1 rfl ?_
        refine r_callV hC (As := []) (rest := []) (ci := 10) (c_X10_goesOn g (xL X) K len I17 J9 R hs17 a0 ka0) mT_5_199 mT_1_10 mT_5_196 mT_5_198 mP_49 okX10_goesOn ⟨by decide, by decide⟩ rfl (by show kO (K a0) = _; rw [ka0]; rfl) rfl rfl (Nat.le_of_ble_eq_true rfl) ⟨by decide, by decide⟩ dX10_readKnower_90 (aV2 (F := fun st M => P g X 3 93 [(1, .int x13_), (0, .ref a0)] st _ _ M) (M := (K, len, I17, J9, R)) fun I18 J18 h18 => ?_)
        obtain ⟨hs18, hf18, hfj18, k18_0, k18_1, k18_2, k18_3⟩ := h18
        show P g X 3 93 [(1, .int x13_), (0, .ref a0)] [] _ _ (K, len, I18, J18, R)
        have hF18 : Fr K [(10, 9), (10, 10), (11, 8), (11, 9), (11, 10), (11, 11), (11, 12), (11, 13), (41, 999)] I I18 := hF17.trans hf18 rfl rfl
        have hFJ18 : Fr K [(11, 14), (42, 999)] J J18 := hFJ9.trans hfj18 rfl rfl
        refine r_aload_n hC dX10_readKnower_93 1 rfl ?_
        refine r_ldcwS hC (i := 59) (by decide) rfl rfl dX10_readKnower_94 ?_
        refine r_iconst hC (v := (0)) dX10_readKnower_97 (by decide) (by decide) (fun x19_ e19 t19 => ?_)
        refine r_sipush hC (v := (999)) dX10_readKnower_98 (by decide) (by decide) (fun x20_ e20 t20 => ?_)
        refine r_callV hC (As := [.ref (g.2.2.1 59), .int x19_, .int x20_]) (rest := []) (ci := 10) (c_X10_readPart g (xL X) K len I18 J18 R hs18 a0 ka0 59 (by decide) x19_ x20_) mT_6_1 mT_1_10 mT_5_238 mT_6_0 mP_56 okX10_readPart ⟨by decide, by decide⟩ rfl (by show kO (K a0) = _; rw [ka0]; rfl) rfl rfl (Nat.le_of_ble_eq_true rfl) ⟨by decide, by decide⟩ dX10_readKnower_101 (aI2 (F := fun st M => P g X 3 104 [(1, .int x13_), (0, .ref a0)] st _ _ M) (M := (K, len, I18, J18, R)) fun x21_ I21 J21 h21 => ?_)
        obtain ⟨hs21, hf21, hfj21, k21_0, k21_1, k21_2, k21_3⟩ := h21
        show P g X 3 104 [(1, .int x13_), (0, .ref a0)] [.int x21_] _ _ (K, len, I21, J21, R)
        have hF21 : Fr K [(10, 9), (10, 10), (11, 8), (11, 9), (11, 10), (11, 11), (11, 12), (11, 13), (41, 999)] I I21 := hF18.trans hf21 rfl rfl
        have hFJ21 : Fr K [(11, 14), (42, 999)] J J21 := hFJ18.trans hfj21 rfl rfl
        refine r_istore_n hC (lv' := [(2, .int x21_), (1, .int x13_), (0, .ref a0)]) dX10_readKnower_104 (by decide) rfl ?_
        refine r_aload_n hC dX10_readKnower_105 2 rfl ?_
        obtain ⟨A9, eA9⟩ : ∃ z : Int32, z = I21 a0 8 := ⟨_, rfl⟩
        have fA9 : A9.toInt = (I21 a0 8).toInt := by rw [eA9]
        have rA9 := hs21.rng ka0 rfl eA9
        refine r_geti hC 9 (ci := 10) rfl u10_in (by decide) mT_5_4 dX10_readKnower_106 ka0 rfl rfl (fun x22_ e22 => ?_)
        have f22 : x22_.toInt = (I21 a0 9).toInt := by rw [e22]
        refine r_iconst hC (v := (5)) dX10_readKnower_109 (by decide) (by decide) (fun x23_ e23 t23 => ?_)
        refine r_icmp_ne hC (tgt := 114) dX10_readKnower_110 (by decide) (fun c24 => ?_) (fun c24 => ?_)
        · refine r_aload_n hC dX10_readKnower_114 2 rfl ?_
          refine r_getr hC 4 (ci := 10) rfl u10_in (by decide) mT_4_239 dX10_readKnower_115 ka0 rfl rfl hbr ?_
          obtain ⟨a25_, hb25, hk25, hn25⟩ := hs21.row krm 23 41 4 (by decide) (by decide)
          refine r_getrN hC 23 (ci := 9) rfl u9_in (by decide) nF_23 dX10_readKnower_118 krm rfl rfl hb25 ?_
          refine r_aload_n hC dX10_readKnower_121 2 rfl ?_
          refine r_getr hC 4 (ci := 10) rfl u10_in (by decide) mT_4_239 dX10_readKnower_122 ka0 rfl rfl hbr ?_
          refine r_getiN hC 9 (ci := 9) rfl u9_in (by decide) nF_9 dX10_readKnower_125 krm rfl rfl (fun x26_ e26 => ?_)
          have r26 := hs21.rng krm rfl e26
          have f26 : x26_.toInt = (I21 rm 9).toInt := by rw [e26]
          have w26 : x26_ = x5_ := by rw [e26]; exact (Eq.trans (hf21.get krm rfl) (Eq.trans (hf18.get krm rfl) (Eq.trans (hf17.get krm rfl) (Eq.trans (hf9.get krm rfl) (Eq.trans (hf6.get krm rfl) e5.symm)))))
          have wt26 : x26_.toInt = x5_.toInt := by rw [w26]
          refine r_aload_n hC dX10_readKnower_128 2 rfl ?_
          refine r_getr hC 4 (ci := 10) rfl u10_in (by decide) mT_4_239 dX10_readKnower_129 ka0 rfl rfl hbr ?_
          obtain ⟨a27_, hb27, hk27, hn27⟩ := hs21.row krm 27 41 19 (by decide) (by decide)
          refine r_getrN hC 27 (ci := 9) rfl u9_in (by decide) nF_27 dX10_readKnower_132 krm rfl rfl hb27 ?_
          refine r_iload_n hC dX10_readKnower_135 1 rfl ?_
          refine x_iaload hC hk27 hn27 (by decide) rfl rfl dX10_readKnower_136 (by omega) (by omega) (fun x28_ e28 => ?_)
          refine x_iastore hC hk25 hn25 (by decide) rfl rfl dX10_readKnower_137 (by omega) (by omega) (fun I29 eI29 => ?_)
          have hs29 := hs21.put0 eI29 hk25 (rng_arr (by decide) _) rfl (xF_arr (by decide) _) (by decide)
          have hF29 := hF21.put eI29 hk25 (inS_arr rfl _)
          refine r_aload_n hC dX10_readKnower_138 2 rfl ?_
          refine r_getr hC 4 (ci := 10) rfl u10_in (by decide) mT_4_239 dX10_readKnower_139 ka0 rfl rfl hbr ?_
          obtain ⟨a30_, hb30, hk30, hn30⟩ := hs29.row krm 24 41 4 (by decide) (by decide)
          refine r_getrN hC 24 (ci := 9) rfl u9_in (by decide) nF_24 dX10_readKnower_142 krm rfl rfl hb30 ?_
          refine r_aload_n hC dX10_readKnower_145 2 rfl ?_
          refine r_getr hC 4 (ci := 10) rfl u10_in (by decide) mT_4_239 dX10_readKnower_146 ka0 rfl rfl hbr ?_
          refine r_getiN hC 9 (ci := 9) rfl u9_in (by decide) nF_9 dX10_readKnower_149 krm rfl rfl (fun x31_ e31 => ?_)
          have r31 := hs29.rng krm rfl e31
          have f31 : x31_.toInt = (I29 rm 9).toInt := by rw [e31]
          have w31 : x31_ = x26_ := by rw [e31]; exact (Eq.trans (up2_kk eI29 hk25 krm (by decide)) e26.symm)
          have wt31 : x31_.toInt = x26_.toInt := by rw [w31]
          refine r_iload_n hC dX10_readKnower_152 0 rfl ?_
          refine x_iastore hC hk30 hn30 (by decide) rfl rfl dX10_readKnower_153 (by omega) (by omega) (fun I32 eI32 => ?_)
          have hs32 := hs29.put0 eI32 hk30 (rng_arr (by decide) _) rfl (xF_arr (by decide) _) (by decide)
          have hF32 := hF29.put eI32 hk30 (inS_arr rfl _)
          refine r_aload_n hC dX10_readKnower_154 2 rfl ?_
          refine r_getr hC 4 (ci := 10) rfl u10_in (by decide) mT_4_239 dX10_readKnower_155 ka0 rfl rfl hbr ?_
          refine r_dup hC dX10_readKnower_158 rfl ?_
          refine r_getiN hC 9 (ci := 9) rfl u9_in (by decide) nF_9 dX10_readKnower_159 krm rfl rfl (fun x33_ e33 => ?_)
          have r33 := hs32.rng krm rfl e33
          have f33 : x33_.toInt = (I32 rm 9).toInt := by rw [e33]
          have w33 : x33_ = x31_ := by rw [e33]; exact (Eq.trans (up2_kk eI32 hk30 krm (by decide)) e31.symm)
          have wt33 : x33_.toInt = x31_.toInt := by rw [w33]
          refine r_iconst hC (v := (1)) dX10_readKnower_162 (by decide) (by decide) (fun x34_ e34 t34 => ?_)
          refine r_iadd hC dX10_readKnower_163 (fun x35_ e35 => ?_)
          try have t35 : x35_.toInt = x33_.toInt + x34_.toInt := by rw [e35]; exact ti_add (by omega) (by omega)
          refine r_putiN hC 9 (ci := 9) rfl u9_in tyX9_ok nmX9 (by decide) nF_9 rfl rfl rfl dX10_readKnower_164 krm rfl rfl (fun I36 eI36 => ?_)
          have hs36 := hs32.put1 eI36 krm rfl (by omega) (by omega) rfl rfl (by decide)
          have hF36 := hF32.put eI36 krm rfl
          have hG3 : I36 rm 3 = G3 := (Eq.trans (up2_at (Or.inr (by decide)) eI36) (Eq.trans (up2_kk eI32 hk30 krm (by decide)) (Eq.trans (up2_kk eI29 hk25 krm (by decide)) (Eq.trans (hf21.get krm rfl) (Eq.trans (hf18.get krm rfl) (Eq.trans (hf17.get krm rfl) (Eq.trans (hf9.get krm rfl) (Eq.trans (hf6.get krm rfl) (Eq.trans (hf3.get krm rfl) eG3.symm)))))))))
          have hG3t : (I36 rm 3).toInt = G3.toInt := congrArg Int32.toInt hG3
          have hG4 : I36 rm 4 = G4 := (Eq.trans (up2_at (Or.inr (by decide)) eI36) (Eq.trans (up2_kk eI32 hk30 krm (by decide)) (Eq.trans (up2_kk eI29 hk25 krm (by decide)) (Eq.trans (hf21.get krm rfl) (Eq.trans (hf18.get krm rfl) (Eq.trans (hf17.get krm rfl) (Eq.trans (hf9.get krm rfl) (Eq.trans (hf6.get krm rfl) (Eq.trans (hf3.get krm rfl) eG4.symm)))))))))
          have hG4t : (I36 rm 4).toInt = G4.toInt := congrArg Int32.toInt hG4
          have hG7 : I36 rm 7 = G7 := (Eq.trans (up2_at (Or.inr (by decide)) eI36) (Eq.trans (up2_kk eI32 hk30 krm (by decide)) (Eq.trans (up2_kk eI29 hk25 krm (by decide)) (Eq.trans (hf21.get krm rfl) (Eq.trans (hf18.get krm rfl) (Eq.trans (hf17.get krm rfl) (Eq.trans (hf9.get krm rfl) (Eq.trans (hf6.get krm rfl) (Eq.trans (hf3.get krm rfl) eG7.symm)))))))))
          have hG7t : (I36 rm 7).toInt = G7.toInt := congrArg Int32.toInt hG7
          have hG8 : I36 rm 8 = G8 := (Eq.trans (up2_at (Or.inr (by decide)) eI36) (Eq.trans (up2_kk eI32 hk30 krm (by decide)) (Eq.trans (up2_kk eI29 hk25 krm (by decide)) (Eq.trans (hf21.get krm rfl) (Eq.trans (hf18.get krm rfl) (Eq.trans (hf17.get krm rfl) (Eq.trans (hf9.get krm rfl) (Eq.trans (hf6.get krm rfl) (Eq.trans (hf3.get krm rfl) eG8.symm)))))))))
          have hG8t : (I36 rm 8).toInt = G8.toInt := congrArg Int32.toInt hG8
          have hG9 : I36 rm 9 = x35_ := (by rw [eI36]; exact up2_self _ _ _ _)
          have hG9t : (I36 rm 9).toInt = x35_.toInt := congrArg Int32.toInt hG9
          have hGN : I36 rm 10 = N1 := (Eq.trans (up2_at (Or.inr (by decide)) eI36) (Eq.trans (up2_kk eI32 hk30 krm (by decide)) (Eq.trans (up2_kk eI29 hk25 krm (by decide)) (Eq.trans (hf21.get krm rfl) (Eq.trans (hf18.get krm rfl) (Eq.trans (hf17.get krm rfl) (Eq.trans (hf9.get krm rfl) eN1.symm)))))))
          have hGNt : (I36 rm 10).toInt = N1.toInt := congrArg Int32.toInt hGN
          have hv8 : I36 a0 8 = A9 := (Eq.trans (up2_kk eI36 krm ka0 (by decide)) (Eq.trans (up2_kk eI32 hk30 ka0 (by decide)) (Eq.trans (up2_kk eI29 hk25 ka0 (by decide)) eA9.symm)))
          have hv8t : (I36 a0 8).toInt = A9.toInt := congrArg Int32.toInt hv8
          have hv9 : I36 a0 9 = x22_ := (Eq.trans (up2_kk eI36 krm ka0 (by decide)) (Eq.trans (up2_kk eI32 hk30 ka0 (by decide)) (Eq.trans (up2_kk eI29 hk25 ka0 (by decide)) e22.symm)))
          have hv9t : (I36 a0 9).toInt = x22_.toInt := congrArg Int32.toInt hv9
          exact r_vret hC hQ hlk hr (by decide) (by decide) dX10_readKnower_167 ⟨_, _, rfl, rfl, ⟨hs36, hF36, hFJ21, (by omega), (by omega), (by omega), (by omega)⟩⟩
        · have hG3 : I21 rm 3 = G3 := (Eq.trans (hf21.get krm rfl) (Eq.trans (hf18.get krm rfl) (Eq.trans (hf17.get krm rfl) (Eq.trans (hf9.get krm rfl) (Eq.trans (hf6.get krm rfl) (Eq.trans (hf3.get krm rfl) eG3.symm))))))
          have hG3t : (I21 rm 3).toInt = G3.toInt := congrArg Int32.toInt hG3
          have hG4 : I21 rm 4 = G4 := (Eq.trans (hf21.get krm rfl) (Eq.trans (hf18.get krm rfl) (Eq.trans (hf17.get krm rfl) (Eq.trans (hf9.get krm rfl) (Eq.trans (hf6.get krm rfl) (Eq.trans (hf3.get krm rfl) eG4.symm))))))
          have hG4t : (I21 rm 4).toInt = G4.toInt := congrArg Int32.toInt hG4
          have hG7 : I21 rm 7 = G7 := (Eq.trans (hf21.get krm rfl) (Eq.trans (hf18.get krm rfl) (Eq.trans (hf17.get krm rfl) (Eq.trans (hf9.get krm rfl) (Eq.trans (hf6.get krm rfl) (Eq.trans (hf3.get krm rfl) eG7.symm))))))
          have hG7t : (I21 rm 7).toInt = G7.toInt := congrArg Int32.toInt hG7
          have hG8 : I21 rm 8 = G8 := (Eq.trans (hf21.get krm rfl) (Eq.trans (hf18.get krm rfl) (Eq.trans (hf17.get krm rfl) (Eq.trans (hf9.get krm rfl) (Eq.trans (hf6.get krm rfl) (Eq.trans (hf3.get krm rfl) eG8.symm))))))
          have hG8t : (I21 rm 8).toInt = G8.toInt := congrArg Int32.toInt hG8
          have hG9 : I21 rm 9 = x5_ := (Eq.trans (hf21.get krm rfl) (Eq.trans (hf18.get krm rfl) (Eq.trans (hf17.get krm rfl) (Eq.trans (hf9.get krm rfl) (Eq.trans (hf6.get krm rfl) e5.symm)))))
          have hG9t : (I21 rm 9).toInt = x5_.toInt := congrArg Int32.toInt hG9
          have hGN : I21 rm 10 = N1 := (Eq.trans (hf21.get krm rfl) (Eq.trans (hf18.get krm rfl) (Eq.trans (hf17.get krm rfl) (Eq.trans (hf9.get krm rfl) eN1.symm))))
          have hGNt : (I21 rm 10).toInt = N1.toInt := congrArg Int32.toInt hGN
          have hv8 : I21 a0 8 = A9 := eA9.symm
          have hv8t : (I21 a0 8).toInt = A9.toInt := congrArg Int32.toInt hv8
          have hv9 : I21 a0 9 = x22_ := e22.symm
          have hv9t : (I21 a0 9).toInt = x22_.toInt := congrArg Int32.toInt hv9
          exact r_vret hC hQ hlk hr (by decide) (by decide) dX10_readKnower_113 ⟨_, _, rfl, rfl, ⟨hs21, hF21, hFJ21, (by omega), (by omega), (by omega), (by omega)⟩⟩
      · refine r_aload_n hC dX10_readKnower_72 1 rfl ?_
        refine r_getr hC 4 (ci := 10) rfl u10_in (by decide) mT_4_239 dX10_readKnower_73 ka0 rfl rfl hbr ?_
        obtain ⟨a37_, hb37, hk37, hn37⟩ := hs9.row krm 26 41 19 (by decide) (by decide)
        refine r_getrN hC 26 (ci := 9) rfl u9_in (by decide) nF_26 dX10_readKnower_76 krm rfl rfl hb37 ?_
        refine r_iload_n hC dX10_readKnower_79 0 rfl ?_
        refine x_iaload hC hk37 hn37 (by decide) rfl rfl dX10_readKnower_80 (by omega) (by omega) (fun x38_ e38 => ?_)
        refine r_if_eq hC (tgt := 89) dX10_readKnower_81 (by decide) (fun c39 => ?_) (fun c39 => ?_)
        · refine r_aload_n hC dX10_readKnower_89 1 rfl ?_
          refine r_callV hC (As := []) (rest := []) (ci := 10) (c_X10_goesOn g (xL X) K len I9 J9 R hs9 a0 ka0) mT_5_199 mT_1_10 mT_5_196 mT_5_198 mP_49 okX10_goesOn ⟨by decide, by decide⟩ rfl (by show kO (K a0) = _; rw [ka0]; rfl) rfl rfl (Nat.le_of_ble_eq_true rfl) ⟨by decide, by decide⟩ dX10_readKnower_90 (aV2 (F := fun st M => P g X 3 93 [(1, .int x13_), (0, .ref a0)] st _ _ M) (M := (K, len, I9, J9, R)) fun I40 J40 h40 => ?_)
          obtain ⟨hs40, hf40, hfj40, k40_0, k40_1, k40_2, k40_3⟩ := h40
          show P g X 3 93 [(1, .int x13_), (0, .ref a0)] [] _ _ (K, len, I40, J40, R)
          have hF40 : Fr K [(10, 9), (10, 10), (11, 8), (11, 9), (11, 10), (11, 11), (11, 12), (11, 13), (41, 999)] I I40 := hF9.trans hf40 rfl rfl
          have hFJ40 : Fr K [(11, 14), (42, 999)] J J40 := hFJ9.trans hfj40 rfl rfl
          refine r_aload_n hC dX10_readKnower_93 1 rfl ?_
          refine r_ldcwS hC (i := 59) (by decide) rfl rfl dX10_readKnower_94 ?_
          refine r_iconst hC (v := (0)) dX10_readKnower_97 (by decide) (by decide) (fun x41_ e41 t41 => ?_)
          refine r_sipush hC (v := (999)) dX10_readKnower_98 (by decide) (by decide) (fun x42_ e42 t42 => ?_)
          refine r_callV hC (As := [.ref (g.2.2.1 59), .int x41_, .int x42_]) (rest := []) (ci := 10) (c_X10_readPart g (xL X) K len I40 J40 R hs40 a0 ka0 59 (by decide) x41_ x42_) mT_6_1 mT_1_10 mT_5_238 mT_6_0 mP_56 okX10_readPart ⟨by decide, by decide⟩ rfl (by show kO (K a0) = _; rw [ka0]; rfl) rfl rfl (Nat.le_of_ble_eq_true rfl) ⟨by decide, by decide⟩ dX10_readKnower_101 (aI2 (F := fun st M => P g X 3 104 [(1, .int x13_), (0, .ref a0)] st _ _ M) (M := (K, len, I40, J40, R)) fun x43_ I43 J43 h43 => ?_)
          obtain ⟨hs43, hf43, hfj43, k43_0, k43_1, k43_2, k43_3⟩ := h43
          show P g X 3 104 [(1, .int x13_), (0, .ref a0)] [.int x43_] _ _ (K, len, I43, J43, R)
          have hF43 : Fr K [(10, 9), (10, 10), (11, 8), (11, 9), (11, 10), (11, 11), (11, 12), (11, 13), (41, 999)] I I43 := hF40.trans hf43 rfl rfl
          have hFJ43 : Fr K [(11, 14), (42, 999)] J J43 := hFJ40.trans hfj43 rfl rfl
          refine r_istore_n hC (lv' := [(2, .int x43_), (1, .int x13_), (0, .ref a0)]) dX10_readKnower_104 (by decide) rfl ?_
          refine r_aload_n hC dX10_readKnower_105 2 rfl ?_
          obtain ⟨A9, eA9⟩ : ∃ z : Int32, z = I43 a0 8 := ⟨_, rfl⟩
          have fA9 : A9.toInt = (I43 a0 8).toInt := by rw [eA9]
          have rA9 := hs43.rng ka0 rfl eA9
          refine r_geti hC 9 (ci := 10) rfl u10_in (by decide) mT_5_4 dX10_readKnower_106 ka0 rfl rfl (fun x44_ e44 => ?_)
          have f44 : x44_.toInt = (I43 a0 9).toInt := by rw [e44]
          refine r_iconst hC (v := (5)) dX10_readKnower_109 (by decide) (by decide) (fun x45_ e45 t45 => ?_)
          refine r_icmp_ne hC (tgt := 114) dX10_readKnower_110 (by decide) (fun c46 => ?_) (fun c46 => ?_)
          · refine r_aload_n hC dX10_readKnower_114 2 rfl ?_
            refine r_getr hC 4 (ci := 10) rfl u10_in (by decide) mT_4_239 dX10_readKnower_115 ka0 rfl rfl hbr ?_
            obtain ⟨a47_, hb47, hk47, hn47⟩ := hs43.row krm 23 41 4 (by decide) (by decide)
            refine r_getrN hC 23 (ci := 9) rfl u9_in (by decide) nF_23 dX10_readKnower_118 krm rfl rfl hb47 ?_
            refine r_aload_n hC dX10_readKnower_121 2 rfl ?_
            refine r_getr hC 4 (ci := 10) rfl u10_in (by decide) mT_4_239 dX10_readKnower_122 ka0 rfl rfl hbr ?_
            refine r_getiN hC 9 (ci := 9) rfl u9_in (by decide) nF_9 dX10_readKnower_125 krm rfl rfl (fun x48_ e48 => ?_)
            have r48 := hs43.rng krm rfl e48
            have f48 : x48_.toInt = (I43 rm 9).toInt := by rw [e48]
            have w48 : x48_ = x5_ := by rw [e48]; exact (Eq.trans (hf43.get krm rfl) (Eq.trans (hf40.get krm rfl) (Eq.trans (hf9.get krm rfl) (Eq.trans (hf6.get krm rfl) e5.symm))))
            have wt48 : x48_.toInt = x5_.toInt := by rw [w48]
            refine r_aload_n hC dX10_readKnower_128 2 rfl ?_
            refine r_getr hC 4 (ci := 10) rfl u10_in (by decide) mT_4_239 dX10_readKnower_129 ka0 rfl rfl hbr ?_
            obtain ⟨a49_, hb49, hk49, hn49⟩ := hs43.row krm 27 41 19 (by decide) (by decide)
            refine r_getrN hC 27 (ci := 9) rfl u9_in (by decide) nF_27 dX10_readKnower_132 krm rfl rfl hb49 ?_
            refine r_iload_n hC dX10_readKnower_135 1 rfl ?_
            refine x_iaload hC hk49 hn49 (by decide) rfl rfl dX10_readKnower_136 (by omega) (by omega) (fun x50_ e50 => ?_)
            refine x_iastore hC hk47 hn47 (by decide) rfl rfl dX10_readKnower_137 (by omega) (by omega) (fun I51 eI51 => ?_)
            have hs51 := hs43.put0 eI51 hk47 (rng_arr (by decide) _) rfl (xF_arr (by decide) _) (by decide)
            have hF51 := hF43.put eI51 hk47 (inS_arr rfl _)
            refine r_aload_n hC dX10_readKnower_138 2 rfl ?_
            refine r_getr hC 4 (ci := 10) rfl u10_in (by decide) mT_4_239 dX10_readKnower_139 ka0 rfl rfl hbr ?_
            obtain ⟨a52_, hb52, hk52, hn52⟩ := hs51.row krm 24 41 4 (by decide) (by decide)
            refine r_getrN hC 24 (ci := 9) rfl u9_in (by decide) nF_24 dX10_readKnower_142 krm rfl rfl hb52 ?_
            refine r_aload_n hC dX10_readKnower_145 2 rfl ?_
            refine r_getr hC 4 (ci := 10) rfl u10_in (by decide) mT_4_239 dX10_readKnower_146 ka0 rfl rfl hbr ?_
            refine r_getiN hC 9 (ci := 9) rfl u9_in (by decide) nF_9 dX10_readKnower_149 krm rfl rfl (fun x53_ e53 => ?_)
            have r53 := hs51.rng krm rfl e53
            have f53 : x53_.toInt = (I51 rm 9).toInt := by rw [e53]
            have w53 : x53_ = x48_ := by rw [e53]; exact (Eq.trans (up2_kk eI51 hk47 krm (by decide)) e48.symm)
            have wt53 : x53_.toInt = x48_.toInt := by rw [w53]
            refine r_iload_n hC dX10_readKnower_152 0 rfl ?_
            refine x_iastore hC hk52 hn52 (by decide) rfl rfl dX10_readKnower_153 (by omega) (by omega) (fun I54 eI54 => ?_)
            have hs54 := hs51.put0 eI54 hk52 (rng_arr (by decide) _) rfl (xF_arr (by decide) _) (by decide)
            have hF54 := hF51.put eI54 hk52 (inS_arr rfl _)
            refine r_aload_n hC dX10_readKnower_154 2 rfl ?_
            refine r_getr hC 4 (ci := 10) rfl u10_in (by decide) mT_4_239 dX10_readKnower_155 ka0 rfl rfl hbr ?_
            refine r_dup hC dX10_readKnower_158 rfl ?_
            refine r_getiN hC 9 (ci := 9) rfl u9_in (by decide) nF_9 dX10_readKnower_159 krm rfl rfl (fun x55_ e55 => ?_)
            have r55 := hs54.rng krm rfl e55
            have f55 : x55_.toInt = (I54 rm 9).toInt := by rw [e55]
            have w55 : x55_ = x53_ := by rw [e55]; exact (Eq.trans (up2_kk eI54 hk52 krm (by decide)) e53.symm)
            have wt55 : x55_.toInt = x53_.toInt := by rw [w55]
            refine r_iconst hC (v := (1)) dX10_readKnower_162 (by decide) (by decide) (fun x56_ e56 t56 => ?_)
            refine r_iadd hC dX10_readKnower_163 (fun x57_ e57 => ?_)
            try have t57 : x57_.toInt = x55_.toInt + x56_.toInt := by rw [e57]; exact ti_add (by omega) (by omega)
            refine r_putiN hC 9 (ci := 9) rfl u9_in tyX9_ok nmX9 (by decide) nF_9 rfl rfl rfl dX10_readKnower_164 krm rfl rfl (fun I58 eI58 => ?_)
            have hs58 := hs54.put1 eI58 krm rfl (by omega) (by omega) rfl rfl (by decide)
            have hF58 := hF54.put eI58 krm rfl
            have hG3 : I58 rm 3 = G3 := (Eq.trans (up2_at (Or.inr (by decide)) eI58) (Eq.trans (up2_kk eI54 hk52 krm (by decide)) (Eq.trans (up2_kk eI51 hk47 krm (by decide)) (Eq.trans (hf43.get krm rfl) (Eq.trans (hf40.get krm rfl) (Eq.trans (hf9.get krm rfl) (Eq.trans (hf6.get krm rfl) (Eq.trans (hf3.get krm rfl) eG3.symm))))))))
            have hG3t : (I58 rm 3).toInt = G3.toInt := congrArg Int32.toInt hG3
            have hG4 : I58 rm 4 = G4 := (Eq.trans (up2_at (Or.inr (by decide)) eI58) (Eq.trans (up2_kk eI54 hk52 krm (by decide)) (Eq.trans (up2_kk eI51 hk47 krm (by decide)) (Eq.trans (hf43.get krm rfl) (Eq.trans (hf40.get krm rfl) (Eq.trans (hf9.get krm rfl) (Eq.trans (hf6.get krm rfl) (Eq.trans (hf3.get krm rfl) eG4.symm))))))))
            have hG4t : (I58 rm 4).toInt = G4.toInt := congrArg Int32.toInt hG4
            have hG7 : I58 rm 7 = G7 := (Eq.trans (up2_at (Or.inr (by decide)) eI58) (Eq.trans (up2_kk eI54 hk52 krm (by decide)) (Eq.trans (up2_kk eI51 hk47 krm (by decide)) (Eq.trans (hf43.get krm rfl) (Eq.trans (hf40.get krm rfl) (Eq.trans (hf9.get krm rfl) (Eq.trans (hf6.get krm rfl) (Eq.trans (hf3.get krm rfl) eG7.symm))))))))
            have hG7t : (I58 rm 7).toInt = G7.toInt := congrArg Int32.toInt hG7
            have hG8 : I58 rm 8 = G8 := (Eq.trans (up2_at (Or.inr (by decide)) eI58) (Eq.trans (up2_kk eI54 hk52 krm (by decide)) (Eq.trans (up2_kk eI51 hk47 krm (by decide)) (Eq.trans (hf43.get krm rfl) (Eq.trans (hf40.get krm rfl) (Eq.trans (hf9.get krm rfl) (Eq.trans (hf6.get krm rfl) (Eq.trans (hf3.get krm rfl) eG8.symm))))))))
            have hG8t : (I58 rm 8).toInt = G8.toInt := congrArg Int32.toInt hG8
            have hG9 : I58 rm 9 = x57_ := (by rw [eI58]; exact up2_self _ _ _ _)
            have hG9t : (I58 rm 9).toInt = x57_.toInt := congrArg Int32.toInt hG9
            have hGN : I58 rm 10 = N1 := (Eq.trans (up2_at (Or.inr (by decide)) eI58) (Eq.trans (up2_kk eI54 hk52 krm (by decide)) (Eq.trans (up2_kk eI51 hk47 krm (by decide)) (Eq.trans (hf43.get krm rfl) (Eq.trans (hf40.get krm rfl) (Eq.trans (hf9.get krm rfl) eN1.symm))))))
            have hGNt : (I58 rm 10).toInt = N1.toInt := congrArg Int32.toInt hGN
            have hv8 : I58 a0 8 = A9 := (Eq.trans (up2_kk eI58 krm ka0 (by decide)) (Eq.trans (up2_kk eI54 hk52 ka0 (by decide)) (Eq.trans (up2_kk eI51 hk47 ka0 (by decide)) eA9.symm)))
            have hv8t : (I58 a0 8).toInt = A9.toInt := congrArg Int32.toInt hv8
            have hv9 : I58 a0 9 = x44_ := (Eq.trans (up2_kk eI58 krm ka0 (by decide)) (Eq.trans (up2_kk eI54 hk52 ka0 (by decide)) (Eq.trans (up2_kk eI51 hk47 ka0 (by decide)) e44.symm)))
            have hv9t : (I58 a0 9).toInt = x44_.toInt := congrArg Int32.toInt hv9
            exact r_vret hC hQ hlk hr (by decide) (by decide) dX10_readKnower_167 ⟨_, _, rfl, rfl, ⟨hs58, hF58, hFJ43, (by omega), (by omega), (by omega), (by omega)⟩⟩
          · have hG3 : I43 rm 3 = G3 := (Eq.trans (hf43.get krm rfl) (Eq.trans (hf40.get krm rfl) (Eq.trans (hf9.get krm rfl) (Eq.trans (hf6.get krm rfl) (Eq.trans (hf3.get krm rfl) eG3.symm)))))
            have hG3t : (I43 rm 3).toInt = G3.toInt := congrArg Int32.toInt hG3
            have hG4 : I43 rm 4 = G4 := (Eq.trans (hf43.get krm rfl) (Eq.trans (hf40.get krm rfl) (Eq.trans (hf9.get krm rfl) (Eq.trans (hf6.get krm rfl) (Eq.trans (hf3.get krm rfl) eG4.symm)))))
            have hG4t : (I43 rm 4).toInt = G4.toInt := congrArg Int32.toInt hG4
            have hG7 : I43 rm 7 = G7 := (Eq.trans (hf43.get krm rfl) (Eq.trans (hf40.get krm rfl) (Eq.trans (hf9.get krm rfl) (Eq.trans (hf6.get krm rfl) (Eq.trans (hf3.get krm rfl) eG7.symm)))))
            have hG7t : (I43 rm 7).toInt = G7.toInt := congrArg Int32.toInt hG7
            have hG8 : I43 rm 8 = G8 := (Eq.trans (hf43.get krm rfl) (Eq.trans (hf40.get krm rfl) (Eq.trans (hf9.get krm rfl) (Eq.trans (hf6.get krm rfl) (Eq.trans (hf3.get krm rfl) eG8.symm)))))
            have hG8t : (I43 rm 8).toInt = G8.toInt := congrArg Int32.toInt hG8
            have hG9 : I43 rm 9 = x5_ := (Eq.trans (hf43.get krm rfl) (Eq.trans (hf40.get krm rfl) (Eq.trans (hf9.get krm rfl) (Eq.trans (hf6.get krm rfl) e5.symm))))
            have hG9t : (I43 rm 9).toInt = x5_.toInt := congrArg Int32.toInt hG9
            have hGN : I43 rm 10 = N1 := (Eq.trans (hf43.get krm rfl) (Eq.trans (hf40.get krm rfl) (Eq.trans (hf9.get krm rfl) eN1.symm)))
            have hGNt : (I43 rm 10).toInt = N1.toInt := congrArg Int32.toInt hGN
            have hv8 : I43 a0 8 = A9 := eA9.symm
            have hv8t : (I43 a0 8).toInt = A9.toInt := congrArg Int32.toInt hv8
            have hv9 : I43 a0 9 = x44_ := e44.symm
            have hv9t : (I43 a0 9).toInt = x44_.toInt := congrArg Int32.toInt hv9
            exact r_vret hC hQ hlk hr (by decide) (by decide) dX10_readKnower_113 ⟨_, _, rfl, rfl, ⟨hs43, hF43, hFJ43, (by omega), (by omega), (by omega), (by omega)⟩⟩
        · refine r_aload_n hC dX10_readKnower_84 1 rfl ?_
          refine r_iconst hC (v := (2)) dX10_readKnower_85 (by decide) (by decide) (fun x59_ e59 t59 => ?_)
          refine r_callV hC (As := [.int x59_]) (rest := []) (ci := 10) (c_X10_wrong g (xL X) K len I9 J9 R hs9 a0 ka0 x59_) mT_5_236 mT_1_10 mT_5_233 mT_5_235 mP_55 okX10_wrong ⟨by decide, by decide⟩ rfl (by show kO (K a0) = _; rw [ka0]; rfl) rfl rfl (Nat.le_of_ble_eq_true rfl) ⟨by decide, by decide⟩ dX10_readKnower_86 (aV1 (F := fun st M => P g X 3 89 [(1, .int x13_), (0, .ref a0)] st _ _ M) (M := (K, len, I9, J9, R)) fun I60 h60 => ?_)
          obtain ⟨hs60, hf60, k60_0, k60_1⟩ := h60
          show P g X 3 89 [(1, .int x13_), (0, .ref a0)] [] _ _ (K, len, I60, J9, R)
          have hF60 : Fr K [(10, 9), (10, 10), (11, 8), (11, 9), (11, 10), (11, 11), (11, 12), (11, 13), (41, 999)] I I60 := hF9.trans hf60 rfl rfl
          refine r_aload_n hC dX10_readKnower_89 1 rfl ?_
          refine r_callV hC (As := []) (rest := []) (ci := 10) (c_X10_goesOn g (xL X) K len I60 J9 R hs60 a0 ka0) mT_5_199 mT_1_10 mT_5_196 mT_5_198 mP_49 okX10_goesOn ⟨by decide, by decide⟩ rfl (by show kO (K a0) = _; rw [ka0]; rfl) rfl rfl (Nat.le_of_ble_eq_true rfl) ⟨by decide, by decide⟩ dX10_readKnower_90 (aV2 (F := fun st M => P g X 3 93 [(1, .int x13_), (0, .ref a0)] st _ _ M) (M := (K, len, I60, J9, R)) fun I61 J61 h61 => ?_)
          obtain ⟨hs61, hf61, hfj61, k61_0, k61_1, k61_2, k61_3⟩ := h61
          show P g X 3 93 [(1, .int x13_), (0, .ref a0)] [] _ _ (K, len, I61, J61, R)
          have hF61 : Fr K [(10, 9), (10, 10), (11, 8), (11, 9), (11, 10), (11, 11), (11, 12), (11, 13), (41, 999)] I I61 := hF60.trans hf61 rfl rfl
          have hFJ61 : Fr K [(11, 14), (42, 999)] J J61 := hFJ9.trans hfj61 rfl rfl
          refine r_aload_n hC dX10_readKnower_93 1 rfl ?_
          refine r_ldcwS hC (i := 59) (by decide) rfl rfl dX10_readKnower_94 ?_
          refine r_iconst hC (v := (0)) dX10_readKnower_97 (by decide) (by decide) (fun x62_ e62 t62 => ?_)
          refine r_sipush hC (v := (999)) dX10_readKnower_98 (by decide) (by decide) (fun x63_ e63 t63 => ?_)
          refine r_callV hC (As := [.ref (g.2.2.1 59), .int x62_, .int x63_]) (rest := []) (ci := 10) (c_X10_readPart g (xL X) K len I61 J61 R hs61 a0 ka0 59 (by decide) x62_ x63_) mT_6_1 mT_1_10 mT_5_238 mT_6_0 mP_56 okX10_readPart ⟨by decide, by decide⟩ rfl (by show kO (K a0) = _; rw [ka0]; rfl) rfl rfl (Nat.le_of_ble_eq_true rfl) ⟨by decide, by decide⟩ dX10_readKnower_101 (aI2 (F := fun st M => P g X 3 104 [(1, .int x13_), (0, .ref a0)] st _ _ M) (M := (K, len, I61, J61, R)) fun x64_ I64 J64 h64 => ?_)
          obtain ⟨hs64, hf64, hfj64, k64_0, k64_1, k64_2, k64_3⟩ := h64
          show P g X 3 104 [(1, .int x13_), (0, .ref a0)] [.int x64_] _ _ (K, len, I64, J64, R)
          have hF64 : Fr K [(10, 9), (10, 10), (11, 8), (11, 9), (11, 10), (11, 11), (11, 12), (11, 13), (41, 999)] I I64 := hF61.trans hf64 rfl rfl
          have hFJ64 : Fr K [(11, 14), (42, 999)] J J64 := hFJ61.trans hfj64 rfl rfl
          refine r_istore_n hC (lv' := [(2, .int x64_), (1, .int x13_), (0, .ref a0)]) dX10_readKnower_104 (by decide) rfl ?_
          refine r_aload_n hC dX10_readKnower_105 2 rfl ?_
          obtain ⟨A9, eA9⟩ : ∃ z : Int32, z = I64 a0 8 := ⟨_, rfl⟩
          have fA9 : A9.toInt = (I64 a0 8).toInt := by rw [eA9]
          have rA9 := hs64.rng ka0 rfl eA9
          refine r_geti hC 9 (ci := 10) rfl u10_in (by decide) mT_5_4 dX10_readKnower_106 ka0 rfl rfl (fun x65_ e65 => ?_)
          have f65 : x65_.toInt = (I64 a0 9).toInt := by rw [e65]
          refine r_iconst hC (v := (5)) dX10_readKnower_109 (by decide) (by decide) (fun x66_ e66 t66 => ?_)
          refine r_icmp_ne hC (tgt := 114) dX10_readKnower_110 (by decide) (fun c67 => ?_) (fun c67 => ?_)
          · refine r_aload_n hC dX10_readKnower_114 2 rfl ?_
            refine r_getr hC 4 (ci := 10) rfl u10_in (by decide) mT_4_239 dX10_readKnower_115 ka0 rfl rfl hbr ?_
            obtain ⟨a68_, hb68, hk68, hn68⟩ := hs64.row krm 23 41 4 (by decide) (by decide)
            refine r_getrN hC 23 (ci := 9) rfl u9_in (by decide) nF_23 dX10_readKnower_118 krm rfl rfl hb68 ?_
            refine r_aload_n hC dX10_readKnower_121 2 rfl ?_
            refine r_getr hC 4 (ci := 10) rfl u10_in (by decide) mT_4_239 dX10_readKnower_122 ka0 rfl rfl hbr ?_
            refine r_getiN hC 9 (ci := 9) rfl u9_in (by decide) nF_9 dX10_readKnower_125 krm rfl rfl (fun x69_ e69 => ?_)
            have r69 := hs64.rng krm rfl e69
            have f69 : x69_.toInt = (I64 rm 9).toInt := by rw [e69]
            have w69 : x69_ = x5_ := by rw [e69]; exact (Eq.trans (hf64.get krm rfl) (Eq.trans (hf61.get krm rfl) (Eq.trans (hf60.get krm rfl) (Eq.trans (hf9.get krm rfl) (Eq.trans (hf6.get krm rfl) e5.symm)))))
            have wt69 : x69_.toInt = x5_.toInt := by rw [w69]
            refine r_aload_n hC dX10_readKnower_128 2 rfl ?_
            refine r_getr hC 4 (ci := 10) rfl u10_in (by decide) mT_4_239 dX10_readKnower_129 ka0 rfl rfl hbr ?_
            obtain ⟨a70_, hb70, hk70, hn70⟩ := hs64.row krm 27 41 19 (by decide) (by decide)
            refine r_getrN hC 27 (ci := 9) rfl u9_in (by decide) nF_27 dX10_readKnower_132 krm rfl rfl hb70 ?_
            refine r_iload_n hC dX10_readKnower_135 1 rfl ?_
            refine x_iaload hC hk70 hn70 (by decide) rfl rfl dX10_readKnower_136 (by omega) (by omega) (fun x71_ e71 => ?_)
            refine x_iastore hC hk68 hn68 (by decide) rfl rfl dX10_readKnower_137 (by omega) (by omega) (fun I72 eI72 => ?_)
            have hs72 := hs64.put0 eI72 hk68 (rng_arr (by decide) _) rfl (xF_arr (by decide) _) (by decide)
            have hF72 := hF64.put eI72 hk68 (inS_arr rfl _)
            refine r_aload_n hC dX10_readKnower_138 2 rfl ?_
            refine r_getr hC 4 (ci := 10) rfl u10_in (by decide) mT_4_239 dX10_readKnower_139 ka0 rfl rfl hbr ?_
            obtain ⟨a73_, hb73, hk73, hn73⟩ := hs72.row krm 24 41 4 (by decide) (by decide)
            refine r_getrN hC 24 (ci := 9) rfl u9_in (by decide) nF_24 dX10_readKnower_142 krm rfl rfl hb73 ?_
            refine r_aload_n hC dX10_readKnower_145 2 rfl ?_
            refine r_getr hC 4 (ci := 10) rfl u10_in (by decide) mT_4_239 dX10_readKnower_146 ka0 rfl rfl hbr ?_
            refine r_getiN hC 9 (ci := 9) rfl u9_in (by decide) nF_9 dX10_readKnower_149 krm rfl rfl (fun x74_ e74 => ?_)
            have r74 := hs72.rng krm rfl e74
            have f74 : x74_.toInt = (I72 rm 9).toInt := by rw [e74]
            have w74 : x74_ = x69_ := by rw [e74]; exact (Eq.trans (up2_kk eI72 hk68 krm (by decide)) e69.symm)
            have wt74 : x74_.toInt = x69_.toInt := by rw [w74]
            refine r_iload_n hC dX10_readKnower_152 0 rfl ?_
            refine x_iastore hC hk73 hn73 (by decide) rfl rfl dX10_readKnower_153 (by omega) (by omega) (fun I75 eI75 => ?_)
            have hs75 := hs72.put0 eI75 hk73 (rng_arr (by decide) _) rfl (xF_arr (by decide) _) (by decide)
            have hF75 := hF72.put eI75 hk73 (inS_arr rfl _)
            refine r_aload_n hC dX10_readKnower_154 2 rfl ?_
            refine r_getr hC 4 (ci := 10) rfl u10_in (by decide) mT_4_239 dX10_readKnower_155 ka0 rfl rfl hbr ?_
            refine r_dup hC dX10_readKnower_158 rfl ?_
            refine r_getiN hC 9 (ci := 9) rfl u9_in (by decide) nF_9 dX10_readKnower_159 krm rfl rfl (fun x76_ e76 => ?_)
            have r76 := hs75.rng krm rfl e76
            have f76 : x76_.toInt = (I75 rm 9).toInt := by rw [e76]
            have w76 : x76_ = x74_ := by rw [e76]; exact (Eq.trans (up2_kk eI75 hk73 krm (by decide)) e74.symm)
            have wt76 : x76_.toInt = x74_.toInt := by rw [w76]
            refine r_iconst hC (v := (1)) dX10_readKnower_162 (by decide) (by decide) (fun x77_ e77 t77 => ?_)
            refine r_iadd hC dX10_readKnower_163 (fun x78_ e78 => ?_)
            try have t78 : x78_.toInt = x76_.toInt + x77_.toInt := by rw [e78]; exact ti_add (by omega) (by omega)
            refine r_putiN hC 9 (ci := 9) rfl u9_in tyX9_ok nmX9 (by decide) nF_9 rfl rfl rfl dX10_readKnower_164 krm rfl rfl (fun I79 eI79 => ?_)
            have hs79 := hs75.put1 eI79 krm rfl (by omega) (by omega) rfl rfl (by decide)
            have hF79 := hF75.put eI79 krm rfl
            have hG3 : I79 rm 3 = G3 := (Eq.trans (up2_at (Or.inr (by decide)) eI79) (Eq.trans (up2_kk eI75 hk73 krm (by decide)) (Eq.trans (up2_kk eI72 hk68 krm (by decide)) (Eq.trans (hf64.get krm rfl) (Eq.trans (hf61.get krm rfl) (Eq.trans (hf60.get krm rfl) (Eq.trans (hf9.get krm rfl) (Eq.trans (hf6.get krm rfl) (Eq.trans (hf3.get krm rfl) eG3.symm)))))))))
            have hG3t : (I79 rm 3).toInt = G3.toInt := congrArg Int32.toInt hG3
            have hG4 : I79 rm 4 = G4 := (Eq.trans (up2_at (Or.inr (by decide)) eI79) (Eq.trans (up2_kk eI75 hk73 krm (by decide)) (Eq.trans (up2_kk eI72 hk68 krm (by decide)) (Eq.trans (hf64.get krm rfl) (Eq.trans (hf61.get krm rfl) (Eq.trans (hf60.get krm rfl) (Eq.trans (hf9.get krm rfl) (Eq.trans (hf6.get krm rfl) (Eq.trans (hf3.get krm rfl) eG4.symm)))))))))
            have hG4t : (I79 rm 4).toInt = G4.toInt := congrArg Int32.toInt hG4
            have hG7 : I79 rm 7 = G7 := (Eq.trans (up2_at (Or.inr (by decide)) eI79) (Eq.trans (up2_kk eI75 hk73 krm (by decide)) (Eq.trans (up2_kk eI72 hk68 krm (by decide)) (Eq.trans (hf64.get krm rfl) (Eq.trans (hf61.get krm rfl) (Eq.trans (hf60.get krm rfl) (Eq.trans (hf9.get krm rfl) (Eq.trans (hf6.get krm rfl) (Eq.trans (hf3.get krm rfl) eG7.symm)))))))))
            have hG7t : (I79 rm 7).toInt = G7.toInt := congrArg Int32.toInt hG7
            have hG8 : I79 rm 8 = G8 := (Eq.trans (up2_at (Or.inr (by decide)) eI79) (Eq.trans (up2_kk eI75 hk73 krm (by decide)) (Eq.trans (up2_kk eI72 hk68 krm (by decide)) (Eq.trans (hf64.get krm rfl) (Eq.trans (hf61.get krm rfl) (Eq.trans (hf60.get krm rfl) (Eq.trans (hf9.get krm rfl) (Eq.trans (hf6.get krm rfl) (Eq.trans (hf3.get krm rfl) eG8.symm)))))))))
            have hG8t : (I79 rm 8).toInt = G8.toInt := congrArg Int32.toInt hG8
            have hG9 : I79 rm 9 = x78_ := (by rw [eI79]; exact up2_self _ _ _ _)
            have hG9t : (I79 rm 9).toInt = x78_.toInt := congrArg Int32.toInt hG9
            have hGN : I79 rm 10 = N1 := (Eq.trans (up2_at (Or.inr (by decide)) eI79) (Eq.trans (up2_kk eI75 hk73 krm (by decide)) (Eq.trans (up2_kk eI72 hk68 krm (by decide)) (Eq.trans (hf64.get krm rfl) (Eq.trans (hf61.get krm rfl) (Eq.trans (hf60.get krm rfl) (Eq.trans (hf9.get krm rfl) eN1.symm)))))))
            have hGNt : (I79 rm 10).toInt = N1.toInt := congrArg Int32.toInt hGN
            have hv8 : I79 a0 8 = A9 := (Eq.trans (up2_kk eI79 krm ka0 (by decide)) (Eq.trans (up2_kk eI75 hk73 ka0 (by decide)) (Eq.trans (up2_kk eI72 hk68 ka0 (by decide)) eA9.symm)))
            have hv8t : (I79 a0 8).toInt = A9.toInt := congrArg Int32.toInt hv8
            have hv9 : I79 a0 9 = x65_ := (Eq.trans (up2_kk eI79 krm ka0 (by decide)) (Eq.trans (up2_kk eI75 hk73 ka0 (by decide)) (Eq.trans (up2_kk eI72 hk68 ka0 (by decide)) e65.symm)))
            have hv9t : (I79 a0 9).toInt = x65_.toInt := congrArg Int32.toInt hv9
            exact r_vret hC hQ hlk hr (by decide) (by decide) dX10_readKnower_167 ⟨_, _, rfl, rfl, ⟨hs79, hF79, hFJ64, (by omega), (by omega), (by omega), (by omega)⟩⟩
          · have hG3 : I64 rm 3 = G3 := (Eq.trans (hf64.get krm rfl) (Eq.trans (hf61.get krm rfl) (Eq.trans (hf60.get krm rfl) (Eq.trans (hf9.get krm rfl) (Eq.trans (hf6.get krm rfl) (Eq.trans (hf3.get krm rfl) eG3.symm))))))
            have hG3t : (I64 rm 3).toInt = G3.toInt := congrArg Int32.toInt hG3
            have hG4 : I64 rm 4 = G4 := (Eq.trans (hf64.get krm rfl) (Eq.trans (hf61.get krm rfl) (Eq.trans (hf60.get krm rfl) (Eq.trans (hf9.get krm rfl) (Eq.trans (hf6.get krm rfl) (Eq.trans (hf3.get krm rfl) eG4.symm))))))
            have hG4t : (I64 rm 4).toInt = G4.toInt := congrArg Int32.toInt hG4
            have hG7 : I64 rm 7 = G7 := (Eq.trans (hf64.get krm rfl) (Eq.trans (hf61.get krm rfl) (Eq.trans (hf60.get krm rfl) (Eq.trans (hf9.get krm rfl) (Eq.trans (hf6.get krm rfl) (Eq.trans (hf3.get krm rfl) eG7.symm))))))
            have hG7t : (I64 rm 7).toInt = G7.toInt := congrArg Int32.toInt hG7
            have hG8 : I64 rm 8 = G8 := (Eq.trans (hf64.get krm rfl) (Eq.trans (hf61.get krm rfl) (Eq.trans (hf60.get krm rfl) (Eq.trans (hf9.get krm rfl) (Eq.trans (hf6.get krm rfl) (Eq.trans (hf3.get krm rfl) eG8.symm))))))
            have hG8t : (I64 rm 8).toInt = G8.toInt := congrArg Int32.toInt hG8
            have hG9 : I64 rm 9 = x5_ := (Eq.trans (hf64.get krm rfl) (Eq.trans (hf61.get krm rfl) (Eq.trans (hf60.get krm rfl) (Eq.trans (hf9.get krm rfl) (Eq.trans (hf6.get krm rfl) e5.symm)))))
            have hG9t : (I64 rm 9).toInt = x5_.toInt := congrArg Int32.toInt hG9
            have hGN : I64 rm 10 = N1 := (Eq.trans (hf64.get krm rfl) (Eq.trans (hf61.get krm rfl) (Eq.trans (hf60.get krm rfl) (Eq.trans (hf9.get krm rfl) eN1.symm))))
            have hGNt : (I64 rm 10).toInt = N1.toInt := congrArg Int32.toInt hGN
            have hv8 : I64 a0 8 = A9 := eA9.symm
            have hv8t : (I64 a0 8).toInt = A9.toInt := congrArg Int32.toInt hv8
            have hv9 : I64 a0 9 = x65_ := e65.symm
            have hv9t : (I64 a0 9).toInt = x65_.toInt := congrArg Int32.toInt hv9
            exact r_vret hC hQ hlk hr (by decide) (by decide) dX10_readKnower_113 ⟨_, _, rfl, rfl, ⟨hs64, hF64, hFJ64, (by omega), (by omega), (by omega), (by omega)⟩⟩
    · refine r_aload_n hC dX10_readKnower_50 0 rfl ?_
      refine r_iconst hC (v := (1)) dX10_readKnower_51 (by decide) (by decide) (fun x80_ e80 t80 => ?_)
      refine r_callV hC (As := [.int x80_]) (rest := []) (ci := 10) (c_X10_wrong g (xL X) K len I9 J9 R hs9 a0 ka0 x80_) mT_5_236 mT_1_10 mT_5_233 mT_5_235 mP_55 okX10_wrong ⟨by decide, by decide⟩ rfl (by show kO (K a0) = _; rw [ka0]; rfl) rfl rfl (Nat.le_of_ble_eq_true rfl) ⟨by decide, by decide⟩ dX10_readKnower_52 (aV1 (F := fun st M => P g X 3 55 [(0, .ref a0)] st _ _ M) (M := (K, len, I9, J9, R)) fun I81 h81 => ?_)
      obtain ⟨hs81, hf81, k81_0, k81_1⟩ := h81
      show P g X 3 55 [(0, .ref a0)] [] _ _ (K, len, I81, J9, R)
      have hF81 : Fr K [(10, 9), (10, 10), (11, 8), (11, 9), (11, 10), (11, 11), (11, 12), (11, 13), (41, 999)] I I81 := hF9.trans hf81 rfl rfl
      refine r_aload_n hC dX10_readKnower_55 0 rfl ?_
      refine r_getr hC 4 (ci := 10) rfl u10_in (by decide) mT_4_239 dX10_readKnower_56 ka0 rfl rfl hbr ?_
      refine r_aload_n hC dX10_readKnower_59 0 rfl ?_
      refine r_getj hC 14 (ci := 10) rfl u10_in (by decide) mT_5_9 dX10_readKnower_60 ka0 rfl rfl (fun y82_ e82 => ?_)
      refine r_callV hC (As := [.long y82_]) (rest := []) (ci := 9) (c_X9_find g (xL X) K len I81 J9 R hs81 rm krm y82_) mT_6_36 mT_1_17 mT_6_33 mT_6_34 mT_6_35 okX9_find ⟨by decide, by decide⟩ rfl (by show kO (K rm) = _; rw [krm]; rfl) rfl rfl (Nat.le_of_ble_eq_true rfl) ⟨by decide, by decide⟩ dX10_readKnower_63 (aI0 (F := fun st M => P g X 3 66 [(0, .ref a0)] st _ _ M) (M := (K, len, I81, J9, R)) fun x83_ h83 => ?_)
      obtain ⟨k83_0, k83_1⟩ := h83
      show P g X 3 66 [(0, .ref a0)] [.int x83_] _ _ (K, len, I81, J9, R)
      refine r_istore_n hC (lv' := [(1, .int x83_), (0, .ref a0)]) dX10_readKnower_66 (by decide) rfl ?_
      refine r_iload_n hC dX10_readKnower_67 0 rfl ?_
      refine r_iconst hC (v := (-1)) dX10_readKnower_68 (by decide) (by decide) (fun x84_ e84 t84 => ?_)
      refine r_icmp_eq hC (tgt := 84) dX10_readKnower_69 (by decide) (fun c85 => ?_) (fun c85 => ?_)
      · refine r_aload_n hC dX10_readKnower_84 1 rfl ?_
        refine r_iconst hC (v := (2)) dX10_readKnower_85 (by decide) (by decide) (fun x86_ e86 t86 => ?_)
        refine r_callV hC (As := [.int x86_]) (rest := []) (ci := 10) (c_X10_wrong g (xL X) K len I81 J9 R hs81 a0 ka0 x86_) mT_5_236 mT_1_10 mT_5_233 mT_5_235 mP_55 okX10_wrong ⟨by decide, by decide⟩ rfl (by show kO (K a0) = _; rw [ka0]; rfl) rfl rfl (Nat.le_of_ble_eq_true rfl) ⟨by decide, by decide⟩ dX10_readKnower_86 (aV1 (F := fun st M => P g X 3 89 [(1, .int x83_), (0, .ref a0)] st _ _ M) (M := (K, len, I81, J9, R)) fun I87 h87 => ?_)
        obtain ⟨hs87, hf87, k87_0, k87_1⟩ := h87
        show P g X 3 89 [(1, .int x83_), (0, .ref a0)] [] _ _ (K, len, I87, J9, R)
        have hF87 : Fr K [(10, 9), (10, 10), (11, 8), (11, 9), (11, 10), (11, 11), (11, 12), (11, 13), (41, 999)] I I87 := hF81.trans hf87 rfl rfl
        refine r_aload_n hC dX10_readKnower_89 1 rfl ?_
        refine r_callV hC (As := []) (rest := []) (ci := 10) (c_X10_goesOn g (xL X) K len I87 J9 R hs87 a0 ka0) mT_5_199 mT_1_10 mT_5_196 mT_5_198 mP_49 okX10_goesOn ⟨by decide, by decide⟩ rfl (by show kO (K a0) = _; rw [ka0]; rfl) rfl rfl (Nat.le_of_ble_eq_true rfl) ⟨by decide, by decide⟩ dX10_readKnower_90 (aV2 (F := fun st M => P g X 3 93 [(1, .int x83_), (0, .ref a0)] st _ _ M) (M := (K, len, I87, J9, R)) fun I88 J88 h88 => ?_)
        obtain ⟨hs88, hf88, hfj88, k88_0, k88_1, k88_2, k88_3⟩ := h88
        show P g X 3 93 [(1, .int x83_), (0, .ref a0)] [] _ _ (K, len, I88, J88, R)
        have hF88 : Fr K [(10, 9), (10, 10), (11, 8), (11, 9), (11, 10), (11, 11), (11, 12), (11, 13), (41, 999)] I I88 := hF87.trans hf88 rfl rfl
        have hFJ88 : Fr K [(11, 14), (42, 999)] J J88 := hFJ9.trans hfj88 rfl rfl
        refine r_aload_n hC dX10_readKnower_93 1 rfl ?_
        refine r_ldcwS hC (i := 59) (by decide) rfl rfl dX10_readKnower_94 ?_
        refine r_iconst hC (v := (0)) dX10_readKnower_97 (by decide) (by decide) (fun x89_ e89 t89 => ?_)
        refine r_sipush hC (v := (999)) dX10_readKnower_98 (by decide) (by decide) (fun x90_ e90 t90 => ?_)
        refine r_callV hC (As := [.ref (g.2.2.1 59), .int x89_, .int x90_]) (rest := []) (ci := 10) (c_X10_readPart g (xL X) K len I88 J88 R hs88 a0 ka0 59 (by decide) x89_ x90_) mT_6_1 mT_1_10 mT_5_238 mT_6_0 mP_56 okX10_readPart ⟨by decide, by decide⟩ rfl (by show kO (K a0) = _; rw [ka0]; rfl) rfl rfl (Nat.le_of_ble_eq_true rfl) ⟨by decide, by decide⟩ dX10_readKnower_101 (aI2 (F := fun st M => P g X 3 104 [(1, .int x83_), (0, .ref a0)] st _ _ M) (M := (K, len, I88, J88, R)) fun x91_ I91 J91 h91 => ?_)
        obtain ⟨hs91, hf91, hfj91, k91_0, k91_1, k91_2, k91_3⟩ := h91
        show P g X 3 104 [(1, .int x83_), (0, .ref a0)] [.int x91_] _ _ (K, len, I91, J91, R)
        have hF91 : Fr K [(10, 9), (10, 10), (11, 8), (11, 9), (11, 10), (11, 11), (11, 12), (11, 13), (41, 999)] I I91 := hF88.trans hf91 rfl rfl
        have hFJ91 : Fr K [(11, 14), (42, 999)] J J91 := hFJ88.trans hfj91 rfl rfl
        refine r_istore_n hC (lv' := [(2, .int x91_), (1, .int x83_), (0, .ref a0)]) dX10_readKnower_104 (by decide) rfl ?_
        refine r_aload_n hC dX10_readKnower_105 2 rfl ?_
        obtain ⟨A9, eA9⟩ : ∃ z : Int32, z = I91 a0 8 := ⟨_, rfl⟩
        have fA9 : A9.toInt = (I91 a0 8).toInt := by rw [eA9]
        have rA9 := hs91.rng ka0 rfl eA9
        refine r_geti hC 9 (ci := 10) rfl u10_in (by decide) mT_5_4 dX10_readKnower_106 ka0 rfl rfl (fun x92_ e92 => ?_)
        have f92 : x92_.toInt = (I91 a0 9).toInt := by rw [e92]
        refine r_iconst hC (v := (5)) dX10_readKnower_109 (by decide) (by decide) (fun x93_ e93 t93 => ?_)
        refine r_icmp_ne hC (tgt := 114) dX10_readKnower_110 (by decide) (fun c94 => ?_) (fun c94 => ?_)
        · refine r_aload_n hC dX10_readKnower_114 2 rfl ?_
          refine r_getr hC 4 (ci := 10) rfl u10_in (by decide) mT_4_239 dX10_readKnower_115 ka0 rfl rfl hbr ?_
          obtain ⟨a95_, hb95, hk95, hn95⟩ := hs91.row krm 23 41 4 (by decide) (by decide)
          refine r_getrN hC 23 (ci := 9) rfl u9_in (by decide) nF_23 dX10_readKnower_118 krm rfl rfl hb95 ?_
          refine r_aload_n hC dX10_readKnower_121 2 rfl ?_
          refine r_getr hC 4 (ci := 10) rfl u10_in (by decide) mT_4_239 dX10_readKnower_122 ka0 rfl rfl hbr ?_
          refine r_getiN hC 9 (ci := 9) rfl u9_in (by decide) nF_9 dX10_readKnower_125 krm rfl rfl (fun x96_ e96 => ?_)
          have r96 := hs91.rng krm rfl e96
          have f96 : x96_.toInt = (I91 rm 9).toInt := by rw [e96]
          have w96 : x96_ = x5_ := by rw [e96]; exact (Eq.trans (hf91.get krm rfl) (Eq.trans (hf88.get krm rfl) (Eq.trans (hf87.get krm rfl) (Eq.trans (hf81.get krm rfl) (Eq.trans (hf9.get krm rfl) (Eq.trans (hf6.get krm rfl) e5.symm))))))
          have wt96 : x96_.toInt = x5_.toInt := by rw [w96]
          refine r_aload_n hC dX10_readKnower_128 2 rfl ?_
          refine r_getr hC 4 (ci := 10) rfl u10_in (by decide) mT_4_239 dX10_readKnower_129 ka0 rfl rfl hbr ?_
          obtain ⟨a97_, hb97, hk97, hn97⟩ := hs91.row krm 27 41 19 (by decide) (by decide)
          refine r_getrN hC 27 (ci := 9) rfl u9_in (by decide) nF_27 dX10_readKnower_132 krm rfl rfl hb97 ?_
          refine r_iload_n hC dX10_readKnower_135 1 rfl ?_
          refine x_iaload hC hk97 hn97 (by decide) rfl rfl dX10_readKnower_136 (by omega) (by omega) (fun x98_ e98 => ?_)
          refine x_iastore hC hk95 hn95 (by decide) rfl rfl dX10_readKnower_137 (by omega) (by omega) (fun I99 eI99 => ?_)
          have hs99 := hs91.put0 eI99 hk95 (rng_arr (by decide) _) rfl (xF_arr (by decide) _) (by decide)
          have hF99 := hF91.put eI99 hk95 (inS_arr rfl _)
          refine r_aload_n hC dX10_readKnower_138 2 rfl ?_
          refine r_getr hC 4 (ci := 10) rfl u10_in (by decide) mT_4_239 dX10_readKnower_139 ka0 rfl rfl hbr ?_
          obtain ⟨a100_, hb100, hk100, hn100⟩ := hs99.row krm 24 41 4 (by decide) (by decide)
          refine r_getrN hC 24 (ci := 9) rfl u9_in (by decide) nF_24 dX10_readKnower_142 krm rfl rfl hb100 ?_
          refine r_aload_n hC dX10_readKnower_145 2 rfl ?_
          refine r_getr hC 4 (ci := 10) rfl u10_in (by decide) mT_4_239 dX10_readKnower_146 ka0 rfl rfl hbr ?_
          refine r_getiN hC 9 (ci := 9) rfl u9_in (by decide) nF_9 dX10_readKnower_149 krm rfl rfl (fun x101_ e101 => ?_)
          have r101 := hs99.rng krm rfl e101
          have f101 : x101_.toInt = (I99 rm 9).toInt := by rw [e101]
          have w101 : x101_ = x96_ := by rw [e101]; exact (Eq.trans (up2_kk eI99 hk95 krm (by decide)) e96.symm)
          have wt101 : x101_.toInt = x96_.toInt := by rw [w101]
          refine r_iload_n hC dX10_readKnower_152 0 rfl ?_
          refine x_iastore hC hk100 hn100 (by decide) rfl rfl dX10_readKnower_153 (by omega) (by omega) (fun I102 eI102 => ?_)
          have hs102 := hs99.put0 eI102 hk100 (rng_arr (by decide) _) rfl (xF_arr (by decide) _) (by decide)
          have hF102 := hF99.put eI102 hk100 (inS_arr rfl _)
          refine r_aload_n hC dX10_readKnower_154 2 rfl ?_
          refine r_getr hC 4 (ci := 10) rfl u10_in (by decide) mT_4_239 dX10_readKnower_155 ka0 rfl rfl hbr ?_
          refine r_dup hC dX10_readKnower_158 rfl ?_
          refine r_getiN hC 9 (ci := 9) rfl u9_in (by decide) nF_9 dX10_readKnower_159 krm rfl rfl (fun x103_ e103 => ?_)
          have r103 := hs102.rng krm rfl e103
          have f103 : x103_.toInt = (I102 rm 9).toInt := by rw [e103]
          have w103 : x103_ = x101_ := by rw [e103]; exact (Eq.trans (up2_kk eI102 hk100 krm (by decide)) e101.symm)
          have wt103 : x103_.toInt = x101_.toInt := by rw [w103]
          refine r_iconst hC (v := (1)) dX10_readKnower_162 (by decide) (by decide) (fun x104_ e104 t104 => ?_)
          refine r_iadd hC dX10_readKnower_163 (fun x105_ e105 => ?_)
          try have t105 : x105_.toInt = x103_.toInt + x104_.toInt := by rw [e105]; exact ti_add (by omega) (by omega)
          refine r_putiN hC 9 (ci := 9) rfl u9_in tyX9_ok nmX9 (by decide) nF_9 rfl rfl rfl dX10_readKnower_164 krm rfl rfl (fun I106 eI106 => ?_)
          have hs106 := hs102.put1 eI106 krm rfl (by omega) (by omega) rfl rfl (by decide)
          have hF106 := hF102.put eI106 krm rfl
          have hG3 : I106 rm 3 = G3 := (Eq.trans (up2_at (Or.inr (by decide)) eI106) (Eq.trans (up2_kk eI102 hk100 krm (by decide)) (Eq.trans (up2_kk eI99 hk95 krm (by decide)) (Eq.trans (hf91.get krm rfl) (Eq.trans (hf88.get krm rfl) (Eq.trans (hf87.get krm rfl) (Eq.trans (hf81.get krm rfl) (Eq.trans (hf9.get krm rfl) (Eq.trans (hf6.get krm rfl) (Eq.trans (hf3.get krm rfl) eG3.symm))))))))))
          have hG3t : (I106 rm 3).toInt = G3.toInt := congrArg Int32.toInt hG3
          have hG4 : I106 rm 4 = G4 := (Eq.trans (up2_at (Or.inr (by decide)) eI106) (Eq.trans (up2_kk eI102 hk100 krm (by decide)) (Eq.trans (up2_kk eI99 hk95 krm (by decide)) (Eq.trans (hf91.get krm rfl) (Eq.trans (hf88.get krm rfl) (Eq.trans (hf87.get krm rfl) (Eq.trans (hf81.get krm rfl) (Eq.trans (hf9.get krm rfl) (Eq.trans (hf6.get krm rfl) (Eq.trans (hf3.get krm rfl) eG4.symm))))))))))
          have hG4t : (I106 rm 4).toInt = G4.toInt := congrArg Int32.toInt hG4
          have hG7 : I106 rm 7 = G7 := (Eq.trans (up2_at (Or.inr (by decide)) eI106) (Eq.trans (up2_kk eI102 hk100 krm (by decide)) (Eq.trans (up2_kk eI99 hk95 krm (by decide)) (Eq.trans (hf91.get krm rfl) (Eq.trans (hf88.get krm rfl) (Eq.trans (hf87.get krm rfl) (Eq.trans (hf81.get krm rfl) (Eq.trans (hf9.get krm rfl) (Eq.trans (hf6.get krm rfl) (Eq.trans (hf3.get krm rfl) eG7.symm))))))))))
          have hG7t : (I106 rm 7).toInt = G7.toInt := congrArg Int32.toInt hG7
          have hG8 : I106 rm 8 = G8 := (Eq.trans (up2_at (Or.inr (by decide)) eI106) (Eq.trans (up2_kk eI102 hk100 krm (by decide)) (Eq.trans (up2_kk eI99 hk95 krm (by decide)) (Eq.trans (hf91.get krm rfl) (Eq.trans (hf88.get krm rfl) (Eq.trans (hf87.get krm rfl) (Eq.trans (hf81.get krm rfl) (Eq.trans (hf9.get krm rfl) (Eq.trans (hf6.get krm rfl) (Eq.trans (hf3.get krm rfl) eG8.symm))))))))))
          have hG8t : (I106 rm 8).toInt = G8.toInt := congrArg Int32.toInt hG8
          have hG9 : I106 rm 9 = x105_ := (by rw [eI106]; exact up2_self _ _ _ _)
          have hG9t : (I106 rm 9).toInt = x105_.toInt := congrArg Int32.toInt hG9
          have hGN : I106 rm 10 = N1 := (Eq.trans (up2_at (Or.inr (by decide)) eI106) (Eq.trans (up2_kk eI102 hk100 krm (by decide)) (Eq.trans (up2_kk eI99 hk95 krm (by decide)) (Eq.trans (hf91.get krm rfl) (Eq.trans (hf88.get krm rfl) (Eq.trans (hf87.get krm rfl) (Eq.trans (hf81.get krm rfl) (Eq.trans (hf9.get krm rfl) eN1.symm))))))))
          have hGNt : (I106 rm 10).toInt = N1.toInt := congrArg Int32.toInt hGN
          have hv8 : I106 a0 8 = A9 := (Eq.trans (up2_kk eI106 krm ka0 (by decide)) (Eq.trans (up2_kk eI102 hk100 ka0 (by decide)) (Eq.trans (up2_kk eI99 hk95 ka0 (by decide)) eA9.symm)))
          have hv8t : (I106 a0 8).toInt = A9.toInt := congrArg Int32.toInt hv8
          have hv9 : I106 a0 9 = x92_ := (Eq.trans (up2_kk eI106 krm ka0 (by decide)) (Eq.trans (up2_kk eI102 hk100 ka0 (by decide)) (Eq.trans (up2_kk eI99 hk95 ka0 (by decide)) e92.symm)))
          have hv9t : (I106 a0 9).toInt = x92_.toInt := congrArg Int32.toInt hv9
          exact r_vret hC hQ hlk hr (by decide) (by decide) dX10_readKnower_167 ⟨_, _, rfl, rfl, ⟨hs106, hF106, hFJ91, (by omega), (by omega), (by omega), (by omega)⟩⟩
        · have hG3 : I91 rm 3 = G3 := (Eq.trans (hf91.get krm rfl) (Eq.trans (hf88.get krm rfl) (Eq.trans (hf87.get krm rfl) (Eq.trans (hf81.get krm rfl) (Eq.trans (hf9.get krm rfl) (Eq.trans (hf6.get krm rfl) (Eq.trans (hf3.get krm rfl) eG3.symm)))))))
          have hG3t : (I91 rm 3).toInt = G3.toInt := congrArg Int32.toInt hG3
          have hG4 : I91 rm 4 = G4 := (Eq.trans (hf91.get krm rfl) (Eq.trans (hf88.get krm rfl) (Eq.trans (hf87.get krm rfl) (Eq.trans (hf81.get krm rfl) (Eq.trans (hf9.get krm rfl) (Eq.trans (hf6.get krm rfl) (Eq.trans (hf3.get krm rfl) eG4.symm)))))))
          have hG4t : (I91 rm 4).toInt = G4.toInt := congrArg Int32.toInt hG4
          have hG7 : I91 rm 7 = G7 := (Eq.trans (hf91.get krm rfl) (Eq.trans (hf88.get krm rfl) (Eq.trans (hf87.get krm rfl) (Eq.trans (hf81.get krm rfl) (Eq.trans (hf9.get krm rfl) (Eq.trans (hf6.get krm rfl) (Eq.trans (hf3.get krm rfl) eG7.symm)))))))
          have hG7t : (I91 rm 7).toInt = G7.toInt := congrArg Int32.toInt hG7
          have hG8 : I91 rm 8 = G8 := (Eq.trans (hf91.get krm rfl) (Eq.trans (hf88.get krm rfl) (Eq.trans (hf87.get krm rfl) (Eq.trans (hf81.get krm rfl) (Eq.trans (hf9.get krm rfl) (Eq.trans (hf6.get krm rfl) (Eq.trans (hf3.get krm rfl) eG8.symm)))))))
          have hG8t : (I91 rm 8).toInt = G8.toInt := congrArg Int32.toInt hG8
          have hG9 : I91 rm 9 = x5_ := (Eq.trans (hf91.get krm rfl) (Eq.trans (hf88.get krm rfl) (Eq.trans (hf87.get krm rfl) (Eq.trans (hf81.get krm rfl) (Eq.trans (hf9.get krm rfl) (Eq.trans (hf6.get krm rfl) e5.symm))))))
          have hG9t : (I91 rm 9).toInt = x5_.toInt := congrArg Int32.toInt hG9
          have hGN : I91 rm 10 = N1 := (Eq.trans (hf91.get krm rfl) (Eq.trans (hf88.get krm rfl) (Eq.trans (hf87.get krm rfl) (Eq.trans (hf81.get krm rfl) (Eq.trans (hf9.get krm rfl) eN1.symm)))))
          have hGNt : (I91 rm 10).toInt = N1.toInt := congrArg Int32.toInt hGN
          have hv8 : I91 a0 8 = A9 := eA9.symm
          have hv8t : (I91 a0 8).toInt = A9.toInt := congrArg Int32.toInt hv8
          have hv9 : I91 a0 9 = x92_ := e92.symm
          have hv9t : (I91 a0 9).toInt = x92_.toInt := congrArg Int32.toInt hv9
          exact r_vret hC hQ hlk hr (by decide) (by decide) dX10_readKnower_113 ⟨_, _, rfl, rfl, ⟨hs91, hF91, hFJ91, (by omega), (by omega), (by omega), (by omega)⟩⟩
      · refine r_aload_n hC dX10_readKnower_72 1 rfl ?_
        refine r_getr hC 4 (ci := 10) rfl u10_in (by decide) mT_4_239 dX10_readKnower_73 ka0 rfl rfl hbr ?_
        obtain ⟨a107_, hb107, hk107, hn107⟩ := hs81.row krm 26 41 19 (by decide) (by decide)
        refine r_getrN hC 26 (ci := 9) rfl u9_in (by decide) nF_26 dX10_readKnower_76 krm rfl rfl hb107 ?_
        refine r_iload_n hC dX10_readKnower_79 0 rfl ?_
        refine x_iaload hC hk107 hn107 (by decide) rfl rfl dX10_readKnower_80 (by omega) (by omega) (fun x108_ e108 => ?_)
        refine r_if_eq hC (tgt := 89) dX10_readKnower_81 (by decide) (fun c109 => ?_) (fun c109 => ?_)
        · refine r_aload_n hC dX10_readKnower_89 1 rfl ?_
          refine r_callV hC (As := []) (rest := []) (ci := 10) (c_X10_goesOn g (xL X) K len I81 J9 R hs81 a0 ka0) mT_5_199 mT_1_10 mT_5_196 mT_5_198 mP_49 okX10_goesOn ⟨by decide, by decide⟩ rfl (by show kO (K a0) = _; rw [ka0]; rfl) rfl rfl (Nat.le_of_ble_eq_true rfl) ⟨by decide, by decide⟩ dX10_readKnower_90 (aV2 (F := fun st M => P g X 3 93 [(1, .int x83_), (0, .ref a0)] st _ _ M) (M := (K, len, I81, J9, R)) fun I110 J110 h110 => ?_)
          obtain ⟨hs110, hf110, hfj110, k110_0, k110_1, k110_2, k110_3⟩ := h110
          show P g X 3 93 [(1, .int x83_), (0, .ref a0)] [] _ _ (K, len, I110, J110, R)
          have hF110 : Fr K [(10, 9), (10, 10), (11, 8), (11, 9), (11, 10), (11, 11), (11, 12), (11, 13), (41, 999)] I I110 := hF81.trans hf110 rfl rfl
          have hFJ110 : Fr K [(11, 14), (42, 999)] J J110 := hFJ9.trans hfj110 rfl rfl
          refine r_aload_n hC dX10_readKnower_93 1 rfl ?_
          refine r_ldcwS hC (i := 59) (by decide) rfl rfl dX10_readKnower_94 ?_
          refine r_iconst hC (v := (0)) dX10_readKnower_97 (by decide) (by decide) (fun x111_ e111 t111 => ?_)
          refine r_sipush hC (v := (999)) dX10_readKnower_98 (by decide) (by decide) (fun x112_ e112 t112 => ?_)
          refine r_callV hC (As := [.ref (g.2.2.1 59), .int x111_, .int x112_]) (rest := []) (ci := 10) (c_X10_readPart g (xL X) K len I110 J110 R hs110 a0 ka0 59 (by decide) x111_ x112_) mT_6_1 mT_1_10 mT_5_238 mT_6_0 mP_56 okX10_readPart ⟨by decide, by decide⟩ rfl (by show kO (K a0) = _; rw [ka0]; rfl) rfl rfl (Nat.le_of_ble_eq_true rfl) ⟨by decide, by decide⟩ dX10_readKnower_101 (aI2 (F := fun st M => P g X 3 104 [(1, .int x83_), (0, .ref a0)] st _ _ M) (M := (K, len, I110, J110, R)) fun x113_ I113 J113 h113 => ?_)
          obtain ⟨hs113, hf113, hfj113, k113_0, k113_1, k113_2, k113_3⟩ := h113
          show P g X 3 104 [(1, .int x83_), (0, .ref a0)] [.int x113_] _ _ (K, len, I113, J113, R)
          have hF113 : Fr K [(10, 9), (10, 10), (11, 8), (11, 9), (11, 10), (11, 11), (11, 12), (11, 13), (41, 999)] I I113 := hF110.trans hf113 rfl rfl
          have hFJ113 : Fr K [(11, 14), (42, 999)] J J113 := hFJ110.trans hfj113 rfl rfl
          refine r_istore_n hC (lv' := [(2, .int x113_), (1, .int x83_), (0, .ref a0)]) dX10_readKnower_104 (by decide) rfl ?_
          refine r_aload_n hC dX10_readKnower_105 2 rfl ?_
          obtain ⟨A9, eA9⟩ : ∃ z : Int32, z = I113 a0 8 := ⟨_, rfl⟩
          have fA9 : A9.toInt = (I113 a0 8).toInt := by rw [eA9]
          have rA9 := hs113.rng ka0 rfl eA9
          refine r_geti hC 9 (ci := 10) rfl u10_in (by decide) mT_5_4 dX10_readKnower_106 ka0 rfl rfl (fun x114_ e114 => ?_)
          have f114 : x114_.toInt = (I113 a0 9).toInt := by rw [e114]
          refine r_iconst hC (v := (5)) dX10_readKnower_109 (by decide) (by decide) (fun x115_ e115 t115 => ?_)
          refine r_icmp_ne hC (tgt := 114) dX10_readKnower_110 (by decide) (fun c116 => ?_) (fun c116 => ?_)
          · refine r_aload_n hC dX10_readKnower_114 2 rfl ?_
            refine r_getr hC 4 (ci := 10) rfl u10_in (by decide) mT_4_239 dX10_readKnower_115 ka0 rfl rfl hbr ?_
            obtain ⟨a117_, hb117, hk117, hn117⟩ := hs113.row krm 23 41 4 (by decide) (by decide)
            refine r_getrN hC 23 (ci := 9) rfl u9_in (by decide) nF_23 dX10_readKnower_118 krm rfl rfl hb117 ?_
            refine r_aload_n hC dX10_readKnower_121 2 rfl ?_
            refine r_getr hC 4 (ci := 10) rfl u10_in (by decide) mT_4_239 dX10_readKnower_122 ka0 rfl rfl hbr ?_
            refine r_getiN hC 9 (ci := 9) rfl u9_in (by decide) nF_9 dX10_readKnower_125 krm rfl rfl (fun x118_ e118 => ?_)
            have r118 := hs113.rng krm rfl e118
            have f118 : x118_.toInt = (I113 rm 9).toInt := by rw [e118]
            have w118 : x118_ = x5_ := by rw [e118]; exact (Eq.trans (hf113.get krm rfl) (Eq.trans (hf110.get krm rfl) (Eq.trans (hf81.get krm rfl) (Eq.trans (hf9.get krm rfl) (Eq.trans (hf6.get krm rfl) e5.symm)))))
            have wt118 : x118_.toInt = x5_.toInt := by rw [w118]
            refine r_aload_n hC dX10_readKnower_128 2 rfl ?_
            refine r_getr hC 4 (ci := 10) rfl u10_in (by decide) mT_4_239 dX10_readKnower_129 ka0 rfl rfl hbr ?_
            obtain ⟨a119_, hb119, hk119, hn119⟩ := hs113.row krm 27 41 19 (by decide) (by decide)
            refine r_getrN hC 27 (ci := 9) rfl u9_in (by decide) nF_27 dX10_readKnower_132 krm rfl rfl hb119 ?_
            refine r_iload_n hC dX10_readKnower_135 1 rfl ?_
            refine x_iaload hC hk119 hn119 (by decide) rfl rfl dX10_readKnower_136 (by omega) (by omega) (fun x120_ e120 => ?_)
            refine x_iastore hC hk117 hn117 (by decide) rfl rfl dX10_readKnower_137 (by omega) (by omega) (fun I121 eI121 => ?_)
            have hs121 := hs113.put0 eI121 hk117 (rng_arr (by decide) _) rfl (xF_arr (by decide) _) (by decide)
            have hF121 := hF113.put eI121 hk117 (inS_arr rfl _)
            refine r_aload_n hC dX10_readKnower_138 2 rfl ?_
            refine r_getr hC 4 (ci := 10) rfl u10_in (by decide) mT_4_239 dX10_readKnower_139 ka0 rfl rfl hbr ?_
            obtain ⟨a122_, hb122, hk122, hn122⟩ := hs121.row krm 24 41 4 (by decide) (by decide)
            refine r_getrN hC 24 (ci := 9) rfl u9_in (by decide) nF_24 dX10_readKnower_142 krm rfl rfl hb122 ?_
            refine r_aload_n hC dX10_readKnower_145 2 rfl ?_
            refine r_getr hC 4 (ci := 10) rfl u10_in (by decide) mT_4_239 dX10_readKnower_146 ka0 rfl rfl hbr ?_
            refine r_getiN hC 9 (ci := 9) rfl u9_in (by decide) nF_9 dX10_readKnower_149 krm rfl rfl (fun x123_ e123 => ?_)
            have r123 := hs121.rng krm rfl e123
            have f123 : x123_.toInt = (I121 rm 9).toInt := by rw [e123]
            have w123 : x123_ = x118_ := by rw [e123]; exact (Eq.trans (up2_kk eI121 hk117 krm (by decide)) e118.symm)
            have wt123 : x123_.toInt = x118_.toInt := by rw [w123]
            refine r_iload_n hC dX10_readKnower_152 0 rfl ?_
            refine x_iastore hC hk122 hn122 (by decide) rfl rfl dX10_readKnower_153 (by omega) (by omega) (fun I124 eI124 => ?_)
            have hs124 := hs121.put0 eI124 hk122 (rng_arr (by decide) _) rfl (xF_arr (by decide) _) (by decide)
            have hF124 := hF121.put eI124 hk122 (inS_arr rfl _)
            refine r_aload_n hC dX10_readKnower_154 2 rfl ?_
            refine r_getr hC 4 (ci := 10) rfl u10_in (by decide) mT_4_239 dX10_readKnower_155 ka0 rfl rfl hbr ?_
            refine r_dup hC dX10_readKnower_158 rfl ?_
            refine r_getiN hC 9 (ci := 9) rfl u9_in (by decide) nF_9 dX10_readKnower_159 krm rfl rfl (fun x125_ e125 => ?_)
            have r125 := hs124.rng krm rfl e125
            have f125 : x125_.toInt = (I124 rm 9).toInt := by rw [e125]
            have w125 : x125_ = x123_ := by rw [e125]; exact (Eq.trans (up2_kk eI124 hk122 krm (by decide)) e123.symm)
            have wt125 : x125_.toInt = x123_.toInt := by rw [w125]
            refine r_iconst hC (v := (1)) dX10_readKnower_162 (by decide) (by decide) (fun x126_ e126 t126 => ?_)
            refine r_iadd hC dX10_readKnower_163 (fun x127_ e127 => ?_)
            try have t127 : x127_.toInt = x125_.toInt + x126_.toInt := by rw [e127]; exact ti_add (by omega) (by omega)
            refine r_putiN hC 9 (ci := 9) rfl u9_in tyX9_ok nmX9 (by decide) nF_9 rfl rfl rfl dX10_readKnower_164 krm rfl rfl (fun I128 eI128 => ?_)
            have hs128 := hs124.put1 eI128 krm rfl (by omega) (by omega) rfl rfl (by decide)
            have hF128 := hF124.put eI128 krm rfl
            have hG3 : I128 rm 3 = G3 := (Eq.trans (up2_at (Or.inr (by decide)) eI128) (Eq.trans (up2_kk eI124 hk122 krm (by decide)) (Eq.trans (up2_kk eI121 hk117 krm (by decide)) (Eq.trans (hf113.get krm rfl) (Eq.trans (hf110.get krm rfl) (Eq.trans (hf81.get krm rfl) (Eq.trans (hf9.get krm rfl) (Eq.trans (hf6.get krm rfl) (Eq.trans (hf3.get krm rfl) eG3.symm)))))))))
            have hG3t : (I128 rm 3).toInt = G3.toInt := congrArg Int32.toInt hG3
            have hG4 : I128 rm 4 = G4 := (Eq.trans (up2_at (Or.inr (by decide)) eI128) (Eq.trans (up2_kk eI124 hk122 krm (by decide)) (Eq.trans (up2_kk eI121 hk117 krm (by decide)) (Eq.trans (hf113.get krm rfl) (Eq.trans (hf110.get krm rfl) (Eq.trans (hf81.get krm rfl) (Eq.trans (hf9.get krm rfl) (Eq.trans (hf6.get krm rfl) (Eq.trans (hf3.get krm rfl) eG4.symm)))))))))
            have hG4t : (I128 rm 4).toInt = G4.toInt := congrArg Int32.toInt hG4
            have hG7 : I128 rm 7 = G7 := (Eq.trans (up2_at (Or.inr (by decide)) eI128) (Eq.trans (up2_kk eI124 hk122 krm (by decide)) (Eq.trans (up2_kk eI121 hk117 krm (by decide)) (Eq.trans (hf113.get krm rfl) (Eq.trans (hf110.get krm rfl) (Eq.trans (hf81.get krm rfl) (Eq.trans (hf9.get krm rfl) (Eq.trans (hf6.get krm rfl) (Eq.trans (hf3.get krm rfl) eG7.symm)))))))))
            have hG7t : (I128 rm 7).toInt = G7.toInt := congrArg Int32.toInt hG7
            have hG8 : I128 rm 8 = G8 := (Eq.trans (up2_at (Or.inr (by decide)) eI128) (Eq.trans (up2_kk eI124 hk122 krm (by decide)) (Eq.trans (up2_kk eI121 hk117 krm (by decide)) (Eq.trans (hf113.get krm rfl) (Eq.trans (hf110.get krm rfl) (Eq.trans (hf81.get krm rfl) (Eq.trans (hf9.get krm rfl) (Eq.trans (hf6.get krm rfl) (Eq.trans (hf3.get krm rfl) eG8.symm)))))))))
            have hG8t : (I128 rm 8).toInt = G8.toInt := congrArg Int32.toInt hG8
            have hG9 : I128 rm 9 = x127_ := (by rw [eI128]; exact up2_self _ _ _ _)
            have hG9t : (I128 rm 9).toInt = x127_.toInt := congrArg Int32.toInt hG9
            have hGN : I128 rm 10 = N1 := (Eq.trans (up2_at (Or.inr (by decide)) eI128) (Eq.trans (up2_kk eI124 hk122 krm (by decide)) (Eq.trans (up2_kk eI121 hk117 krm (by decide)) (Eq.trans (hf113.get krm rfl) (Eq.trans (hf110.get krm rfl) (Eq.trans (hf81.get krm rfl) (Eq.trans (hf9.get krm rfl) eN1.symm)))))))
            have hGNt : (I128 rm 10).toInt = N1.toInt := congrArg Int32.toInt hGN
            have hv8 : I128 a0 8 = A9 := (Eq.trans (up2_kk eI128 krm ka0 (by decide)) (Eq.trans (up2_kk eI124 hk122 ka0 (by decide)) (Eq.trans (up2_kk eI121 hk117 ka0 (by decide)) eA9.symm)))
            have hv8t : (I128 a0 8).toInt = A9.toInt := congrArg Int32.toInt hv8
            have hv9 : I128 a0 9 = x114_ := (Eq.trans (up2_kk eI128 krm ka0 (by decide)) (Eq.trans (up2_kk eI124 hk122 ka0 (by decide)) (Eq.trans (up2_kk eI121 hk117 ka0 (by decide)) e114.symm)))
            have hv9t : (I128 a0 9).toInt = x114_.toInt := congrArg Int32.toInt hv9
            exact r_vret hC hQ hlk hr (by decide) (by decide) dX10_readKnower_167 ⟨_, _, rfl, rfl, ⟨hs128, hF128, hFJ113, (by omega), (by omega), (by omega), (by omega)⟩⟩
          · have hG3 : I113 rm 3 = G3 := (Eq.trans (hf113.get krm rfl) (Eq.trans (hf110.get krm rfl) (Eq.trans (hf81.get krm rfl) (Eq.trans (hf9.get krm rfl) (Eq.trans (hf6.get krm rfl) (Eq.trans (hf3.get krm rfl) eG3.symm))))))
            have hG3t : (I113 rm 3).toInt = G3.toInt := congrArg Int32.toInt hG3
            have hG4 : I113 rm 4 = G4 := (Eq.trans (hf113.get krm rfl) (Eq.trans (hf110.get krm rfl) (Eq.trans (hf81.get krm rfl) (Eq.trans (hf9.get krm rfl) (Eq.trans (hf6.get krm rfl) (Eq.trans (hf3.get krm rfl) eG4.symm))))))
            have hG4t : (I113 rm 4).toInt = G4.toInt := congrArg Int32.toInt hG4
            have hG7 : I113 rm 7 = G7 := (Eq.trans (hf113.get krm rfl) (Eq.trans (hf110.get krm rfl) (Eq.trans (hf81.get krm rfl) (Eq.trans (hf9.get krm rfl) (Eq.trans (hf6.get krm rfl) (Eq.trans (hf3.get krm rfl) eG7.symm))))))
            have hG7t : (I113 rm 7).toInt = G7.toInt := congrArg Int32.toInt hG7
            have hG8 : I113 rm 8 = G8 := (Eq.trans (hf113.get krm rfl) (Eq.trans (hf110.get krm rfl) (Eq.trans (hf81.get krm rfl) (Eq.trans (hf9.get krm rfl) (Eq.trans (hf6.get krm rfl) (Eq.trans (hf3.get krm rfl) eG8.symm))))))
            have hG8t : (I113 rm 8).toInt = G8.toInt := congrArg Int32.toInt hG8
            have hG9 : I113 rm 9 = x5_ := (Eq.trans (hf113.get krm rfl) (Eq.trans (hf110.get krm rfl) (Eq.trans (hf81.get krm rfl) (Eq.trans (hf9.get krm rfl) (Eq.trans (hf6.get krm rfl) e5.symm)))))
            have hG9t : (I113 rm 9).toInt = x5_.toInt := congrArg Int32.toInt hG9
            have hGN : I113 rm 10 = N1 := (Eq.trans (hf113.get krm rfl) (Eq.trans (hf110.get krm rfl) (Eq.trans (hf81.get krm rfl) (Eq.trans (hf9.get krm rfl) eN1.symm))))
            have hGNt : (I113 rm 10).toInt = N1.toInt := congrArg Int32.toInt hGN
            have hv8 : I113 a0 8 = A9 := eA9.symm
            have hv8t : (I113 a0 8).toInt = A9.toInt := congrArg Int32.toInt hv8
            have hv9 : I113 a0 9 = x114_ := e114.symm
            have hv9t : (I113 a0 9).toInt = x114_.toInt := congrArg Int32.toInt hv9
            exact r_vret hC hQ hlk hr (by decide) (by decide) dX10_readKnower_113 ⟨_, _, rfl, rfl, ⟨hs113, hF113, hFJ113, (by omega), (by omega), (by omega), (by omega)⟩⟩
        · refine r_aload_n hC dX10_readKnower_84 1 rfl ?_
          refine r_iconst hC (v := (2)) dX10_readKnower_85 (by decide) (by decide) (fun x129_ e129 t129 => ?_)
          refine r_callV hC (As := [.int x129_]) (rest := []) (ci := 10) (c_X10_wrong g (xL X) K len I81 J9 R hs81 a0 ka0 x129_) mT_5_236 mT_1_10 mT_5_233 mT_5_235 mP_55 okX10_wrong ⟨by decide, by decide⟩ rfl (by show kO (K a0) = _; rw [ka0]; rfl) rfl rfl (Nat.le_of_ble_eq_true rfl) ⟨by decide, by decide⟩ dX10_readKnower_86 (aV1 (F := fun st M => P g X 3 89 [(1, .int x83_), (0, .ref a0)] st _ _ M) (M := (K, len, I81, J9, R)) fun I130 h130 => ?_)
          obtain ⟨hs130, hf130, k130_0, k130_1⟩ := h130
          show P g X 3 89 [(1, .int x83_), (0, .ref a0)] [] _ _ (K, len, I130, J9, R)
          have hF130 : Fr K [(10, 9), (10, 10), (11, 8), (11, 9), (11, 10), (11, 11), (11, 12), (11, 13), (41, 999)] I I130 := hF81.trans hf130 rfl rfl
          refine r_aload_n hC dX10_readKnower_89 1 rfl ?_
          refine r_callV hC (As := []) (rest := []) (ci := 10) (c_X10_goesOn g (xL X) K len I130 J9 R hs130 a0 ka0) mT_5_199 mT_1_10 mT_5_196 mT_5_198 mP_49 okX10_goesOn ⟨by decide, by decide⟩ rfl (by show kO (K a0) = _; rw [ka0]; rfl) rfl rfl (Nat.le_of_ble_eq_true rfl) ⟨by decide, by decide⟩ dX10_readKnower_90 (aV2 (F := fun st M => P g X 3 93 [(1, .int x83_), (0, .ref a0)] st _ _ M) (M := (K, len, I130, J9, R)) fun I131 J131 h131 => ?_)
          obtain ⟨hs131, hf131, hfj131, k131_0, k131_1, k131_2, k131_3⟩ := h131
          show P g X 3 93 [(1, .int x83_), (0, .ref a0)] [] _ _ (K, len, I131, J131, R)
          have hF131 : Fr K [(10, 9), (10, 10), (11, 8), (11, 9), (11, 10), (11, 11), (11, 12), (11, 13), (41, 999)] I I131 := hF130.trans hf131 rfl rfl
          have hFJ131 : Fr K [(11, 14), (42, 999)] J J131 := hFJ9.trans hfj131 rfl rfl
          refine r_aload_n hC dX10_readKnower_93 1 rfl ?_
          refine r_ldcwS hC (i := 59) (by decide) rfl rfl dX10_readKnower_94 ?_
          refine r_iconst hC (v := (0)) dX10_readKnower_97 (by decide) (by decide) (fun x132_ e132 t132 => ?_)
          refine r_sipush hC (v := (999)) dX10_readKnower_98 (by decide) (by decide) (fun x133_ e133 t133 => ?_)
          refine r_callV hC (As := [.ref (g.2.2.1 59), .int x132_, .int x133_]) (rest := []) (ci := 10) (c_X10_readPart g (xL X) K len I131 J131 R hs131 a0 ka0 59 (by decide) x132_ x133_) mT_6_1 mT_1_10 mT_5_238 mT_6_0 mP_56 okX10_readPart ⟨by decide, by decide⟩ rfl (by show kO (K a0) = _; rw [ka0]; rfl) rfl rfl (Nat.le_of_ble_eq_true rfl) ⟨by decide, by decide⟩ dX10_readKnower_101 (aI2 (F := fun st M => P g X 3 104 [(1, .int x83_), (0, .ref a0)] st _ _ M) (M := (K, len, I131, J131, R)) fun x134_ I134 J134 h134 => ?_)
          obtain ⟨hs134, hf134, hfj134, k134_0, k134_1, k134_2, k134_3⟩ := h134
          show P g X 3 104 [(1, .int x83_), (0, .ref a0)] [.int x134_] _ _ (K, len, I134, J134, R)
          have hF134 : Fr K [(10, 9), (10, 10), (11, 8), (11, 9), (11, 10), (11, 11), (11, 12), (11, 13), (41, 999)] I I134 := hF131.trans hf134 rfl rfl
          have hFJ134 : Fr K [(11, 14), (42, 999)] J J134 := hFJ131.trans hfj134 rfl rfl
          refine r_istore_n hC (lv' := [(2, .int x134_), (1, .int x83_), (0, .ref a0)]) dX10_readKnower_104 (by decide) rfl ?_
          refine r_aload_n hC dX10_readKnower_105 2 rfl ?_
          obtain ⟨A9, eA9⟩ : ∃ z : Int32, z = I134 a0 8 := ⟨_, rfl⟩
          have fA9 : A9.toInt = (I134 a0 8).toInt := by rw [eA9]
          have rA9 := hs134.rng ka0 rfl eA9
          refine r_geti hC 9 (ci := 10) rfl u10_in (by decide) mT_5_4 dX10_readKnower_106 ka0 rfl rfl (fun x135_ e135 => ?_)
          have f135 : x135_.toInt = (I134 a0 9).toInt := by rw [e135]
          refine r_iconst hC (v := (5)) dX10_readKnower_109 (by decide) (by decide) (fun x136_ e136 t136 => ?_)
          refine r_icmp_ne hC (tgt := 114) dX10_readKnower_110 (by decide) (fun c137 => ?_) (fun c137 => ?_)
          · refine r_aload_n hC dX10_readKnower_114 2 rfl ?_
            refine r_getr hC 4 (ci := 10) rfl u10_in (by decide) mT_4_239 dX10_readKnower_115 ka0 rfl rfl hbr ?_
            obtain ⟨a138_, hb138, hk138, hn138⟩ := hs134.row krm 23 41 4 (by decide) (by decide)
            refine r_getrN hC 23 (ci := 9) rfl u9_in (by decide) nF_23 dX10_readKnower_118 krm rfl rfl hb138 ?_
            refine r_aload_n hC dX10_readKnower_121 2 rfl ?_
            refine r_getr hC 4 (ci := 10) rfl u10_in (by decide) mT_4_239 dX10_readKnower_122 ka0 rfl rfl hbr ?_
            refine r_getiN hC 9 (ci := 9) rfl u9_in (by decide) nF_9 dX10_readKnower_125 krm rfl rfl (fun x139_ e139 => ?_)
            have r139 := hs134.rng krm rfl e139
            have f139 : x139_.toInt = (I134 rm 9).toInt := by rw [e139]
            have w139 : x139_ = x5_ := by rw [e139]; exact (Eq.trans (hf134.get krm rfl) (Eq.trans (hf131.get krm rfl) (Eq.trans (hf130.get krm rfl) (Eq.trans (hf81.get krm rfl) (Eq.trans (hf9.get krm rfl) (Eq.trans (hf6.get krm rfl) e5.symm))))))
            have wt139 : x139_.toInt = x5_.toInt := by rw [w139]
            refine r_aload_n hC dX10_readKnower_128 2 rfl ?_
            refine r_getr hC 4 (ci := 10) rfl u10_in (by decide) mT_4_239 dX10_readKnower_129 ka0 rfl rfl hbr ?_
            obtain ⟨a140_, hb140, hk140, hn140⟩ := hs134.row krm 27 41 19 (by decide) (by decide)
            refine r_getrN hC 27 (ci := 9) rfl u9_in (by decide) nF_27 dX10_readKnower_132 krm rfl rfl hb140 ?_
            refine r_iload_n hC dX10_readKnower_135 1 rfl ?_
            refine x_iaload hC hk140 hn140 (by decide) rfl rfl dX10_readKnower_136 (by omega) (by omega) (fun x141_ e141 => ?_)
            refine x_iastore hC hk138 hn138 (by decide) rfl rfl dX10_readKnower_137 (by omega) (by omega) (fun I142 eI142 => ?_)
            have hs142 := hs134.put0 eI142 hk138 (rng_arr (by decide) _) rfl (xF_arr (by decide) _) (by decide)
            have hF142 := hF134.put eI142 hk138 (inS_arr rfl _)
            refine r_aload_n hC dX10_readKnower_138 2 rfl ?_
            refine r_getr hC 4 (ci := 10) rfl u10_in (by decide) mT_4_239 dX10_readKnower_139 ka0 rfl rfl hbr ?_
            obtain ⟨a143_, hb143, hk143, hn143⟩ := hs142.row krm 24 41 4 (by decide) (by decide)
            refine r_getrN hC 24 (ci := 9) rfl u9_in (by decide) nF_24 dX10_readKnower_142 krm rfl rfl hb143 ?_
            refine r_aload_n hC dX10_readKnower_145 2 rfl ?_
            refine r_getr hC 4 (ci := 10) rfl u10_in (by decide) mT_4_239 dX10_readKnower_146 ka0 rfl rfl hbr ?_
            refine r_getiN hC 9 (ci := 9) rfl u9_in (by decide) nF_9 dX10_readKnower_149 krm rfl rfl (fun x144_ e144 => ?_)
            have r144 := hs142.rng krm rfl e144
            have f144 : x144_.toInt = (I142 rm 9).toInt := by rw [e144]
            have w144 : x144_ = x139_ := by rw [e144]; exact (Eq.trans (up2_kk eI142 hk138 krm (by decide)) e139.symm)
            have wt144 : x144_.toInt = x139_.toInt := by rw [w144]
            refine r_iload_n hC dX10_readKnower_152 0 rfl ?_
            refine x_iastore hC hk143 hn143 (by decide) rfl rfl dX10_readKnower_153 (by omega) (by omega) (fun I145 eI145 => ?_)
            have hs145 := hs142.put0 eI145 hk143 (rng_arr (by decide) _) rfl (xF_arr (by decide) _) (by decide)
            have hF145 := hF142.put eI145 hk143 (inS_arr rfl _)
            refine r_aload_n hC dX10_readKnower_154 2 rfl ?_
            refine r_getr hC 4 (ci := 10) rfl u10_in (by decide) mT_4_239 dX10_readKnower_155 ka0 rfl rfl hbr ?_
            refine r_dup hC dX10_readKnower_158 rfl ?_
            refine r_getiN hC 9 (ci := 9) rfl u9_in (by decide) nF_9 dX10_readKnower_159 krm rfl rfl (fun x146_ e146 => ?_)
            have r146 := hs145.rng krm rfl e146
            have f146 : x146_.toInt = (I145 rm 9).toInt := by rw [e146]
            have w146 : x146_ = x144_ := by rw [e146]; exact (Eq.trans (up2_kk eI145 hk143 krm (by decide)) e144.symm)
            have wt146 : x146_.toInt = x144_.toInt := by rw [w146]
            refine r_iconst hC (v := (1)) dX10_readKnower_162 (by decide) (by decide) (fun x147_ e147 t147 => ?_)
            refine r_iadd hC dX10_readKnower_163 (fun x148_ e148 => ?_)
            try have t148 : x148_.toInt = x146_.toInt + x147_.toInt := by rw [e148]; exact ti_add (by omega) (by omega)
            refine r_putiN hC 9 (ci := 9) rfl u9_in tyX9_ok nmX9 (by decide) nF_9 rfl rfl rfl dX10_readKnower_164 krm rfl rfl (fun I149 eI149 => ?_)
            have hs149 := hs145.put1 eI149 krm rfl (by omega) (by omega) rfl rfl (by decide)
            have hF149 := hF145.put eI149 krm rfl
            have hG3 : I149 rm 3 = G3 := (Eq.trans (up2_at (Or.inr (by decide)) eI149) (Eq.trans (up2_kk eI145 hk143 krm (by decide)) (Eq.trans (up2_kk eI142 hk138 krm (by decide)) (Eq.trans (hf134.get krm rfl) (Eq.trans (hf131.get krm rfl) (Eq.trans (hf130.get krm rfl) (Eq.trans (hf81.get krm rfl) (Eq.trans (hf9.get krm rfl) (Eq.trans (hf6.get krm rfl) (Eq.trans (hf3.get krm rfl) eG3.symm))))))))))
            have hG3t : (I149 rm 3).toInt = G3.toInt := congrArg Int32.toInt hG3
            have hG4 : I149 rm 4 = G4 := (Eq.trans (up2_at (Or.inr (by decide)) eI149) (Eq.trans (up2_kk eI145 hk143 krm (by decide)) (Eq.trans (up2_kk eI142 hk138 krm (by decide)) (Eq.trans (hf134.get krm rfl) (Eq.trans (hf131.get krm rfl) (Eq.trans (hf130.get krm rfl) (Eq.trans (hf81.get krm rfl) (Eq.trans (hf9.get krm rfl) (Eq.trans (hf6.get krm rfl) (Eq.trans (hf3.get krm rfl) eG4.symm))))))))))
            have hG4t : (I149 rm 4).toInt = G4.toInt := congrArg Int32.toInt hG4
            have hG7 : I149 rm 7 = G7 := (Eq.trans (up2_at (Or.inr (by decide)) eI149) (Eq.trans (up2_kk eI145 hk143 krm (by decide)) (Eq.trans (up2_kk eI142 hk138 krm (by decide)) (Eq.trans (hf134.get krm rfl) (Eq.trans (hf131.get krm rfl) (Eq.trans (hf130.get krm rfl) (Eq.trans (hf81.get krm rfl) (Eq.trans (hf9.get krm rfl) (Eq.trans (hf6.get krm rfl) (Eq.trans (hf3.get krm rfl) eG7.symm))))))))))
            have hG7t : (I149 rm 7).toInt = G7.toInt := congrArg Int32.toInt hG7
            have hG8 : I149 rm 8 = G8 := (Eq.trans (up2_at (Or.inr (by decide)) eI149) (Eq.trans (up2_kk eI145 hk143 krm (by decide)) (Eq.trans (up2_kk eI142 hk138 krm (by decide)) (Eq.trans (hf134.get krm rfl) (Eq.trans (hf131.get krm rfl) (Eq.trans (hf130.get krm rfl) (Eq.trans (hf81.get krm rfl) (Eq.trans (hf9.get krm rfl) (Eq.trans (hf6.get krm rfl) (Eq.trans (hf3.get krm rfl) eG8.symm))))))))))
            have hG8t : (I149 rm 8).toInt = G8.toInt := congrArg Int32.toInt hG8
            have hG9 : I149 rm 9 = x148_ := (by rw [eI149]; exact up2_self _ _ _ _)
            have hG9t : (I149 rm 9).toInt = x148_.toInt := congrArg Int32.toInt hG9
            have hGN : I149 rm 10 = N1 := (Eq.trans (up2_at (Or.inr (by decide)) eI149) (Eq.trans (up2_kk eI145 hk143 krm (by decide)) (Eq.trans (up2_kk eI142 hk138 krm (by decide)) (Eq.trans (hf134.get krm rfl) (Eq.trans (hf131.get krm rfl) (Eq.trans (hf130.get krm rfl) (Eq.trans (hf81.get krm rfl) (Eq.trans (hf9.get krm rfl) eN1.symm))))))))
            have hGNt : (I149 rm 10).toInt = N1.toInt := congrArg Int32.toInt hGN
            have hv8 : I149 a0 8 = A9 := (Eq.trans (up2_kk eI149 krm ka0 (by decide)) (Eq.trans (up2_kk eI145 hk143 ka0 (by decide)) (Eq.trans (up2_kk eI142 hk138 ka0 (by decide)) eA9.symm)))
            have hv8t : (I149 a0 8).toInt = A9.toInt := congrArg Int32.toInt hv8
            have hv9 : I149 a0 9 = x135_ := (Eq.trans (up2_kk eI149 krm ka0 (by decide)) (Eq.trans (up2_kk eI145 hk143 ka0 (by decide)) (Eq.trans (up2_kk eI142 hk138 ka0 (by decide)) e135.symm)))
            have hv9t : (I149 a0 9).toInt = x135_.toInt := congrArg Int32.toInt hv9
            exact r_vret hC hQ hlk hr (by decide) (by decide) dX10_readKnower_167 ⟨_, _, rfl, rfl, ⟨hs149, hF149, hFJ134, (by omega), (by omega), (by omega), (by omega)⟩⟩
          · have hG3 : I134 rm 3 = G3 := (Eq.trans (hf134.get krm rfl) (Eq.trans (hf131.get krm rfl) (Eq.trans (hf130.get krm rfl) (Eq.trans (hf81.get krm rfl) (Eq.trans (hf9.get krm rfl) (Eq.trans (hf6.get krm rfl) (Eq.trans (hf3.get krm rfl) eG3.symm)))))))
            have hG3t : (I134 rm 3).toInt = G3.toInt := congrArg Int32.toInt hG3
            have hG4 : I134 rm 4 = G4 := (Eq.trans (hf134.get krm rfl) (Eq.trans (hf131.get krm rfl) (Eq.trans (hf130.get krm rfl) (Eq.trans (hf81.get krm rfl) (Eq.trans (hf9.get krm rfl) (Eq.trans (hf6.get krm rfl) (Eq.trans (hf3.get krm rfl) eG4.symm)))))))
            have hG4t : (I134 rm 4).toInt = G4.toInt := congrArg Int32.toInt hG4
            have hG7 : I134 rm 7 = G7 := (Eq.trans (hf134.get krm rfl) (Eq.trans (hf131.get krm rfl) (Eq.trans (hf130.get krm rfl) (Eq.trans (hf81.get krm rfl) (Eq.trans (hf9.get krm rfl) (Eq.trans (hf6.get krm rfl) (Eq.trans (hf3.get krm rfl) eG7.symm)))))))
            have hG7t : (I134 rm 7).toInt = G7.toInt := congrArg Int32.toInt hG7
            have hG8 : I134 rm 8 = G8 := (Eq.trans (hf134.get krm rfl) (Eq.trans (hf131.get krm rfl) (Eq.trans (hf130.get krm rfl) (Eq.trans (hf81.get krm rfl) (Eq.trans (hf9.get krm rfl) (Eq.trans (hf6.get krm rfl) (Eq.trans (hf3.get krm rfl) eG8.symm)))))))
            have hG8t : (I134 rm 8).toInt = G8.toInt := congrArg Int32.toInt hG8
            have hG9 : I134 rm 9 = x5_ := (Eq.trans (hf134.get krm rfl) (Eq.trans (hf131.get krm rfl) (Eq.trans (hf130.get krm rfl) (Eq.trans (hf81.get krm rfl) (Eq.trans (hf9.get krm rfl) (Eq.trans (hf6.get krm rfl) e5.symm))))))
            have hG9t : (I134 rm 9).toInt = x5_.toInt := congrArg Int32.toInt hG9
            have hGN : I134 rm 10 = N1 := (Eq.trans (hf134.get krm rfl) (Eq.trans (hf131.get krm rfl) (Eq.trans (hf130.get krm rfl) (Eq.trans (hf81.get krm rfl) (Eq.trans (hf9.get krm rfl) eN1.symm)))))
            have hGNt : (I134 rm 10).toInt = N1.toInt := congrArg Int32.toInt hGN
            have hv8 : I134 a0 8 = A9 := eA9.symm
            have hv8t : (I134 a0 8).toInt = A9.toInt := congrArg Int32.toInt hv8
            have hv9 : I134 a0 9 = x135_ := e135.symm
            have hv9t : (I134 a0 9).toInt = x135_.toInt := congrArg Int32.toInt hv9
            exact r_vret hC hQ hlk hr (by decide) (by decide) dX10_readKnower_113 ⟨_, _, rfl, rfl, ⟨hs134, hF134, hFJ134, (by omega), (by omega), (by omega), (by omega)⟩⟩
  · refine r_aload_n hC dX10_readKnower_34 0 rfl ?_
    refine r_iconst hC (v := (1)) dX10_readKnower_35 (by decide) (by decide) (fun x150_ e150 t150 => ?_)
    refine r_callV hC (As := [.int x150_]) (rest := []) (ci := 10) (c_X10_wrong g (xL X) K len I6 J6 R hs6 a0 ka0 x150_) mT_5_236 mT_1_10 mT_5_233 mT_5_235 mP_55 okX10_wrong ⟨by decide, by decide⟩ rfl (by show kO (K a0) = _; rw [ka0]; rfl) rfl rfl (Nat.le_of_ble_eq_true rfl) ⟨by decide, by decide⟩ dX10_readKnower_36 (aV1 (F := fun st M => P g X 3 39 [(0, .ref a0)] st _ _ M) (M := (K, len, I6, J6, R)) fun I151 h151 => ?_)
    obtain ⟨hs151, hf151, k151_0, k151_1⟩ := h151
    show P g X 3 39 [(0, .ref a0)] [] _ _ (K, len, I151, J6, R)
    have hF151 : Fr K [(10, 9), (10, 10), (11, 8), (11, 9), (11, 10), (11, 11), (11, 12), (11, 13), (41, 999)] I I151 := hF6.trans hf151 rfl rfl
    refine r_aload_n hC dX10_readKnower_39 0 rfl ?_
    refine r_callV hC (As := []) (rest := []) (ci := 10) (c_X10_goesOn g (xL X) K len I151 J6 R hs151 a0 ka0) mT_5_199 mT_1_10 mT_5_196 mT_5_198 mP_49 okX10_goesOn ⟨by decide, by decide⟩ rfl (by show kO (K a0) = _; rw [ka0]; rfl) rfl rfl (Nat.le_of_ble_eq_true rfl) ⟨by decide, by decide⟩ dX10_readKnower_40 (aV2 (F := fun st M => P g X 3 43 [(0, .ref a0)] st _ _ M) (M := (K, len, I151, J6, R)) fun I152 J152 h152 => ?_)
    obtain ⟨hs152, hf152, hfj152, k152_0, k152_1, k152_2, k152_3⟩ := h152
    show P g X 3 43 [(0, .ref a0)] [] _ _ (K, len, I152, J152, R)
    have hF152 : Fr K [(10, 9), (10, 10), (11, 8), (11, 9), (11, 10), (11, 11), (11, 12), (11, 13), (41, 999)] I I152 := hF151.trans hf152 rfl rfl
    have hFJ152 : Fr K [(11, 14), (42, 999)] J J152 := hFJ6.trans hfj152 rfl rfl
    refine r_aload_n hC dX10_readKnower_43 0 rfl ?_
    refine r_callV hC (As := []) (rest := []) (ci := 10) (c_X10_isName g (xL X) K len I152 J152 R hs152 a0 ka0) mT_6_27 mT_1_10 mT_6_24 mT_6_26 mP_61 okX10_isName ⟨by decide, by decide⟩ rfl (by show kO (K a0) = _; rw [ka0]; rfl) rfl rfl (Nat.le_of_ble_eq_true rfl) ⟨by decide, by decide⟩ dX10_readKnower_44 (aI0 (F := fun st M => P g X 3 47 [(0, .ref a0)] st _ _ M) (M := (K, len, I152, J152, R)) fun x153_ h153 => ?_)
    obtain ⟨k153_0, k153_1, k153_2⟩ := h153
    show P g X 3 47 [(0, .ref a0)] [.int x153_] _ _ (K, len, I152, J152, R)
    refine r_if_ne hC (tgt := 55) dX10_readKnower_47 (by decide) (fun c154 => ?_) (fun c154 => ?_)
    · refine r_aload_n hC dX10_readKnower_55 0 rfl ?_
      refine r_getr hC 4 (ci := 10) rfl u10_in (by decide) mT_4_239 dX10_readKnower_56 ka0 rfl rfl hbr ?_
      refine r_aload_n hC dX10_readKnower_59 0 rfl ?_
      refine r_getj hC 14 (ci := 10) rfl u10_in (by decide) mT_5_9 dX10_readKnower_60 ka0 rfl rfl (fun y155_ e155 => ?_)
      refine r_callV hC (As := [.long y155_]) (rest := []) (ci := 9) (c_X9_find g (xL X) K len I152 J152 R hs152 rm krm y155_) mT_6_36 mT_1_17 mT_6_33 mT_6_34 mT_6_35 okX9_find ⟨by decide, by decide⟩ rfl (by show kO (K rm) = _; rw [krm]; rfl) rfl rfl (Nat.le_of_ble_eq_true rfl) ⟨by decide, by decide⟩ dX10_readKnower_63 (aI0 (F := fun st M => P g X 3 66 [(0, .ref a0)] st _ _ M) (M := (K, len, I152, J152, R)) fun x156_ h156 => ?_)
      obtain ⟨k156_0, k156_1⟩ := h156
      show P g X 3 66 [(0, .ref a0)] [.int x156_] _ _ (K, len, I152, J152, R)
      refine r_istore_n hC (lv' := [(1, .int x156_), (0, .ref a0)]) dX10_readKnower_66 (by decide) rfl ?_
      refine r_iload_n hC dX10_readKnower_67 0 rfl ?_
      refine r_iconst hC (v := (-1)) dX10_readKnower_68 (by decide) (by decide) (fun x157_ e157 t157 => ?_)
      refine r_icmp_eq hC (tgt := 84) dX10_readKnower_69 (by decide) (fun c158 => ?_) (fun c158 => ?_)
      · refine r_aload_n hC dX10_readKnower_84 1 rfl ?_
        refine r_iconst hC (v := (2)) dX10_readKnower_85 (by decide) (by decide) (fun x159_ e159 t159 => ?_)
        refine r_callV hC (As := [.int x159_]) (rest := []) (ci := 10) (c_X10_wrong g (xL X) K len I152 J152 R hs152 a0 ka0 x159_) mT_5_236 mT_1_10 mT_5_233 mT_5_235 mP_55 okX10_wrong ⟨by decide, by decide⟩ rfl (by show kO (K a0) = _; rw [ka0]; rfl) rfl rfl (Nat.le_of_ble_eq_true rfl) ⟨by decide, by decide⟩ dX10_readKnower_86 (aV1 (F := fun st M => P g X 3 89 [(1, .int x156_), (0, .ref a0)] st _ _ M) (M := (K, len, I152, J152, R)) fun I160 h160 => ?_)
        obtain ⟨hs160, hf160, k160_0, k160_1⟩ := h160
        show P g X 3 89 [(1, .int x156_), (0, .ref a0)] [] _ _ (K, len, I160, J152, R)
        have hF160 : Fr K [(10, 9), (10, 10), (11, 8), (11, 9), (11, 10), (11, 11), (11, 12), (11, 13), (41, 999)] I I160 := hF152.trans hf160 rfl rfl
        refine r_aload_n hC dX10_readKnower_89 1 rfl ?_
        refine r_callV hC (As := []) (rest := []) (ci := 10) (c_X10_goesOn g (xL X) K len I160 J152 R hs160 a0 ka0) mT_5_199 mT_1_10 mT_5_196 mT_5_198 mP_49 okX10_goesOn ⟨by decide, by decide⟩ rfl (by show kO (K a0) = _; rw [ka0]; rfl) rfl rfl (Nat.le_of_ble_eq_true rfl) ⟨by decide, by decide⟩ dX10_readKnower_90 (aV2 (F := fun st M => P g X 3 93 [(1, .int x156_), (0, .ref a0)] st _ _ M) (M := (K, len, I160, J152, R)) fun I161 J161 h161 => ?_)
        obtain ⟨hs161, hf161, hfj161, k161_0, k161_1, k161_2, k161_3⟩ := h161
        show P g X 3 93 [(1, .int x156_), (0, .ref a0)] [] _ _ (K, len, I161, J161, R)
        have hF161 : Fr K [(10, 9), (10, 10), (11, 8), (11, 9), (11, 10), (11, 11), (11, 12), (11, 13), (41, 999)] I I161 := hF160.trans hf161 rfl rfl
        have hFJ161 : Fr K [(11, 14), (42, 999)] J J161 := hFJ152.trans hfj161 rfl rfl
        refine r_aload_n hC dX10_readKnower_93 1 rfl ?_
        refine r_ldcwS hC (i := 59) (by decide) rfl rfl dX10_readKnower_94 ?_
        refine r_iconst hC (v := (0)) dX10_readKnower_97 (by decide) (by decide) (fun x162_ e162 t162 => ?_)
        refine r_sipush hC (v := (999)) dX10_readKnower_98 (by decide) (by decide) (fun x163_ e163 t163 => ?_)
        refine r_callV hC (As := [.ref (g.2.2.1 59), .int x162_, .int x163_]) (rest := []) (ci := 10) (c_X10_readPart g (xL X) K len I161 J161 R hs161 a0 ka0 59 (by decide) x162_ x163_) mT_6_1 mT_1_10 mT_5_238 mT_6_0 mP_56 okX10_readPart ⟨by decide, by decide⟩ rfl (by show kO (K a0) = _; rw [ka0]; rfl) rfl rfl (Nat.le_of_ble_eq_true rfl) ⟨by decide, by decide⟩ dX10_readKnower_101 (aI2 (F := fun st M => P g X 3 104 [(1, .int x156_), (0, .ref a0)] st _ _ M) (M := (K, len, I161, J161, R)) fun x164_ I164 J164 h164 => ?_)
        obtain ⟨hs164, hf164, hfj164, k164_0, k164_1, k164_2, k164_3⟩ := h164
        show P g X 3 104 [(1, .int x156_), (0, .ref a0)] [.int x164_] _ _ (K, len, I164, J164, R)
        have hF164 : Fr K [(10, 9), (10, 10), (11, 8), (11, 9), (11, 10), (11, 11), (11, 12), (11, 13), (41, 999)] I I164 := hF161.trans hf164 rfl rfl
        have hFJ164 : Fr K [(11, 14), (42, 999)] J J164 := hFJ161.trans hfj164 rfl rfl
        refine r_istore_n hC (lv' := [(2, .int x164_), (1, .int x156_), (0, .ref a0)]) dX10_readKnower_104 (by decide) rfl ?_
        refine r_aload_n hC dX10_readKnower_105 2 rfl ?_
        obtain ⟨A9, eA9⟩ : ∃ z : Int32, z = I164 a0 8 := ⟨_, rfl⟩
        have fA9 : A9.toInt = (I164 a0 8).toInt := by rw [eA9]
        have rA9 := hs164.rng ka0 rfl eA9
        refine r_geti hC 9 (ci := 10) rfl u10_in (by decide) mT_5_4 dX10_readKnower_106 ka0 rfl rfl (fun x165_ e165 => ?_)
        have f165 : x165_.toInt = (I164 a0 9).toInt := by rw [e165]
        refine r_iconst hC (v := (5)) dX10_readKnower_109 (by decide) (by decide) (fun x166_ e166 t166 => ?_)
        refine r_icmp_ne hC (tgt := 114) dX10_readKnower_110 (by decide) (fun c167 => ?_) (fun c167 => ?_)
        · refine r_aload_n hC dX10_readKnower_114 2 rfl ?_
          refine r_getr hC 4 (ci := 10) rfl u10_in (by decide) mT_4_239 dX10_readKnower_115 ka0 rfl rfl hbr ?_
          obtain ⟨a168_, hb168, hk168, hn168⟩ := hs164.row krm 23 41 4 (by decide) (by decide)
          refine r_getrN hC 23 (ci := 9) rfl u9_in (by decide) nF_23 dX10_readKnower_118 krm rfl rfl hb168 ?_
          refine r_aload_n hC dX10_readKnower_121 2 rfl ?_
          refine r_getr hC 4 (ci := 10) rfl u10_in (by decide) mT_4_239 dX10_readKnower_122 ka0 rfl rfl hbr ?_
          refine r_getiN hC 9 (ci := 9) rfl u9_in (by decide) nF_9 dX10_readKnower_125 krm rfl rfl (fun x169_ e169 => ?_)
          have r169 := hs164.rng krm rfl e169
          have f169 : x169_.toInt = (I164 rm 9).toInt := by rw [e169]
          have w169 : x169_ = x5_ := by rw [e169]; exact (Eq.trans (hf164.get krm rfl) (Eq.trans (hf161.get krm rfl) (Eq.trans (hf160.get krm rfl) (Eq.trans (hf152.get krm rfl) (Eq.trans (hf151.get krm rfl) (Eq.trans (hf6.get krm rfl) e5.symm))))))
          have wt169 : x169_.toInt = x5_.toInt := by rw [w169]
          refine r_aload_n hC dX10_readKnower_128 2 rfl ?_
          refine r_getr hC 4 (ci := 10) rfl u10_in (by decide) mT_4_239 dX10_readKnower_129 ka0 rfl rfl hbr ?_
          obtain ⟨a170_, hb170, hk170, hn170⟩ := hs164.row krm 27 41 19 (by decide) (by decide)
          refine r_getrN hC 27 (ci := 9) rfl u9_in (by decide) nF_27 dX10_readKnower_132 krm rfl rfl hb170 ?_
          refine r_iload_n hC dX10_readKnower_135 1 rfl ?_
          refine x_iaload hC hk170 hn170 (by decide) rfl rfl dX10_readKnower_136 (by omega) (by omega) (fun x171_ e171 => ?_)
          refine x_iastore hC hk168 hn168 (by decide) rfl rfl dX10_readKnower_137 (by omega) (by omega) (fun I172 eI172 => ?_)
          have hs172 := hs164.put0 eI172 hk168 (rng_arr (by decide) _) rfl (xF_arr (by decide) _) (by decide)
          have hF172 := hF164.put eI172 hk168 (inS_arr rfl _)
          refine r_aload_n hC dX10_readKnower_138 2 rfl ?_
          refine r_getr hC 4 (ci := 10) rfl u10_in (by decide) mT_4_239 dX10_readKnower_139 ka0 rfl rfl hbr ?_
          obtain ⟨a173_, hb173, hk173, hn173⟩ := hs172.row krm 24 41 4 (by decide) (by decide)
          refine r_getrN hC 24 (ci := 9) rfl u9_in (by decide) nF_24 dX10_readKnower_142 krm rfl rfl hb173 ?_
          refine r_aload_n hC dX10_readKnower_145 2 rfl ?_
          refine r_getr hC 4 (ci := 10) rfl u10_in (by decide) mT_4_239 dX10_readKnower_146 ka0 rfl rfl hbr ?_
          refine r_getiN hC 9 (ci := 9) rfl u9_in (by decide) nF_9 dX10_readKnower_149 krm rfl rfl (fun x174_ e174 => ?_)
          have r174 := hs172.rng krm rfl e174
          have f174 : x174_.toInt = (I172 rm 9).toInt := by rw [e174]
          have w174 : x174_ = x169_ := by rw [e174]; exact (Eq.trans (up2_kk eI172 hk168 krm (by decide)) e169.symm)
          have wt174 : x174_.toInt = x169_.toInt := by rw [w174]
          refine r_iload_n hC dX10_readKnower_152 0 rfl ?_
          refine x_iastore hC hk173 hn173 (by decide) rfl rfl dX10_readKnower_153 (by omega) (by omega) (fun I175 eI175 => ?_)
          have hs175 := hs172.put0 eI175 hk173 (rng_arr (by decide) _) rfl (xF_arr (by decide) _) (by decide)
          have hF175 := hF172.put eI175 hk173 (inS_arr rfl _)
          refine r_aload_n hC dX10_readKnower_154 2 rfl ?_
          refine r_getr hC 4 (ci := 10) rfl u10_in (by decide) mT_4_239 dX10_readKnower_155 ka0 rfl rfl hbr ?_
          refine r_dup hC dX10_readKnower_158 rfl ?_
          refine r_getiN hC 9 (ci := 9) rfl u9_in (by decide) nF_9 dX10_readKnower_159 krm rfl rfl (fun x176_ e176 => ?_)
          have r176 := hs175.rng krm rfl e176
          have f176 : x176_.toInt = (I175 rm 9).toInt := by rw [e176]
          have w176 : x176_ = x174_ := by rw [e176]; exact (Eq.trans (up2_kk eI175 hk173 krm (by decide)) e174.symm)
          have wt176 : x176_.toInt = x174_.toInt := by rw [w176]
          refine r_iconst hC (v := (1)) dX10_readKnower_162 (by decide) (by decide) (fun x177_ e177 t177 => ?_)
          refine r_iadd hC dX10_readKnower_163 (fun x178_ e178 => ?_)
          try have t178 : x178_.toInt = x176_.toInt + x177_.toInt := by rw [e178]; exact ti_add (by omega) (by omega)
          refine r_putiN hC 9 (ci := 9) rfl u9_in tyX9_ok nmX9 (by decide) nF_9 rfl rfl rfl dX10_readKnower_164 krm rfl rfl (fun I179 eI179 => ?_)
          have hs179 := hs175.put1 eI179 krm rfl (by omega) (by omega) rfl rfl (by decide)
          have hF179 := hF175.put eI179 krm rfl
          have hG3 : I179 rm 3 = G3 := (Eq.trans (up2_at (Or.inr (by decide)) eI179) (Eq.trans (up2_kk eI175 hk173 krm (by decide)) (Eq.trans (up2_kk eI172 hk168 krm (by decide)) (Eq.trans (hf164.get krm rfl) (Eq.trans (hf161.get krm rfl) (Eq.trans (hf160.get krm rfl) (Eq.trans (hf152.get krm rfl) (Eq.trans (hf151.get krm rfl) (Eq.trans (hf6.get krm rfl) (Eq.trans (hf3.get krm rfl) eG3.symm))))))))))
          have hG3t : (I179 rm 3).toInt = G3.toInt := congrArg Int32.toInt hG3
          have hG4 : I179 rm 4 = G4 := (Eq.trans (up2_at (Or.inr (by decide)) eI179) (Eq.trans (up2_kk eI175 hk173 krm (by decide)) (Eq.trans (up2_kk eI172 hk168 krm (by decide)) (Eq.trans (hf164.get krm rfl) (Eq.trans (hf161.get krm rfl) (Eq.trans (hf160.get krm rfl) (Eq.trans (hf152.get krm rfl) (Eq.trans (hf151.get krm rfl) (Eq.trans (hf6.get krm rfl) (Eq.trans (hf3.get krm rfl) eG4.symm))))))))))
          have hG4t : (I179 rm 4).toInt = G4.toInt := congrArg Int32.toInt hG4
          have hG7 : I179 rm 7 = G7 := (Eq.trans (up2_at (Or.inr (by decide)) eI179) (Eq.trans (up2_kk eI175 hk173 krm (by decide)) (Eq.trans (up2_kk eI172 hk168 krm (by decide)) (Eq.trans (hf164.get krm rfl) (Eq.trans (hf161.get krm rfl) (Eq.trans (hf160.get krm rfl) (Eq.trans (hf152.get krm rfl) (Eq.trans (hf151.get krm rfl) (Eq.trans (hf6.get krm rfl) (Eq.trans (hf3.get krm rfl) eG7.symm))))))))))
          have hG7t : (I179 rm 7).toInt = G7.toInt := congrArg Int32.toInt hG7
          have hG8 : I179 rm 8 = G8 := (Eq.trans (up2_at (Or.inr (by decide)) eI179) (Eq.trans (up2_kk eI175 hk173 krm (by decide)) (Eq.trans (up2_kk eI172 hk168 krm (by decide)) (Eq.trans (hf164.get krm rfl) (Eq.trans (hf161.get krm rfl) (Eq.trans (hf160.get krm rfl) (Eq.trans (hf152.get krm rfl) (Eq.trans (hf151.get krm rfl) (Eq.trans (hf6.get krm rfl) (Eq.trans (hf3.get krm rfl) eG8.symm))))))))))
          have hG8t : (I179 rm 8).toInt = G8.toInt := congrArg Int32.toInt hG8
          have hG9 : I179 rm 9 = x178_ := (by rw [eI179]; exact up2_self _ _ _ _)
          have hG9t : (I179 rm 9).toInt = x178_.toInt := congrArg Int32.toInt hG9
          have hGN : I179 rm 10 = N1 := (Eq.trans (up2_at (Or.inr (by decide)) eI179) (Eq.trans (up2_kk eI175 hk173 krm (by decide)) (Eq.trans (up2_kk eI172 hk168 krm (by decide)) (Eq.trans (hf164.get krm rfl) (Eq.trans (hf161.get krm rfl) (Eq.trans (hf160.get krm rfl) (Eq.trans (hf152.get krm rfl) (Eq.trans (hf151.get krm rfl) eN1.symm))))))))
          have hGNt : (I179 rm 10).toInt = N1.toInt := congrArg Int32.toInt hGN
          have hv8 : I179 a0 8 = A9 := (Eq.trans (up2_kk eI179 krm ka0 (by decide)) (Eq.trans (up2_kk eI175 hk173 ka0 (by decide)) (Eq.trans (up2_kk eI172 hk168 ka0 (by decide)) eA9.symm)))
          have hv8t : (I179 a0 8).toInt = A9.toInt := congrArg Int32.toInt hv8
          have hv9 : I179 a0 9 = x165_ := (Eq.trans (up2_kk eI179 krm ka0 (by decide)) (Eq.trans (up2_kk eI175 hk173 ka0 (by decide)) (Eq.trans (up2_kk eI172 hk168 ka0 (by decide)) e165.symm)))
          have hv9t : (I179 a0 9).toInt = x165_.toInt := congrArg Int32.toInt hv9
          exact r_vret hC hQ hlk hr (by decide) (by decide) dX10_readKnower_167 ⟨_, _, rfl, rfl, ⟨hs179, hF179, hFJ164, (by omega), (by omega), (by omega), (by omega)⟩⟩
        · have hG3 : I164 rm 3 = G3 := (Eq.trans (hf164.get krm rfl) (Eq.trans (hf161.get krm rfl) (Eq.trans (hf160.get krm rfl) (Eq.trans (hf152.get krm rfl) (Eq.trans (hf151.get krm rfl) (Eq.trans (hf6.get krm rfl) (Eq.trans (hf3.get krm rfl) eG3.symm)))))))
          have hG3t : (I164 rm 3).toInt = G3.toInt := congrArg Int32.toInt hG3
          have hG4 : I164 rm 4 = G4 := (Eq.trans (hf164.get krm rfl) (Eq.trans (hf161.get krm rfl) (Eq.trans (hf160.get krm rfl) (Eq.trans (hf152.get krm rfl) (Eq.trans (hf151.get krm rfl) (Eq.trans (hf6.get krm rfl) (Eq.trans (hf3.get krm rfl) eG4.symm)))))))
          have hG4t : (I164 rm 4).toInt = G4.toInt := congrArg Int32.toInt hG4
          have hG7 : I164 rm 7 = G7 := (Eq.trans (hf164.get krm rfl) (Eq.trans (hf161.get krm rfl) (Eq.trans (hf160.get krm rfl) (Eq.trans (hf152.get krm rfl) (Eq.trans (hf151.get krm rfl) (Eq.trans (hf6.get krm rfl) (Eq.trans (hf3.get krm rfl) eG7.symm)))))))
          have hG7t : (I164 rm 7).toInt = G7.toInt := congrArg Int32.toInt hG7
          have hG8 : I164 rm 8 = G8 := (Eq.trans (hf164.get krm rfl) (Eq.trans (hf161.get krm rfl) (Eq.trans (hf160.get krm rfl) (Eq.trans (hf152.get krm rfl) (Eq.trans (hf151.get krm rfl) (Eq.trans (hf6.get krm rfl) (Eq.trans (hf3.get krm rfl) eG8.symm)))))))
          have hG8t : (I164 rm 8).toInt = G8.toInt := congrArg Int32.toInt hG8
          have hG9 : I164 rm 9 = x5_ := (Eq.trans (hf164.get krm rfl) (Eq.trans (hf161.get krm rfl) (Eq.trans (hf160.get krm rfl) (Eq.trans (hf152.get krm rfl) (Eq.trans (hf151.get krm rfl) (Eq.trans (hf6.get krm rfl) e5.symm))))))
          have hG9t : (I164 rm 9).toInt = x5_.toInt := congrArg Int32.toInt hG9
          have hGN : I164 rm 10 = N1 := (Eq.trans (hf164.get krm rfl) (Eq.trans (hf161.get krm rfl) (Eq.trans (hf160.get krm rfl) (Eq.trans (hf152.get krm rfl) (Eq.trans (hf151.get krm rfl) eN1.symm)))))
          have hGNt : (I164 rm 10).toInt = N1.toInt := congrArg Int32.toInt hGN
          have hv8 : I164 a0 8 = A9 := eA9.symm
          have hv8t : (I164 a0 8).toInt = A9.toInt := congrArg Int32.toInt hv8
          have hv9 : I164 a0 9 = x165_ := e165.symm
          have hv9t : (I164 a0 9).toInt = x165_.toInt := congrArg Int32.toInt hv9
          exact r_vret hC hQ hlk hr (by decide) (by decide) dX10_readKnower_113 ⟨_, _, rfl, rfl, ⟨hs164, hF164, hFJ164, (by omega), (by omega), (by omega), (by omega)⟩⟩
      · refine r_aload_n hC dX10_readKnower_72 1 rfl ?_
        refine r_getr hC 4 (ci := 10) rfl u10_in (by decide) mT_4_239 dX10_readKnower_73 ka0 rfl rfl hbr ?_
        obtain ⟨a180_, hb180, hk180, hn180⟩ := hs152.row krm 26 41 19 (by decide) (by decide)
        refine r_getrN hC 26 (ci := 9) rfl u9_in (by decide) nF_26 dX10_readKnower_76 krm rfl rfl hb180 ?_
        refine r_iload_n hC dX10_readKnower_79 0 rfl ?_
        refine x_iaload hC hk180 hn180 (by decide) rfl rfl dX10_readKnower_80 (by omega) (by omega) (fun x181_ e181 => ?_)
        refine r_if_eq hC (tgt := 89) dX10_readKnower_81 (by decide) (fun c182 => ?_) (fun c182 => ?_)
        · refine r_aload_n hC dX10_readKnower_89 1 rfl ?_
          refine r_callV hC (As := []) (rest := []) (ci := 10) (c_X10_goesOn g (xL X) K len I152 J152 R hs152 a0 ka0) mT_5_199 mT_1_10 mT_5_196 mT_5_198 mP_49 okX10_goesOn ⟨by decide, by decide⟩ rfl (by show kO (K a0) = _; rw [ka0]; rfl) rfl rfl (Nat.le_of_ble_eq_true rfl) ⟨by decide, by decide⟩ dX10_readKnower_90 (aV2 (F := fun st M => P g X 3 93 [(1, .int x156_), (0, .ref a0)] st _ _ M) (M := (K, len, I152, J152, R)) fun I183 J183 h183 => ?_)
          obtain ⟨hs183, hf183, hfj183, k183_0, k183_1, k183_2, k183_3⟩ := h183
          show P g X 3 93 [(1, .int x156_), (0, .ref a0)] [] _ _ (K, len, I183, J183, R)
          have hF183 : Fr K [(10, 9), (10, 10), (11, 8), (11, 9), (11, 10), (11, 11), (11, 12), (11, 13), (41, 999)] I I183 := hF152.trans hf183 rfl rfl
          have hFJ183 : Fr K [(11, 14), (42, 999)] J J183 := hFJ152.trans hfj183 rfl rfl
          refine r_aload_n hC dX10_readKnower_93 1 rfl ?_
          refine r_ldcwS hC (i := 59) (by decide) rfl rfl dX10_readKnower_94 ?_
          refine r_iconst hC (v := (0)) dX10_readKnower_97 (by decide) (by decide) (fun x184_ e184 t184 => ?_)
          refine r_sipush hC (v := (999)) dX10_readKnower_98 (by decide) (by decide) (fun x185_ e185 t185 => ?_)
          refine r_callV hC (As := [.ref (g.2.2.1 59), .int x184_, .int x185_]) (rest := []) (ci := 10) (c_X10_readPart g (xL X) K len I183 J183 R hs183 a0 ka0 59 (by decide) x184_ x185_) mT_6_1 mT_1_10 mT_5_238 mT_6_0 mP_56 okX10_readPart ⟨by decide, by decide⟩ rfl (by show kO (K a0) = _; rw [ka0]; rfl) rfl rfl (Nat.le_of_ble_eq_true rfl) ⟨by decide, by decide⟩ dX10_readKnower_101 (aI2 (F := fun st M => P g X 3 104 [(1, .int x156_), (0, .ref a0)] st _ _ M) (M := (K, len, I183, J183, R)) fun x186_ I186 J186 h186 => ?_)
          obtain ⟨hs186, hf186, hfj186, k186_0, k186_1, k186_2, k186_3⟩ := h186
          show P g X 3 104 [(1, .int x156_), (0, .ref a0)] [.int x186_] _ _ (K, len, I186, J186, R)
          have hF186 : Fr K [(10, 9), (10, 10), (11, 8), (11, 9), (11, 10), (11, 11), (11, 12), (11, 13), (41, 999)] I I186 := hF183.trans hf186 rfl rfl
          have hFJ186 : Fr K [(11, 14), (42, 999)] J J186 := hFJ183.trans hfj186 rfl rfl
          refine r_istore_n hC (lv' := [(2, .int x186_), (1, .int x156_), (0, .ref a0)]) dX10_readKnower_104 (by decide) rfl ?_
          refine r_aload_n hC dX10_readKnower_105 2 rfl ?_
          obtain ⟨A9, eA9⟩ : ∃ z : Int32, z = I186 a0 8 := ⟨_, rfl⟩
          have fA9 : A9.toInt = (I186 a0 8).toInt := by rw [eA9]
          have rA9 := hs186.rng ka0 rfl eA9
          refine r_geti hC 9 (ci := 10) rfl u10_in (by decide) mT_5_4 dX10_readKnower_106 ka0 rfl rfl (fun x187_ e187 => ?_)
          have f187 : x187_.toInt = (I186 a0 9).toInt := by rw [e187]
          refine r_iconst hC (v := (5)) dX10_readKnower_109 (by decide) (by decide) (fun x188_ e188 t188 => ?_)
          refine r_icmp_ne hC (tgt := 114) dX10_readKnower_110 (by decide) (fun c189 => ?_) (fun c189 => ?_)
          · refine r_aload_n hC dX10_readKnower_114 2 rfl ?_
            refine r_getr hC 4 (ci := 10) rfl u10_in (by decide) mT_4_239 dX10_readKnower_115 ka0 rfl rfl hbr ?_
            obtain ⟨a190_, hb190, hk190, hn190⟩ := hs186.row krm 23 41 4 (by decide) (by decide)
            refine r_getrN hC 23 (ci := 9) rfl u9_in (by decide) nF_23 dX10_readKnower_118 krm rfl rfl hb190 ?_
            refine r_aload_n hC dX10_readKnower_121 2 rfl ?_
            refine r_getr hC 4 (ci := 10) rfl u10_in (by decide) mT_4_239 dX10_readKnower_122 ka0 rfl rfl hbr ?_
            refine r_getiN hC 9 (ci := 9) rfl u9_in (by decide) nF_9 dX10_readKnower_125 krm rfl rfl (fun x191_ e191 => ?_)
            have r191 := hs186.rng krm rfl e191
            have f191 : x191_.toInt = (I186 rm 9).toInt := by rw [e191]
            have w191 : x191_ = x5_ := by rw [e191]; exact (Eq.trans (hf186.get krm rfl) (Eq.trans (hf183.get krm rfl) (Eq.trans (hf152.get krm rfl) (Eq.trans (hf151.get krm rfl) (Eq.trans (hf6.get krm rfl) e5.symm)))))
            have wt191 : x191_.toInt = x5_.toInt := by rw [w191]
            refine r_aload_n hC dX10_readKnower_128 2 rfl ?_
            refine r_getr hC 4 (ci := 10) rfl u10_in (by decide) mT_4_239 dX10_readKnower_129 ka0 rfl rfl hbr ?_
            obtain ⟨a192_, hb192, hk192, hn192⟩ := hs186.row krm 27 41 19 (by decide) (by decide)
            refine r_getrN hC 27 (ci := 9) rfl u9_in (by decide) nF_27 dX10_readKnower_132 krm rfl rfl hb192 ?_
            refine r_iload_n hC dX10_readKnower_135 1 rfl ?_
            refine x_iaload hC hk192 hn192 (by decide) rfl rfl dX10_readKnower_136 (by omega) (by omega) (fun x193_ e193 => ?_)
            refine x_iastore hC hk190 hn190 (by decide) rfl rfl dX10_readKnower_137 (by omega) (by omega) (fun I194 eI194 => ?_)
            have hs194 := hs186.put0 eI194 hk190 (rng_arr (by decide) _) rfl (xF_arr (by decide) _) (by decide)
            have hF194 := hF186.put eI194 hk190 (inS_arr rfl _)
            refine r_aload_n hC dX10_readKnower_138 2 rfl ?_
            refine r_getr hC 4 (ci := 10) rfl u10_in (by decide) mT_4_239 dX10_readKnower_139 ka0 rfl rfl hbr ?_
            obtain ⟨a195_, hb195, hk195, hn195⟩ := hs194.row krm 24 41 4 (by decide) (by decide)
            refine r_getrN hC 24 (ci := 9) rfl u9_in (by decide) nF_24 dX10_readKnower_142 krm rfl rfl hb195 ?_
            refine r_aload_n hC dX10_readKnower_145 2 rfl ?_
            refine r_getr hC 4 (ci := 10) rfl u10_in (by decide) mT_4_239 dX10_readKnower_146 ka0 rfl rfl hbr ?_
            refine r_getiN hC 9 (ci := 9) rfl u9_in (by decide) nF_9 dX10_readKnower_149 krm rfl rfl (fun x196_ e196 => ?_)
            have r196 := hs194.rng krm rfl e196
            have f196 : x196_.toInt = (I194 rm 9).toInt := by rw [e196]
            have w196 : x196_ = x191_ := by rw [e196]; exact (Eq.trans (up2_kk eI194 hk190 krm (by decide)) e191.symm)
            have wt196 : x196_.toInt = x191_.toInt := by rw [w196]
            refine r_iload_n hC dX10_readKnower_152 0 rfl ?_
            refine x_iastore hC hk195 hn195 (by decide) rfl rfl dX10_readKnower_153 (by omega) (by omega) (fun I197 eI197 => ?_)
            have hs197 := hs194.put0 eI197 hk195 (rng_arr (by decide) _) rfl (xF_arr (by decide) _) (by decide)
            have hF197 := hF194.put eI197 hk195 (inS_arr rfl _)
            refine r_aload_n hC dX10_readKnower_154 2 rfl ?_
            refine r_getr hC 4 (ci := 10) rfl u10_in (by decide) mT_4_239 dX10_readKnower_155 ka0 rfl rfl hbr ?_
            refine r_dup hC dX10_readKnower_158 rfl ?_
            refine r_getiN hC 9 (ci := 9) rfl u9_in (by decide) nF_9 dX10_readKnower_159 krm rfl rfl (fun x198_ e198 => ?_)
            have r198 := hs197.rng krm rfl e198
            have f198 : x198_.toInt = (I197 rm 9).toInt := by rw [e198]
            have w198 : x198_ = x196_ := by rw [e198]; exact (Eq.trans (up2_kk eI197 hk195 krm (by decide)) e196.symm)
            have wt198 : x198_.toInt = x196_.toInt := by rw [w198]
            refine r_iconst hC (v := (1)) dX10_readKnower_162 (by decide) (by decide) (fun x199_ e199 t199 => ?_)
            refine r_iadd hC dX10_readKnower_163 (fun x200_ e200 => ?_)
            try have t200 : x200_.toInt = x198_.toInt + x199_.toInt := by rw [e200]; exact ti_add (by omega) (by omega)
            refine r_putiN hC 9 (ci := 9) rfl u9_in tyX9_ok nmX9 (by decide) nF_9 rfl rfl rfl dX10_readKnower_164 krm rfl rfl (fun I201 eI201 => ?_)
            have hs201 := hs197.put1 eI201 krm rfl (by omega) (by omega) rfl rfl (by decide)
            have hF201 := hF197.put eI201 krm rfl
            have hG3 : I201 rm 3 = G3 := (Eq.trans (up2_at (Or.inr (by decide)) eI201) (Eq.trans (up2_kk eI197 hk195 krm (by decide)) (Eq.trans (up2_kk eI194 hk190 krm (by decide)) (Eq.trans (hf186.get krm rfl) (Eq.trans (hf183.get krm rfl) (Eq.trans (hf152.get krm rfl) (Eq.trans (hf151.get krm rfl) (Eq.trans (hf6.get krm rfl) (Eq.trans (hf3.get krm rfl) eG3.symm)))))))))
            have hG3t : (I201 rm 3).toInt = G3.toInt := congrArg Int32.toInt hG3
            have hG4 : I201 rm 4 = G4 := (Eq.trans (up2_at (Or.inr (by decide)) eI201) (Eq.trans (up2_kk eI197 hk195 krm (by decide)) (Eq.trans (up2_kk eI194 hk190 krm (by decide)) (Eq.trans (hf186.get krm rfl) (Eq.trans (hf183.get krm rfl) (Eq.trans (hf152.get krm rfl) (Eq.trans (hf151.get krm rfl) (Eq.trans (hf6.get krm rfl) (Eq.trans (hf3.get krm rfl) eG4.symm)))))))))
            have hG4t : (I201 rm 4).toInt = G4.toInt := congrArg Int32.toInt hG4
            have hG7 : I201 rm 7 = G7 := (Eq.trans (up2_at (Or.inr (by decide)) eI201) (Eq.trans (up2_kk eI197 hk195 krm (by decide)) (Eq.trans (up2_kk eI194 hk190 krm (by decide)) (Eq.trans (hf186.get krm rfl) (Eq.trans (hf183.get krm rfl) (Eq.trans (hf152.get krm rfl) (Eq.trans (hf151.get krm rfl) (Eq.trans (hf6.get krm rfl) (Eq.trans (hf3.get krm rfl) eG7.symm)))))))))
            have hG7t : (I201 rm 7).toInt = G7.toInt := congrArg Int32.toInt hG7
            have hG8 : I201 rm 8 = G8 := (Eq.trans (up2_at (Or.inr (by decide)) eI201) (Eq.trans (up2_kk eI197 hk195 krm (by decide)) (Eq.trans (up2_kk eI194 hk190 krm (by decide)) (Eq.trans (hf186.get krm rfl) (Eq.trans (hf183.get krm rfl) (Eq.trans (hf152.get krm rfl) (Eq.trans (hf151.get krm rfl) (Eq.trans (hf6.get krm rfl) (Eq.trans (hf3.get krm rfl) eG8.symm)))))))))
            have hG8t : (I201 rm 8).toInt = G8.toInt := congrArg Int32.toInt hG8
            have hG9 : I201 rm 9 = x200_ := (by rw [eI201]; exact up2_self _ _ _ _)
            have hG9t : (I201 rm 9).toInt = x200_.toInt := congrArg Int32.toInt hG9
            have hGN : I201 rm 10 = N1 := (Eq.trans (up2_at (Or.inr (by decide)) eI201) (Eq.trans (up2_kk eI197 hk195 krm (by decide)) (Eq.trans (up2_kk eI194 hk190 krm (by decide)) (Eq.trans (hf186.get krm rfl) (Eq.trans (hf183.get krm rfl) (Eq.trans (hf152.get krm rfl) (Eq.trans (hf151.get krm rfl) eN1.symm)))))))
            have hGNt : (I201 rm 10).toInt = N1.toInt := congrArg Int32.toInt hGN
            have hv8 : I201 a0 8 = A9 := (Eq.trans (up2_kk eI201 krm ka0 (by decide)) (Eq.trans (up2_kk eI197 hk195 ka0 (by decide)) (Eq.trans (up2_kk eI194 hk190 ka0 (by decide)) eA9.symm)))
            have hv8t : (I201 a0 8).toInt = A9.toInt := congrArg Int32.toInt hv8
            have hv9 : I201 a0 9 = x187_ := (Eq.trans (up2_kk eI201 krm ka0 (by decide)) (Eq.trans (up2_kk eI197 hk195 ka0 (by decide)) (Eq.trans (up2_kk eI194 hk190 ka0 (by decide)) e187.symm)))
            have hv9t : (I201 a0 9).toInt = x187_.toInt := congrArg Int32.toInt hv9
            exact r_vret hC hQ hlk hr (by decide) (by decide) dX10_readKnower_167 ⟨_, _, rfl, rfl, ⟨hs201, hF201, hFJ186, (by omega), (by omega), (by omega), (by omega)⟩⟩
          · have hG3 : I186 rm 3 = G3 := (Eq.trans (hf186.get krm rfl) (Eq.trans (hf183.get krm rfl) (Eq.trans (hf152.get krm rfl) (Eq.trans (hf151.get krm rfl) (Eq.trans (hf6.get krm rfl) (Eq.trans (hf3.get krm rfl) eG3.symm))))))
            have hG3t : (I186 rm 3).toInt = G3.toInt := congrArg Int32.toInt hG3
            have hG4 : I186 rm 4 = G4 := (Eq.trans (hf186.get krm rfl) (Eq.trans (hf183.get krm rfl) (Eq.trans (hf152.get krm rfl) (Eq.trans (hf151.get krm rfl) (Eq.trans (hf6.get krm rfl) (Eq.trans (hf3.get krm rfl) eG4.symm))))))
            have hG4t : (I186 rm 4).toInt = G4.toInt := congrArg Int32.toInt hG4
            have hG7 : I186 rm 7 = G7 := (Eq.trans (hf186.get krm rfl) (Eq.trans (hf183.get krm rfl) (Eq.trans (hf152.get krm rfl) (Eq.trans (hf151.get krm rfl) (Eq.trans (hf6.get krm rfl) (Eq.trans (hf3.get krm rfl) eG7.symm))))))
            have hG7t : (I186 rm 7).toInt = G7.toInt := congrArg Int32.toInt hG7
            have hG8 : I186 rm 8 = G8 := (Eq.trans (hf186.get krm rfl) (Eq.trans (hf183.get krm rfl) (Eq.trans (hf152.get krm rfl) (Eq.trans (hf151.get krm rfl) (Eq.trans (hf6.get krm rfl) (Eq.trans (hf3.get krm rfl) eG8.symm))))))
            have hG8t : (I186 rm 8).toInt = G8.toInt := congrArg Int32.toInt hG8
            have hG9 : I186 rm 9 = x5_ := (Eq.trans (hf186.get krm rfl) (Eq.trans (hf183.get krm rfl) (Eq.trans (hf152.get krm rfl) (Eq.trans (hf151.get krm rfl) (Eq.trans (hf6.get krm rfl) e5.symm)))))
            have hG9t : (I186 rm 9).toInt = x5_.toInt := congrArg Int32.toInt hG9
            have hGN : I186 rm 10 = N1 := (Eq.trans (hf186.get krm rfl) (Eq.trans (hf183.get krm rfl) (Eq.trans (hf152.get krm rfl) (Eq.trans (hf151.get krm rfl) eN1.symm))))
            have hGNt : (I186 rm 10).toInt = N1.toInt := congrArg Int32.toInt hGN
            have hv8 : I186 a0 8 = A9 := eA9.symm
            have hv8t : (I186 a0 8).toInt = A9.toInt := congrArg Int32.toInt hv8
            have hv9 : I186 a0 9 = x187_ := e187.symm
            have hv9t : (I186 a0 9).toInt = x187_.toInt := congrArg Int32.toInt hv9
            exact r_vret hC hQ hlk hr (by decide) (by decide) dX10_readKnower_113 ⟨_, _, rfl, rfl, ⟨hs186, hF186, hFJ186, (by omega), (by omega), (by omega), (by omega)⟩⟩
        · refine r_aload_n hC dX10_readKnower_84 1 rfl ?_
          refine r_iconst hC (v := (2)) dX10_readKnower_85 (by decide) (by decide) (fun x202_ e202 t202 => ?_)
          refine r_callV hC (As := [.int x202_]) (rest := []) (ci := 10) (c_X10_wrong g (xL X) K len I152 J152 R hs152 a0 ka0 x202_) mT_5_236 mT_1_10 mT_5_233 mT_5_235 mP_55 okX10_wrong ⟨by decide, by decide⟩ rfl (by show kO (K a0) = _; rw [ka0]; rfl) rfl rfl (Nat.le_of_ble_eq_true rfl) ⟨by decide, by decide⟩ dX10_readKnower_86 (aV1 (F := fun st M => P g X 3 89 [(1, .int x156_), (0, .ref a0)] st _ _ M) (M := (K, len, I152, J152, R)) fun I203 h203 => ?_)
          obtain ⟨hs203, hf203, k203_0, k203_1⟩ := h203
          show P g X 3 89 [(1, .int x156_), (0, .ref a0)] [] _ _ (K, len, I203, J152, R)
          have hF203 : Fr K [(10, 9), (10, 10), (11, 8), (11, 9), (11, 10), (11, 11), (11, 12), (11, 13), (41, 999)] I I203 := hF152.trans hf203 rfl rfl
          refine r_aload_n hC dX10_readKnower_89 1 rfl ?_
          refine r_callV hC (As := []) (rest := []) (ci := 10) (c_X10_goesOn g (xL X) K len I203 J152 R hs203 a0 ka0) mT_5_199 mT_1_10 mT_5_196 mT_5_198 mP_49 okX10_goesOn ⟨by decide, by decide⟩ rfl (by show kO (K a0) = _; rw [ka0]; rfl) rfl rfl (Nat.le_of_ble_eq_true rfl) ⟨by decide, by decide⟩ dX10_readKnower_90 (aV2 (F := fun st M => P g X 3 93 [(1, .int x156_), (0, .ref a0)] st _ _ M) (M := (K, len, I203, J152, R)) fun I204 J204 h204 => ?_)
          obtain ⟨hs204, hf204, hfj204, k204_0, k204_1, k204_2, k204_3⟩ := h204
          show P g X 3 93 [(1, .int x156_), (0, .ref a0)] [] _ _ (K, len, I204, J204, R)
          have hF204 : Fr K [(10, 9), (10, 10), (11, 8), (11, 9), (11, 10), (11, 11), (11, 12), (11, 13), (41, 999)] I I204 := hF203.trans hf204 rfl rfl
          have hFJ204 : Fr K [(11, 14), (42, 999)] J J204 := hFJ152.trans hfj204 rfl rfl
          refine r_aload_n hC dX10_readKnower_93 1 rfl ?_
          refine r_ldcwS hC (i := 59) (by decide) rfl rfl dX10_readKnower_94 ?_
          refine r_iconst hC (v := (0)) dX10_readKnower_97 (by decide) (by decide) (fun x205_ e205 t205 => ?_)
          refine r_sipush hC (v := (999)) dX10_readKnower_98 (by decide) (by decide) (fun x206_ e206 t206 => ?_)
          refine r_callV hC (As := [.ref (g.2.2.1 59), .int x205_, .int x206_]) (rest := []) (ci := 10) (c_X10_readPart g (xL X) K len I204 J204 R hs204 a0 ka0 59 (by decide) x205_ x206_) mT_6_1 mT_1_10 mT_5_238 mT_6_0 mP_56 okX10_readPart ⟨by decide, by decide⟩ rfl (by show kO (K a0) = _; rw [ka0]; rfl) rfl rfl (Nat.le_of_ble_eq_true rfl) ⟨by decide, by decide⟩ dX10_readKnower_101 (aI2 (F := fun st M => P g X 3 104 [(1, .int x156_), (0, .ref a0)] st _ _ M) (M := (K, len, I204, J204, R)) fun x207_ I207 J207 h207 => ?_)
          obtain ⟨hs207, hf207, hfj207, k207_0, k207_1, k207_2, k207_3⟩ := h207
          show P g X 3 104 [(1, .int x156_), (0, .ref a0)] [.int x207_] _ _ (K, len, I207, J207, R)
          have hF207 : Fr K [(10, 9), (10, 10), (11, 8), (11, 9), (11, 10), (11, 11), (11, 12), (11, 13), (41, 999)] I I207 := hF204.trans hf207 rfl rfl
          have hFJ207 : Fr K [(11, 14), (42, 999)] J J207 := hFJ204.trans hfj207 rfl rfl
          refine r_istore_n hC (lv' := [(2, .int x207_), (1, .int x156_), (0, .ref a0)]) dX10_readKnower_104 (by decide) rfl ?_
          refine r_aload_n hC dX10_readKnower_105 2 rfl ?_
          obtain ⟨A9, eA9⟩ : ∃ z : Int32, z = I207 a0 8 := ⟨_, rfl⟩
          have fA9 : A9.toInt = (I207 a0 8).toInt := by rw [eA9]
          have rA9 := hs207.rng ka0 rfl eA9
          refine r_geti hC 9 (ci := 10) rfl u10_in (by decide) mT_5_4 dX10_readKnower_106 ka0 rfl rfl (fun x208_ e208 => ?_)
          have f208 : x208_.toInt = (I207 a0 9).toInt := by rw [e208]
          refine r_iconst hC (v := (5)) dX10_readKnower_109 (by decide) (by decide) (fun x209_ e209 t209 => ?_)
          refine r_icmp_ne hC (tgt := 114) dX10_readKnower_110 (by decide) (fun c210 => ?_) (fun c210 => ?_)
          · refine r_aload_n hC dX10_readKnower_114 2 rfl ?_
            refine r_getr hC 4 (ci := 10) rfl u10_in (by decide) mT_4_239 dX10_readKnower_115 ka0 rfl rfl hbr ?_
            obtain ⟨a211_, hb211, hk211, hn211⟩ := hs207.row krm 23 41 4 (by decide) (by decide)
            refine r_getrN hC 23 (ci := 9) rfl u9_in (by decide) nF_23 dX10_readKnower_118 krm rfl rfl hb211 ?_
            refine r_aload_n hC dX10_readKnower_121 2 rfl ?_
            refine r_getr hC 4 (ci := 10) rfl u10_in (by decide) mT_4_239 dX10_readKnower_122 ka0 rfl rfl hbr ?_
            refine r_getiN hC 9 (ci := 9) rfl u9_in (by decide) nF_9 dX10_readKnower_125 krm rfl rfl (fun x212_ e212 => ?_)
            have r212 := hs207.rng krm rfl e212
            have f212 : x212_.toInt = (I207 rm 9).toInt := by rw [e212]
            have w212 : x212_ = x5_ := by rw [e212]; exact (Eq.trans (hf207.get krm rfl) (Eq.trans (hf204.get krm rfl) (Eq.trans (hf203.get krm rfl) (Eq.trans (hf152.get krm rfl) (Eq.trans (hf151.get krm rfl) (Eq.trans (hf6.get krm rfl) e5.symm))))))
            have wt212 : x212_.toInt = x5_.toInt := by rw [w212]
            refine r_aload_n hC dX10_readKnower_128 2 rfl ?_
            refine r_getr hC 4 (ci := 10) rfl u10_in (by decide) mT_4_239 dX10_readKnower_129 ka0 rfl rfl hbr ?_
            obtain ⟨a213_, hb213, hk213, hn213⟩ := hs207.row krm 27 41 19 (by decide) (by decide)
            refine r_getrN hC 27 (ci := 9) rfl u9_in (by decide) nF_27 dX10_readKnower_132 krm rfl rfl hb213 ?_
            refine r_iload_n hC dX10_readKnower_135 1 rfl ?_
            refine x_iaload hC hk213 hn213 (by decide) rfl rfl dX10_readKnower_136 (by omega) (by omega) (fun x214_ e214 => ?_)
            refine x_iastore hC hk211 hn211 (by decide) rfl rfl dX10_readKnower_137 (by omega) (by omega) (fun I215 eI215 => ?_)
            have hs215 := hs207.put0 eI215 hk211 (rng_arr (by decide) _) rfl (xF_arr (by decide) _) (by decide)
            have hF215 := hF207.put eI215 hk211 (inS_arr rfl _)
            refine r_aload_n hC dX10_readKnower_138 2 rfl ?_
            refine r_getr hC 4 (ci := 10) rfl u10_in (by decide) mT_4_239 dX10_readKnower_139 ka0 rfl rfl hbr ?_
            obtain ⟨a216_, hb216, hk216, hn216⟩ := hs215.row krm 24 41 4 (by decide) (by decide)
            refine r_getrN hC 24 (ci := 9) rfl u9_in (by decide) nF_24 dX10_readKnower_142 krm rfl rfl hb216 ?_
            refine r_aload_n hC dX10_readKnower_145 2 rfl ?_
            refine r_getr hC 4 (ci := 10) rfl u10_in (by decide) mT_4_239 dX10_readKnower_146 ka0 rfl rfl hbr ?_
            refine r_getiN hC 9 (ci := 9) rfl u9_in (by decide) nF_9 dX10_readKnower_149 krm rfl rfl (fun x217_ e217 => ?_)
            have r217 := hs215.rng krm rfl e217
            have f217 : x217_.toInt = (I215 rm 9).toInt := by rw [e217]
            have w217 : x217_ = x212_ := by rw [e217]; exact (Eq.trans (up2_kk eI215 hk211 krm (by decide)) e212.symm)
            have wt217 : x217_.toInt = x212_.toInt := by rw [w217]
            refine r_iload_n hC dX10_readKnower_152 0 rfl ?_
            refine x_iastore hC hk216 hn216 (by decide) rfl rfl dX10_readKnower_153 (by omega) (by omega) (fun I218 eI218 => ?_)
            have hs218 := hs215.put0 eI218 hk216 (rng_arr (by decide) _) rfl (xF_arr (by decide) _) (by decide)
            have hF218 := hF215.put eI218 hk216 (inS_arr rfl _)
            refine r_aload_n hC dX10_readKnower_154 2 rfl ?_
            refine r_getr hC 4 (ci := 10) rfl u10_in (by decide) mT_4_239 dX10_readKnower_155 ka0 rfl rfl hbr ?_
            refine r_dup hC dX10_readKnower_158 rfl ?_
            refine r_getiN hC 9 (ci := 9) rfl u9_in (by decide) nF_9 dX10_readKnower_159 krm rfl rfl (fun x219_ e219 => ?_)
            have r219 := hs218.rng krm rfl e219
            have f219 : x219_.toInt = (I218 rm 9).toInt := by rw [e219]
            have w219 : x219_ = x217_ := by rw [e219]; exact (Eq.trans (up2_kk eI218 hk216 krm (by decide)) e217.symm)
            have wt219 : x219_.toInt = x217_.toInt := by rw [w219]
            refine r_iconst hC (v := (1)) dX10_readKnower_162 (by decide) (by decide) (fun x220_ e220 t220 => ?_)
            refine r_iadd hC dX10_readKnower_163 (fun x221_ e221 => ?_)
            try have t221 : x221_.toInt = x219_.toInt + x220_.toInt := by rw [e221]; exact ti_add (by omega) (by omega)
            refine r_putiN hC 9 (ci := 9) rfl u9_in tyX9_ok nmX9 (by decide) nF_9 rfl rfl rfl dX10_readKnower_164 krm rfl rfl (fun I222 eI222 => ?_)
            have hs222 := hs218.put1 eI222 krm rfl (by omega) (by omega) rfl rfl (by decide)
            have hF222 := hF218.put eI222 krm rfl
            have hG3 : I222 rm 3 = G3 := (Eq.trans (up2_at (Or.inr (by decide)) eI222) (Eq.trans (up2_kk eI218 hk216 krm (by decide)) (Eq.trans (up2_kk eI215 hk211 krm (by decide)) (Eq.trans (hf207.get krm rfl) (Eq.trans (hf204.get krm rfl) (Eq.trans (hf203.get krm rfl) (Eq.trans (hf152.get krm rfl) (Eq.trans (hf151.get krm rfl) (Eq.trans (hf6.get krm rfl) (Eq.trans (hf3.get krm rfl) eG3.symm))))))))))
            have hG3t : (I222 rm 3).toInt = G3.toInt := congrArg Int32.toInt hG3
            have hG4 : I222 rm 4 = G4 := (Eq.trans (up2_at (Or.inr (by decide)) eI222) (Eq.trans (up2_kk eI218 hk216 krm (by decide)) (Eq.trans (up2_kk eI215 hk211 krm (by decide)) (Eq.trans (hf207.get krm rfl) (Eq.trans (hf204.get krm rfl) (Eq.trans (hf203.get krm rfl) (Eq.trans (hf152.get krm rfl) (Eq.trans (hf151.get krm rfl) (Eq.trans (hf6.get krm rfl) (Eq.trans (hf3.get krm rfl) eG4.symm))))))))))
            have hG4t : (I222 rm 4).toInt = G4.toInt := congrArg Int32.toInt hG4
            have hG7 : I222 rm 7 = G7 := (Eq.trans (up2_at (Or.inr (by decide)) eI222) (Eq.trans (up2_kk eI218 hk216 krm (by decide)) (Eq.trans (up2_kk eI215 hk211 krm (by decide)) (Eq.trans (hf207.get krm rfl) (Eq.trans (hf204.get krm rfl) (Eq.trans (hf203.get krm rfl) (Eq.trans (hf152.get krm rfl) (Eq.trans (hf151.get krm rfl) (Eq.trans (hf6.get krm rfl) (Eq.trans (hf3.get krm rfl) eG7.symm))))))))))
            have hG7t : (I222 rm 7).toInt = G7.toInt := congrArg Int32.toInt hG7
            have hG8 : I222 rm 8 = G8 := (Eq.trans (up2_at (Or.inr (by decide)) eI222) (Eq.trans (up2_kk eI218 hk216 krm (by decide)) (Eq.trans (up2_kk eI215 hk211 krm (by decide)) (Eq.trans (hf207.get krm rfl) (Eq.trans (hf204.get krm rfl) (Eq.trans (hf203.get krm rfl) (Eq.trans (hf152.get krm rfl) (Eq.trans (hf151.get krm rfl) (Eq.trans (hf6.get krm rfl) (Eq.trans (hf3.get krm rfl) eG8.symm))))))))))
            have hG8t : (I222 rm 8).toInt = G8.toInt := congrArg Int32.toInt hG8
            have hG9 : I222 rm 9 = x221_ := (by rw [eI222]; exact up2_self _ _ _ _)
            have hG9t : (I222 rm 9).toInt = x221_.toInt := congrArg Int32.toInt hG9
            have hGN : I222 rm 10 = N1 := (Eq.trans (up2_at (Or.inr (by decide)) eI222) (Eq.trans (up2_kk eI218 hk216 krm (by decide)) (Eq.trans (up2_kk eI215 hk211 krm (by decide)) (Eq.trans (hf207.get krm rfl) (Eq.trans (hf204.get krm rfl) (Eq.trans (hf203.get krm rfl) (Eq.trans (hf152.get krm rfl) (Eq.trans (hf151.get krm rfl) eN1.symm))))))))
            have hGNt : (I222 rm 10).toInt = N1.toInt := congrArg Int32.toInt hGN
            have hv8 : I222 a0 8 = A9 := (Eq.trans (up2_kk eI222 krm ka0 (by decide)) (Eq.trans (up2_kk eI218 hk216 ka0 (by decide)) (Eq.trans (up2_kk eI215 hk211 ka0 (by decide)) eA9.symm)))
            have hv8t : (I222 a0 8).toInt = A9.toInt := congrArg Int32.toInt hv8
            have hv9 : I222 a0 9 = x208_ := (Eq.trans (up2_kk eI222 krm ka0 (by decide)) (Eq.trans (up2_kk eI218 hk216 ka0 (by decide)) (Eq.trans (up2_kk eI215 hk211 ka0 (by decide)) e208.symm)))
            have hv9t : (I222 a0 9).toInt = x208_.toInt := congrArg Int32.toInt hv9
            exact r_vret hC hQ hlk hr (by decide) (by decide) dX10_readKnower_167 ⟨_, _, rfl, rfl, ⟨hs222, hF222, hFJ207, (by omega), (by omega), (by omega), (by omega)⟩⟩
          · have hG3 : I207 rm 3 = G3 := (Eq.trans (hf207.get krm rfl) (Eq.trans (hf204.get krm rfl) (Eq.trans (hf203.get krm rfl) (Eq.trans (hf152.get krm rfl) (Eq.trans (hf151.get krm rfl) (Eq.trans (hf6.get krm rfl) (Eq.trans (hf3.get krm rfl) eG3.symm)))))))
            have hG3t : (I207 rm 3).toInt = G3.toInt := congrArg Int32.toInt hG3
            have hG4 : I207 rm 4 = G4 := (Eq.trans (hf207.get krm rfl) (Eq.trans (hf204.get krm rfl) (Eq.trans (hf203.get krm rfl) (Eq.trans (hf152.get krm rfl) (Eq.trans (hf151.get krm rfl) (Eq.trans (hf6.get krm rfl) (Eq.trans (hf3.get krm rfl) eG4.symm)))))))
            have hG4t : (I207 rm 4).toInt = G4.toInt := congrArg Int32.toInt hG4
            have hG7 : I207 rm 7 = G7 := (Eq.trans (hf207.get krm rfl) (Eq.trans (hf204.get krm rfl) (Eq.trans (hf203.get krm rfl) (Eq.trans (hf152.get krm rfl) (Eq.trans (hf151.get krm rfl) (Eq.trans (hf6.get krm rfl) (Eq.trans (hf3.get krm rfl) eG7.symm)))))))
            have hG7t : (I207 rm 7).toInt = G7.toInt := congrArg Int32.toInt hG7
            have hG8 : I207 rm 8 = G8 := (Eq.trans (hf207.get krm rfl) (Eq.trans (hf204.get krm rfl) (Eq.trans (hf203.get krm rfl) (Eq.trans (hf152.get krm rfl) (Eq.trans (hf151.get krm rfl) (Eq.trans (hf6.get krm rfl) (Eq.trans (hf3.get krm rfl) eG8.symm)))))))
            have hG8t : (I207 rm 8).toInt = G8.toInt := congrArg Int32.toInt hG8
            have hG9 : I207 rm 9 = x5_ := (Eq.trans (hf207.get krm rfl) (Eq.trans (hf204.get krm rfl) (Eq.trans (hf203.get krm rfl) (Eq.trans (hf152.get krm rfl) (Eq.trans (hf151.get krm rfl) (Eq.trans (hf6.get krm rfl) e5.symm))))))
            have hG9t : (I207 rm 9).toInt = x5_.toInt := congrArg Int32.toInt hG9
            have hGN : I207 rm 10 = N1 := (Eq.trans (hf207.get krm rfl) (Eq.trans (hf204.get krm rfl) (Eq.trans (hf203.get krm rfl) (Eq.trans (hf152.get krm rfl) (Eq.trans (hf151.get krm rfl) eN1.symm)))))
            have hGNt : (I207 rm 10).toInt = N1.toInt := congrArg Int32.toInt hGN
            have hv8 : I207 a0 8 = A9 := eA9.symm
            have hv8t : (I207 a0 8).toInt = A9.toInt := congrArg Int32.toInt hv8
            have hv9 : I207 a0 9 = x208_ := e208.symm
            have hv9t : (I207 a0 9).toInt = x208_.toInt := congrArg Int32.toInt hv9
            exact r_vret hC hQ hlk hr (by decide) (by decide) dX10_readKnower_113 ⟨_, _, rfl, rfl, ⟨hs207, hF207, hFJ207, (by omega), (by omega), (by omega), (by omega)⟩⟩
    · refine r_aload_n hC dX10_readKnower_50 0 rfl ?_
      refine r_iconst hC (v := (1)) dX10_readKnower_51 (by decide) (by decide) (fun x223_ e223 t223 => ?_)
      refine r_callV hC (As := [.int x223_]) (rest := []) (ci := 10) (c_X10_wrong g (xL X) K len I152 J152 R hs152 a0 ka0 x223_) mT_5_236 mT_1_10 mT_5_233 mT_5_235 mP_55 okX10_wrong ⟨by decide, by decide⟩ rfl (by show kO (K a0) = _; rw [ka0]; rfl) rfl rfl (Nat.le_of_ble_eq_true rfl) ⟨by decide, by decide⟩ dX10_readKnower_52 (aV1 (F := fun st M => P g X 3 55 [(0, .ref a0)] st _ _ M) (M := (K, len, I152, J152, R)) fun I224 h224 => ?_)
      obtain ⟨hs224, hf224, k224_0, k224_1⟩ := h224
      show P g X 3 55 [(0, .ref a0)] [] _ _ (K, len, I224, J152, R)
      have hF224 : Fr K [(10, 9), (10, 10), (11, 8), (11, 9), (11, 10), (11, 11), (11, 12), (11, 13), (41, 999)] I I224 := hF152.trans hf224 rfl rfl
      refine r_aload_n hC dX10_readKnower_55 0 rfl ?_
      refine r_getr hC 4 (ci := 10) rfl u10_in (by decide) mT_4_239 dX10_readKnower_56 ka0 rfl rfl hbr ?_
      refine r_aload_n hC dX10_readKnower_59 0 rfl ?_
      refine r_getj hC 14 (ci := 10) rfl u10_in (by decide) mT_5_9 dX10_readKnower_60 ka0 rfl rfl (fun y225_ e225 => ?_)
      refine r_callV hC (As := [.long y225_]) (rest := []) (ci := 9) (c_X9_find g (xL X) K len I224 J152 R hs224 rm krm y225_) mT_6_36 mT_1_17 mT_6_33 mT_6_34 mT_6_35 okX9_find ⟨by decide, by decide⟩ rfl (by show kO (K rm) = _; rw [krm]; rfl) rfl rfl (Nat.le_of_ble_eq_true rfl) ⟨by decide, by decide⟩ dX10_readKnower_63 (aI0 (F := fun st M => P g X 3 66 [(0, .ref a0)] st _ _ M) (M := (K, len, I224, J152, R)) fun x226_ h226 => ?_)
      obtain ⟨k226_0, k226_1⟩ := h226
      show P g X 3 66 [(0, .ref a0)] [.int x226_] _ _ (K, len, I224, J152, R)
      refine r_istore_n hC (lv' := [(1, .int x226_), (0, .ref a0)]) dX10_readKnower_66 (by decide) rfl ?_
      refine r_iload_n hC dX10_readKnower_67 0 rfl ?_
      refine r_iconst hC (v := (-1)) dX10_readKnower_68 (by decide) (by decide) (fun x227_ e227 t227 => ?_)
      refine r_icmp_eq hC (tgt := 84) dX10_readKnower_69 (by decide) (fun c228 => ?_) (fun c228 => ?_)
      · refine r_aload_n hC dX10_readKnower_84 1 rfl ?_
        refine r_iconst hC (v := (2)) dX10_readKnower_85 (by decide) (by decide) (fun x229_ e229 t229 => ?_)
        refine r_callV hC (As := [.int x229_]) (rest := []) (ci := 10) (c_X10_wrong g (xL X) K len I224 J152 R hs224 a0 ka0 x229_) mT_5_236 mT_1_10 mT_5_233 mT_5_235 mP_55 okX10_wrong ⟨by decide, by decide⟩ rfl (by show kO (K a0) = _; rw [ka0]; rfl) rfl rfl (Nat.le_of_ble_eq_true rfl) ⟨by decide, by decide⟩ dX10_readKnower_86 (aV1 (F := fun st M => P g X 3 89 [(1, .int x226_), (0, .ref a0)] st _ _ M) (M := (K, len, I224, J152, R)) fun I230 h230 => ?_)
        obtain ⟨hs230, hf230, k230_0, k230_1⟩ := h230
        show P g X 3 89 [(1, .int x226_), (0, .ref a0)] [] _ _ (K, len, I230, J152, R)
        have hF230 : Fr K [(10, 9), (10, 10), (11, 8), (11, 9), (11, 10), (11, 11), (11, 12), (11, 13), (41, 999)] I I230 := hF224.trans hf230 rfl rfl
        refine r_aload_n hC dX10_readKnower_89 1 rfl ?_
        refine r_callV hC (As := []) (rest := []) (ci := 10) (c_X10_goesOn g (xL X) K len I230 J152 R hs230 a0 ka0) mT_5_199 mT_1_10 mT_5_196 mT_5_198 mP_49 okX10_goesOn ⟨by decide, by decide⟩ rfl (by show kO (K a0) = _; rw [ka0]; rfl) rfl rfl (Nat.le_of_ble_eq_true rfl) ⟨by decide, by decide⟩ dX10_readKnower_90 (aV2 (F := fun st M => P g X 3 93 [(1, .int x226_), (0, .ref a0)] st _ _ M) (M := (K, len, I230, J152, R)) fun I231 J231 h231 => ?_)
        obtain ⟨hs231, hf231, hfj231, k231_0, k231_1, k231_2, k231_3⟩ := h231
        show P g X 3 93 [(1, .int x226_), (0, .ref a0)] [] _ _ (K, len, I231, J231, R)
        have hF231 : Fr K [(10, 9), (10, 10), (11, 8), (11, 9), (11, 10), (11, 11), (11, 12), (11, 13), (41, 999)] I I231 := hF230.trans hf231 rfl rfl
        have hFJ231 : Fr K [(11, 14), (42, 999)] J J231 := hFJ152.trans hfj231 rfl rfl
        refine r_aload_n hC dX10_readKnower_93 1 rfl ?_
        refine r_ldcwS hC (i := 59) (by decide) rfl rfl dX10_readKnower_94 ?_
        refine r_iconst hC (v := (0)) dX10_readKnower_97 (by decide) (by decide) (fun x232_ e232 t232 => ?_)
        refine r_sipush hC (v := (999)) dX10_readKnower_98 (by decide) (by decide) (fun x233_ e233 t233 => ?_)
        refine r_callV hC (As := [.ref (g.2.2.1 59), .int x232_, .int x233_]) (rest := []) (ci := 10) (c_X10_readPart g (xL X) K len I231 J231 R hs231 a0 ka0 59 (by decide) x232_ x233_) mT_6_1 mT_1_10 mT_5_238 mT_6_0 mP_56 okX10_readPart ⟨by decide, by decide⟩ rfl (by show kO (K a0) = _; rw [ka0]; rfl) rfl rfl (Nat.le_of_ble_eq_true rfl) ⟨by decide, by decide⟩ dX10_readKnower_101 (aI2 (F := fun st M => P g X 3 104 [(1, .int x226_), (0, .ref a0)] st _ _ M) (M := (K, len, I231, J231, R)) fun x234_ I234 J234 h234 => ?_)
        obtain ⟨hs234, hf234, hfj234, k234_0, k234_1, k234_2, k234_3⟩ := h234
        show P g X 3 104 [(1, .int x226_), (0, .ref a0)] [.int x234_] _ _ (K, len, I234, J234, R)
        have hF234 : Fr K [(10, 9), (10, 10), (11, 8), (11, 9), (11, 10), (11, 11), (11, 12), (11, 13), (41, 999)] I I234 := hF231.trans hf234 rfl rfl
        have hFJ234 : Fr K [(11, 14), (42, 999)] J J234 := hFJ231.trans hfj234 rfl rfl
        refine r_istore_n hC (lv' := [(2, .int x234_), (1, .int x226_), (0, .ref a0)]) dX10_readKnower_104 (by decide) rfl ?_
        refine r_aload_n hC dX10_readKnower_105 2 rfl ?_
        obtain ⟨A9, eA9⟩ : ∃ z : Int32, z = I234 a0 8 := ⟨_, rfl⟩
        have fA9 : A9.toInt = (I234 a0 8).toInt := by rw [eA9]
        have rA9 := hs234.rng ka0 rfl eA9
        refine r_geti hC 9 (ci := 10) rfl u10_in (by decide) mT_5_4 dX10_readKnower_106 ka0 rfl rfl (fun x235_ e235 => ?_)
        have f235 : x235_.toInt = (I234 a0 9).toInt := by rw [e235]
        refine r_iconst hC (v := (5)) dX10_readKnower_109 (by decide) (by decide) (fun x236_ e236 t236 => ?_)
        refine r_icmp_ne hC (tgt := 114) dX10_readKnower_110 (by decide) (fun c237 => ?_) (fun c237 => ?_)
        · refine r_aload_n hC dX10_readKnower_114 2 rfl ?_
          refine r_getr hC 4 (ci := 10) rfl u10_in (by decide) mT_4_239 dX10_readKnower_115 ka0 rfl rfl hbr ?_
          obtain ⟨a238_, hb238, hk238, hn238⟩ := hs234.row krm 23 41 4 (by decide) (by decide)
          refine r_getrN hC 23 (ci := 9) rfl u9_in (by decide) nF_23 dX10_readKnower_118 krm rfl rfl hb238 ?_
          refine r_aload_n hC dX10_readKnower_121 2 rfl ?_
          refine r_getr hC 4 (ci := 10) rfl u10_in (by decide) mT_4_239 dX10_readKnower_122 ka0 rfl rfl hbr ?_
          refine r_getiN hC 9 (ci := 9) rfl u9_in (by decide) nF_9 dX10_readKnower_125 krm rfl rfl (fun x239_ e239 => ?_)
          have r239 := hs234.rng krm rfl e239
          have f239 : x239_.toInt = (I234 rm 9).toInt := by rw [e239]
          have w239 : x239_ = x5_ := by rw [e239]; exact (Eq.trans (hf234.get krm rfl) (Eq.trans (hf231.get krm rfl) (Eq.trans (hf230.get krm rfl) (Eq.trans (hf224.get krm rfl) (Eq.trans (hf152.get krm rfl) (Eq.trans (hf151.get krm rfl) (Eq.trans (hf6.get krm rfl) e5.symm)))))))
          have wt239 : x239_.toInt = x5_.toInt := by rw [w239]
          refine r_aload_n hC dX10_readKnower_128 2 rfl ?_
          refine r_getr hC 4 (ci := 10) rfl u10_in (by decide) mT_4_239 dX10_readKnower_129 ka0 rfl rfl hbr ?_
          obtain ⟨a240_, hb240, hk240, hn240⟩ := hs234.row krm 27 41 19 (by decide) (by decide)
          refine r_getrN hC 27 (ci := 9) rfl u9_in (by decide) nF_27 dX10_readKnower_132 krm rfl rfl hb240 ?_
          refine r_iload_n hC dX10_readKnower_135 1 rfl ?_
          refine x_iaload hC hk240 hn240 (by decide) rfl rfl dX10_readKnower_136 (by omega) (by omega) (fun x241_ e241 => ?_)
          refine x_iastore hC hk238 hn238 (by decide) rfl rfl dX10_readKnower_137 (by omega) (by omega) (fun I242 eI242 => ?_)
          have hs242 := hs234.put0 eI242 hk238 (rng_arr (by decide) _) rfl (xF_arr (by decide) _) (by decide)
          have hF242 := hF234.put eI242 hk238 (inS_arr rfl _)
          refine r_aload_n hC dX10_readKnower_138 2 rfl ?_
          refine r_getr hC 4 (ci := 10) rfl u10_in (by decide) mT_4_239 dX10_readKnower_139 ka0 rfl rfl hbr ?_
          obtain ⟨a243_, hb243, hk243, hn243⟩ := hs242.row krm 24 41 4 (by decide) (by decide)
          refine r_getrN hC 24 (ci := 9) rfl u9_in (by decide) nF_24 dX10_readKnower_142 krm rfl rfl hb243 ?_
          refine r_aload_n hC dX10_readKnower_145 2 rfl ?_
          refine r_getr hC 4 (ci := 10) rfl u10_in (by decide) mT_4_239 dX10_readKnower_146 ka0 rfl rfl hbr ?_
          refine r_getiN hC 9 (ci := 9) rfl u9_in (by decide) nF_9 dX10_readKnower_149 krm rfl rfl (fun x244_ e244 => ?_)
          have r244 := hs242.rng krm rfl e244
          have f244 : x244_.toInt = (I242 rm 9).toInt := by rw [e244]
          have w244 : x244_ = x239_ := by rw [e244]; exact (Eq.trans (up2_kk eI242 hk238 krm (by decide)) e239.symm)
          have wt244 : x244_.toInt = x239_.toInt := by rw [w244]
          refine r_iload_n hC dX10_readKnower_152 0 rfl ?_
          refine x_iastore hC hk243 hn243 (by decide) rfl rfl dX10_readKnower_153 (by omega) (by omega) (fun I245 eI245 => ?_)
          have hs245 := hs242.put0 eI245 hk243 (rng_arr (by decide) _) rfl (xF_arr (by decide) _) (by decide)
          have hF245 := hF242.put eI245 hk243 (inS_arr rfl _)
          refine r_aload_n hC dX10_readKnower_154 2 rfl ?_
          refine r_getr hC 4 (ci := 10) rfl u10_in (by decide) mT_4_239 dX10_readKnower_155 ka0 rfl rfl hbr ?_
          refine r_dup hC dX10_readKnower_158 rfl ?_
          refine r_getiN hC 9 (ci := 9) rfl u9_in (by decide) nF_9 dX10_readKnower_159 krm rfl rfl (fun x246_ e246 => ?_)
          have r246 := hs245.rng krm rfl e246
          have f246 : x246_.toInt = (I245 rm 9).toInt := by rw [e246]
          have w246 : x246_ = x244_ := by rw [e246]; exact (Eq.trans (up2_kk eI245 hk243 krm (by decide)) e244.symm)
          have wt246 : x246_.toInt = x244_.toInt := by rw [w246]
          refine r_iconst hC (v := (1)) dX10_readKnower_162 (by decide) (by decide) (fun x247_ e247 t247 => ?_)
          refine r_iadd hC dX10_readKnower_163 (fun x248_ e248 => ?_)
          try have t248 : x248_.toInt = x246_.toInt + x247_.toInt := by rw [e248]; exact ti_add (by omega) (by omega)
          refine r_putiN hC 9 (ci := 9) rfl u9_in tyX9_ok nmX9 (by decide) nF_9 rfl rfl rfl dX10_readKnower_164 krm rfl rfl (fun I249 eI249 => ?_)
          have hs249 := hs245.put1 eI249 krm rfl (by omega) (by omega) rfl rfl (by decide)
          have hF249 := hF245.put eI249 krm rfl
          have hG3 : I249 rm 3 = G3 := (Eq.trans (up2_at (Or.inr (by decide)) eI249) (Eq.trans (up2_kk eI245 hk243 krm (by decide)) (Eq.trans (up2_kk eI242 hk238 krm (by decide)) (Eq.trans (hf234.get krm rfl) (Eq.trans (hf231.get krm rfl) (Eq.trans (hf230.get krm rfl) (Eq.trans (hf224.get krm rfl) (Eq.trans (hf152.get krm rfl) (Eq.trans (hf151.get krm rfl) (Eq.trans (hf6.get krm rfl) (Eq.trans (hf3.get krm rfl) eG3.symm)))))))))))
          have hG3t : (I249 rm 3).toInt = G3.toInt := congrArg Int32.toInt hG3
          have hG4 : I249 rm 4 = G4 := (Eq.trans (up2_at (Or.inr (by decide)) eI249) (Eq.trans (up2_kk eI245 hk243 krm (by decide)) (Eq.trans (up2_kk eI242 hk238 krm (by decide)) (Eq.trans (hf234.get krm rfl) (Eq.trans (hf231.get krm rfl) (Eq.trans (hf230.get krm rfl) (Eq.trans (hf224.get krm rfl) (Eq.trans (hf152.get krm rfl) (Eq.trans (hf151.get krm rfl) (Eq.trans (hf6.get krm rfl) (Eq.trans (hf3.get krm rfl) eG4.symm)))))))))))
          have hG4t : (I249 rm 4).toInt = G4.toInt := congrArg Int32.toInt hG4
          have hG7 : I249 rm 7 = G7 := (Eq.trans (up2_at (Or.inr (by decide)) eI249) (Eq.trans (up2_kk eI245 hk243 krm (by decide)) (Eq.trans (up2_kk eI242 hk238 krm (by decide)) (Eq.trans (hf234.get krm rfl) (Eq.trans (hf231.get krm rfl) (Eq.trans (hf230.get krm rfl) (Eq.trans (hf224.get krm rfl) (Eq.trans (hf152.get krm rfl) (Eq.trans (hf151.get krm rfl) (Eq.trans (hf6.get krm rfl) (Eq.trans (hf3.get krm rfl) eG7.symm)))))))))))
          have hG7t : (I249 rm 7).toInt = G7.toInt := congrArg Int32.toInt hG7
          have hG8 : I249 rm 8 = G8 := (Eq.trans (up2_at (Or.inr (by decide)) eI249) (Eq.trans (up2_kk eI245 hk243 krm (by decide)) (Eq.trans (up2_kk eI242 hk238 krm (by decide)) (Eq.trans (hf234.get krm rfl) (Eq.trans (hf231.get krm rfl) (Eq.trans (hf230.get krm rfl) (Eq.trans (hf224.get krm rfl) (Eq.trans (hf152.get krm rfl) (Eq.trans (hf151.get krm rfl) (Eq.trans (hf6.get krm rfl) (Eq.trans (hf3.get krm rfl) eG8.symm)))))))))))
          have hG8t : (I249 rm 8).toInt = G8.toInt := congrArg Int32.toInt hG8
          have hG9 : I249 rm 9 = x248_ := (by rw [eI249]; exact up2_self _ _ _ _)
          have hG9t : (I249 rm 9).toInt = x248_.toInt := congrArg Int32.toInt hG9
          have hGN : I249 rm 10 = N1 := (Eq.trans (up2_at (Or.inr (by decide)) eI249) (Eq.trans (up2_kk eI245 hk243 krm (by decide)) (Eq.trans (up2_kk eI242 hk238 krm (by decide)) (Eq.trans (hf234.get krm rfl) (Eq.trans (hf231.get krm rfl) (Eq.trans (hf230.get krm rfl) (Eq.trans (hf224.get krm rfl) (Eq.trans (hf152.get krm rfl) (Eq.trans (hf151.get krm rfl) eN1.symm)))))))))
          have hGNt : (I249 rm 10).toInt = N1.toInt := congrArg Int32.toInt hGN
          have hv8 : I249 a0 8 = A9 := (Eq.trans (up2_kk eI249 krm ka0 (by decide)) (Eq.trans (up2_kk eI245 hk243 ka0 (by decide)) (Eq.trans (up2_kk eI242 hk238 ka0 (by decide)) eA9.symm)))
          have hv8t : (I249 a0 8).toInt = A9.toInt := congrArg Int32.toInt hv8
          have hv9 : I249 a0 9 = x235_ := (Eq.trans (up2_kk eI249 krm ka0 (by decide)) (Eq.trans (up2_kk eI245 hk243 ka0 (by decide)) (Eq.trans (up2_kk eI242 hk238 ka0 (by decide)) e235.symm)))
          have hv9t : (I249 a0 9).toInt = x235_.toInt := congrArg Int32.toInt hv9
          exact r_vret hC hQ hlk hr (by decide) (by decide) dX10_readKnower_167 ⟨_, _, rfl, rfl, ⟨hs249, hF249, hFJ234, (by omega), (by omega), (by omega), (by omega)⟩⟩
        · have hG3 : I234 rm 3 = G3 := (Eq.trans (hf234.get krm rfl) (Eq.trans (hf231.get krm rfl) (Eq.trans (hf230.get krm rfl) (Eq.trans (hf224.get krm rfl) (Eq.trans (hf152.get krm rfl) (Eq.trans (hf151.get krm rfl) (Eq.trans (hf6.get krm rfl) (Eq.trans (hf3.get krm rfl) eG3.symm))))))))
          have hG3t : (I234 rm 3).toInt = G3.toInt := congrArg Int32.toInt hG3
          have hG4 : I234 rm 4 = G4 := (Eq.trans (hf234.get krm rfl) (Eq.trans (hf231.get krm rfl) (Eq.trans (hf230.get krm rfl) (Eq.trans (hf224.get krm rfl) (Eq.trans (hf152.get krm rfl) (Eq.trans (hf151.get krm rfl) (Eq.trans (hf6.get krm rfl) (Eq.trans (hf3.get krm rfl) eG4.symm))))))))
          have hG4t : (I234 rm 4).toInt = G4.toInt := congrArg Int32.toInt hG4
          have hG7 : I234 rm 7 = G7 := (Eq.trans (hf234.get krm rfl) (Eq.trans (hf231.get krm rfl) (Eq.trans (hf230.get krm rfl) (Eq.trans (hf224.get krm rfl) (Eq.trans (hf152.get krm rfl) (Eq.trans (hf151.get krm rfl) (Eq.trans (hf6.get krm rfl) (Eq.trans (hf3.get krm rfl) eG7.symm))))))))
          have hG7t : (I234 rm 7).toInt = G7.toInt := congrArg Int32.toInt hG7
          have hG8 : I234 rm 8 = G8 := (Eq.trans (hf234.get krm rfl) (Eq.trans (hf231.get krm rfl) (Eq.trans (hf230.get krm rfl) (Eq.trans (hf224.get krm rfl) (Eq.trans (hf152.get krm rfl) (Eq.trans (hf151.get krm rfl) (Eq.trans (hf6.get krm rfl) (Eq.trans (hf3.get krm rfl) eG8.symm))))))))
          have hG8t : (I234 rm 8).toInt = G8.toInt := congrArg Int32.toInt hG8
          have hG9 : I234 rm 9 = x5_ := (Eq.trans (hf234.get krm rfl) (Eq.trans (hf231.get krm rfl) (Eq.trans (hf230.get krm rfl) (Eq.trans (hf224.get krm rfl) (Eq.trans (hf152.get krm rfl) (Eq.trans (hf151.get krm rfl) (Eq.trans (hf6.get krm rfl) e5.symm)))))))
          have hG9t : (I234 rm 9).toInt = x5_.toInt := congrArg Int32.toInt hG9
          have hGN : I234 rm 10 = N1 := (Eq.trans (hf234.get krm rfl) (Eq.trans (hf231.get krm rfl) (Eq.trans (hf230.get krm rfl) (Eq.trans (hf224.get krm rfl) (Eq.trans (hf152.get krm rfl) (Eq.trans (hf151.get krm rfl) eN1.symm))))))
          have hGNt : (I234 rm 10).toInt = N1.toInt := congrArg Int32.toInt hGN
          have hv8 : I234 a0 8 = A9 := eA9.symm
          have hv8t : (I234 a0 8).toInt = A9.toInt := congrArg Int32.toInt hv8
          have hv9 : I234 a0 9 = x235_ := e235.symm
          have hv9t : (I234 a0 9).toInt = x235_.toInt := congrArg Int32.toInt hv9
          exact r_vret hC hQ hlk hr (by decide) (by decide) dX10_readKnower_113 ⟨_, _, rfl, rfl, ⟨hs234, hF234, hFJ234, (by omega), (by omega), (by omega), (by omega)⟩⟩
      · refine r_aload_n hC dX10_readKnower_72 1 rfl ?_
        refine r_getr hC 4 (ci := 10) rfl u10_in (by decide) mT_4_239 dX10_readKnower_73 ka0 rfl rfl hbr ?_
        obtain ⟨a250_, hb250, hk250, hn250⟩ := hs224.row krm 26 41 19 (by decide) (by decide)
        refine r_getrN hC 26 (ci := 9) rfl u9_in (by decide) nF_26 dX10_readKnower_76 krm rfl rfl hb250 ?_
        refine r_iload_n hC dX10_readKnower_79 0 rfl ?_
        refine x_iaload hC hk250 hn250 (by decide) rfl rfl dX10_readKnower_80 (by omega) (by omega) (fun x251_ e251 => ?_)
        refine r_if_eq hC (tgt := 89) dX10_readKnower_81 (by decide) (fun c252 => ?_) (fun c252 => ?_)
        · refine r_aload_n hC dX10_readKnower_89 1 rfl ?_
          refine r_callV hC (As := []) (rest := []) (ci := 10) (c_X10_goesOn g (xL X) K len I224 J152 R hs224 a0 ka0) mT_5_199 mT_1_10 mT_5_196 mT_5_198 mP_49 okX10_goesOn ⟨by decide, by decide⟩ rfl (by show kO (K a0) = _; rw [ka0]; rfl) rfl rfl (Nat.le_of_ble_eq_true rfl) ⟨by decide, by decide⟩ dX10_readKnower_90 (aV2 (F := fun st M => P g X 3 93 [(1, .int x226_), (0, .ref a0)] st _ _ M) (M := (K, len, I224, J152, R)) fun I253 J253 h253 => ?_)
          obtain ⟨hs253, hf253, hfj253, k253_0, k253_1, k253_2, k253_3⟩ := h253
          show P g X 3 93 [(1, .int x226_), (0, .ref a0)] [] _ _ (K, len, I253, J253, R)
          have hF253 : Fr K [(10, 9), (10, 10), (11, 8), (11, 9), (11, 10), (11, 11), (11, 12), (11, 13), (41, 999)] I I253 := hF224.trans hf253 rfl rfl
          have hFJ253 : Fr K [(11, 14), (42, 999)] J J253 := hFJ152.trans hfj253 rfl rfl
          refine r_aload_n hC dX10_readKnower_93 1 rfl ?_
          refine r_ldcwS hC (i := 59) (by decide) rfl rfl dX10_readKnower_94 ?_
          refine r_iconst hC (v := (0)) dX10_readKnower_97 (by decide) (by decide) (fun x254_ e254 t254 => ?_)
          refine r_sipush hC (v := (999)) dX10_readKnower_98 (by decide) (by decide) (fun x255_ e255 t255 => ?_)
          refine r_callV hC (As := [.ref (g.2.2.1 59), .int x254_, .int x255_]) (rest := []) (ci := 10) (c_X10_readPart g (xL X) K len I253 J253 R hs253 a0 ka0 59 (by decide) x254_ x255_) mT_6_1 mT_1_10 mT_5_238 mT_6_0 mP_56 okX10_readPart ⟨by decide, by decide⟩ rfl (by show kO (K a0) = _; rw [ka0]; rfl) rfl rfl (Nat.le_of_ble_eq_true rfl) ⟨by decide, by decide⟩ dX10_readKnower_101 (aI2 (F := fun st M => P g X 3 104 [(1, .int x226_), (0, .ref a0)] st _ _ M) (M := (K, len, I253, J253, R)) fun x256_ I256 J256 h256 => ?_)
          obtain ⟨hs256, hf256, hfj256, k256_0, k256_1, k256_2, k256_3⟩ := h256
          show P g X 3 104 [(1, .int x226_), (0, .ref a0)] [.int x256_] _ _ (K, len, I256, J256, R)
          have hF256 : Fr K [(10, 9), (10, 10), (11, 8), (11, 9), (11, 10), (11, 11), (11, 12), (11, 13), (41, 999)] I I256 := hF253.trans hf256 rfl rfl
          have hFJ256 : Fr K [(11, 14), (42, 999)] J J256 := hFJ253.trans hfj256 rfl rfl
          refine r_istore_n hC (lv' := [(2, .int x256_), (1, .int x226_), (0, .ref a0)]) dX10_readKnower_104 (by decide) rfl ?_
          refine r_aload_n hC dX10_readKnower_105 2 rfl ?_
          obtain ⟨A9, eA9⟩ : ∃ z : Int32, z = I256 a0 8 := ⟨_, rfl⟩
          have fA9 : A9.toInt = (I256 a0 8).toInt := by rw [eA9]
          have rA9 := hs256.rng ka0 rfl eA9
          refine r_geti hC 9 (ci := 10) rfl u10_in (by decide) mT_5_4 dX10_readKnower_106 ka0 rfl rfl (fun x257_ e257 => ?_)
          have f257 : x257_.toInt = (I256 a0 9).toInt := by rw [e257]
          refine r_iconst hC (v := (5)) dX10_readKnower_109 (by decide) (by decide) (fun x258_ e258 t258 => ?_)
          refine r_icmp_ne hC (tgt := 114) dX10_readKnower_110 (by decide) (fun c259 => ?_) (fun c259 => ?_)
          · refine r_aload_n hC dX10_readKnower_114 2 rfl ?_
            refine r_getr hC 4 (ci := 10) rfl u10_in (by decide) mT_4_239 dX10_readKnower_115 ka0 rfl rfl hbr ?_
            obtain ⟨a260_, hb260, hk260, hn260⟩ := hs256.row krm 23 41 4 (by decide) (by decide)
            refine r_getrN hC 23 (ci := 9) rfl u9_in (by decide) nF_23 dX10_readKnower_118 krm rfl rfl hb260 ?_
            refine r_aload_n hC dX10_readKnower_121 2 rfl ?_
            refine r_getr hC 4 (ci := 10) rfl u10_in (by decide) mT_4_239 dX10_readKnower_122 ka0 rfl rfl hbr ?_
            refine r_getiN hC 9 (ci := 9) rfl u9_in (by decide) nF_9 dX10_readKnower_125 krm rfl rfl (fun x261_ e261 => ?_)
            have r261 := hs256.rng krm rfl e261
            have f261 : x261_.toInt = (I256 rm 9).toInt := by rw [e261]
            have w261 : x261_ = x5_ := by rw [e261]; exact (Eq.trans (hf256.get krm rfl) (Eq.trans (hf253.get krm rfl) (Eq.trans (hf224.get krm rfl) (Eq.trans (hf152.get krm rfl) (Eq.trans (hf151.get krm rfl) (Eq.trans (hf6.get krm rfl) e5.symm))))))
            have wt261 : x261_.toInt = x5_.toInt := by rw [w261]
            refine r_aload_n hC dX10_readKnower_128 2 rfl ?_
            refine r_getr hC 4 (ci := 10) rfl u10_in (by decide) mT_4_239 dX10_readKnower_129 ka0 rfl rfl hbr ?_
            obtain ⟨a262_, hb262, hk262, hn262⟩ := hs256.row krm 27 41 19 (by decide) (by decide)
            refine r_getrN hC 27 (ci := 9) rfl u9_in (by decide) nF_27 dX10_readKnower_132 krm rfl rfl hb262 ?_
            refine r_iload_n hC dX10_readKnower_135 1 rfl ?_
            refine x_iaload hC hk262 hn262 (by decide) rfl rfl dX10_readKnower_136 (by omega) (by omega) (fun x263_ e263 => ?_)
            refine x_iastore hC hk260 hn260 (by decide) rfl rfl dX10_readKnower_137 (by omega) (by omega) (fun I264 eI264 => ?_)
            have hs264 := hs256.put0 eI264 hk260 (rng_arr (by decide) _) rfl (xF_arr (by decide) _) (by decide)
            have hF264 := hF256.put eI264 hk260 (inS_arr rfl _)
            refine r_aload_n hC dX10_readKnower_138 2 rfl ?_
            refine r_getr hC 4 (ci := 10) rfl u10_in (by decide) mT_4_239 dX10_readKnower_139 ka0 rfl rfl hbr ?_
            obtain ⟨a265_, hb265, hk265, hn265⟩ := hs264.row krm 24 41 4 (by decide) (by decide)
            refine r_getrN hC 24 (ci := 9) rfl u9_in (by decide) nF_24 dX10_readKnower_142 krm rfl rfl hb265 ?_
            refine r_aload_n hC dX10_readKnower_145 2 rfl ?_
            refine r_getr hC 4 (ci := 10) rfl u10_in (by decide) mT_4_239 dX10_readKnower_146 ka0 rfl rfl hbr ?_
            refine r_getiN hC 9 (ci := 9) rfl u9_in (by decide) nF_9 dX10_readKnower_149 krm rfl rfl (fun x266_ e266 => ?_)
            have r266 := hs264.rng krm rfl e266
            have f266 : x266_.toInt = (I264 rm 9).toInt := by rw [e266]
            have w266 : x266_ = x261_ := by rw [e266]; exact (Eq.trans (up2_kk eI264 hk260 krm (by decide)) e261.symm)
            have wt266 : x266_.toInt = x261_.toInt := by rw [w266]
            refine r_iload_n hC dX10_readKnower_152 0 rfl ?_
            refine x_iastore hC hk265 hn265 (by decide) rfl rfl dX10_readKnower_153 (by omega) (by omega) (fun I267 eI267 => ?_)
            have hs267 := hs264.put0 eI267 hk265 (rng_arr (by decide) _) rfl (xF_arr (by decide) _) (by decide)
            have hF267 := hF264.put eI267 hk265 (inS_arr rfl _)
            refine r_aload_n hC dX10_readKnower_154 2 rfl ?_
            refine r_getr hC 4 (ci := 10) rfl u10_in (by decide) mT_4_239 dX10_readKnower_155 ka0 rfl rfl hbr ?_
            refine r_dup hC dX10_readKnower_158 rfl ?_
            refine r_getiN hC 9 (ci := 9) rfl u9_in (by decide) nF_9 dX10_readKnower_159 krm rfl rfl (fun x268_ e268 => ?_)
            have r268 := hs267.rng krm rfl e268
            have f268 : x268_.toInt = (I267 rm 9).toInt := by rw [e268]
            have w268 : x268_ = x266_ := by rw [e268]; exact (Eq.trans (up2_kk eI267 hk265 krm (by decide)) e266.symm)
            have wt268 : x268_.toInt = x266_.toInt := by rw [w268]
            refine r_iconst hC (v := (1)) dX10_readKnower_162 (by decide) (by decide) (fun x269_ e269 t269 => ?_)
            refine r_iadd hC dX10_readKnower_163 (fun x270_ e270 => ?_)
            try have t270 : x270_.toInt = x268_.toInt + x269_.toInt := by rw [e270]; exact ti_add (by omega) (by omega)
            refine r_putiN hC 9 (ci := 9) rfl u9_in tyX9_ok nmX9 (by decide) nF_9 rfl rfl rfl dX10_readKnower_164 krm rfl rfl (fun I271 eI271 => ?_)
            have hs271 := hs267.put1 eI271 krm rfl (by omega) (by omega) rfl rfl (by decide)
            have hF271 := hF267.put eI271 krm rfl
            have hG3 : I271 rm 3 = G3 := (Eq.trans (up2_at (Or.inr (by decide)) eI271) (Eq.trans (up2_kk eI267 hk265 krm (by decide)) (Eq.trans (up2_kk eI264 hk260 krm (by decide)) (Eq.trans (hf256.get krm rfl) (Eq.trans (hf253.get krm rfl) (Eq.trans (hf224.get krm rfl) (Eq.trans (hf152.get krm rfl) (Eq.trans (hf151.get krm rfl) (Eq.trans (hf6.get krm rfl) (Eq.trans (hf3.get krm rfl) eG3.symm))))))))))
            have hG3t : (I271 rm 3).toInt = G3.toInt := congrArg Int32.toInt hG3
            have hG4 : I271 rm 4 = G4 := (Eq.trans (up2_at (Or.inr (by decide)) eI271) (Eq.trans (up2_kk eI267 hk265 krm (by decide)) (Eq.trans (up2_kk eI264 hk260 krm (by decide)) (Eq.trans (hf256.get krm rfl) (Eq.trans (hf253.get krm rfl) (Eq.trans (hf224.get krm rfl) (Eq.trans (hf152.get krm rfl) (Eq.trans (hf151.get krm rfl) (Eq.trans (hf6.get krm rfl) (Eq.trans (hf3.get krm rfl) eG4.symm))))))))))
            have hG4t : (I271 rm 4).toInt = G4.toInt := congrArg Int32.toInt hG4
            have hG7 : I271 rm 7 = G7 := (Eq.trans (up2_at (Or.inr (by decide)) eI271) (Eq.trans (up2_kk eI267 hk265 krm (by decide)) (Eq.trans (up2_kk eI264 hk260 krm (by decide)) (Eq.trans (hf256.get krm rfl) (Eq.trans (hf253.get krm rfl) (Eq.trans (hf224.get krm rfl) (Eq.trans (hf152.get krm rfl) (Eq.trans (hf151.get krm rfl) (Eq.trans (hf6.get krm rfl) (Eq.trans (hf3.get krm rfl) eG7.symm))))))))))
            have hG7t : (I271 rm 7).toInt = G7.toInt := congrArg Int32.toInt hG7
            have hG8 : I271 rm 8 = G8 := (Eq.trans (up2_at (Or.inr (by decide)) eI271) (Eq.trans (up2_kk eI267 hk265 krm (by decide)) (Eq.trans (up2_kk eI264 hk260 krm (by decide)) (Eq.trans (hf256.get krm rfl) (Eq.trans (hf253.get krm rfl) (Eq.trans (hf224.get krm rfl) (Eq.trans (hf152.get krm rfl) (Eq.trans (hf151.get krm rfl) (Eq.trans (hf6.get krm rfl) (Eq.trans (hf3.get krm rfl) eG8.symm))))))))))
            have hG8t : (I271 rm 8).toInt = G8.toInt := congrArg Int32.toInt hG8
            have hG9 : I271 rm 9 = x270_ := (by rw [eI271]; exact up2_self _ _ _ _)
            have hG9t : (I271 rm 9).toInt = x270_.toInt := congrArg Int32.toInt hG9
            have hGN : I271 rm 10 = N1 := (Eq.trans (up2_at (Or.inr (by decide)) eI271) (Eq.trans (up2_kk eI267 hk265 krm (by decide)) (Eq.trans (up2_kk eI264 hk260 krm (by decide)) (Eq.trans (hf256.get krm rfl) (Eq.trans (hf253.get krm rfl) (Eq.trans (hf224.get krm rfl) (Eq.trans (hf152.get krm rfl) (Eq.trans (hf151.get krm rfl) eN1.symm))))))))
            have hGNt : (I271 rm 10).toInt = N1.toInt := congrArg Int32.toInt hGN
            have hv8 : I271 a0 8 = A9 := (Eq.trans (up2_kk eI271 krm ka0 (by decide)) (Eq.trans (up2_kk eI267 hk265 ka0 (by decide)) (Eq.trans (up2_kk eI264 hk260 ka0 (by decide)) eA9.symm)))
            have hv8t : (I271 a0 8).toInt = A9.toInt := congrArg Int32.toInt hv8
            have hv9 : I271 a0 9 = x257_ := (Eq.trans (up2_kk eI271 krm ka0 (by decide)) (Eq.trans (up2_kk eI267 hk265 ka0 (by decide)) (Eq.trans (up2_kk eI264 hk260 ka0 (by decide)) e257.symm)))
            have hv9t : (I271 a0 9).toInt = x257_.toInt := congrArg Int32.toInt hv9
            exact r_vret hC hQ hlk hr (by decide) (by decide) dX10_readKnower_167 ⟨_, _, rfl, rfl, ⟨hs271, hF271, hFJ256, (by omega), (by omega), (by omega), (by omega)⟩⟩
          · have hG3 : I256 rm 3 = G3 := (Eq.trans (hf256.get krm rfl) (Eq.trans (hf253.get krm rfl) (Eq.trans (hf224.get krm rfl) (Eq.trans (hf152.get krm rfl) (Eq.trans (hf151.get krm rfl) (Eq.trans (hf6.get krm rfl) (Eq.trans (hf3.get krm rfl) eG3.symm)))))))
            have hG3t : (I256 rm 3).toInt = G3.toInt := congrArg Int32.toInt hG3
            have hG4 : I256 rm 4 = G4 := (Eq.trans (hf256.get krm rfl) (Eq.trans (hf253.get krm rfl) (Eq.trans (hf224.get krm rfl) (Eq.trans (hf152.get krm rfl) (Eq.trans (hf151.get krm rfl) (Eq.trans (hf6.get krm rfl) (Eq.trans (hf3.get krm rfl) eG4.symm)))))))
            have hG4t : (I256 rm 4).toInt = G4.toInt := congrArg Int32.toInt hG4
            have hG7 : I256 rm 7 = G7 := (Eq.trans (hf256.get krm rfl) (Eq.trans (hf253.get krm rfl) (Eq.trans (hf224.get krm rfl) (Eq.trans (hf152.get krm rfl) (Eq.trans (hf151.get krm rfl) (Eq.trans (hf6.get krm rfl) (Eq.trans (hf3.get krm rfl) eG7.symm)))))))
            have hG7t : (I256 rm 7).toInt = G7.toInt := congrArg Int32.toInt hG7
            have hG8 : I256 rm 8 = G8 := (Eq.trans (hf256.get krm rfl) (Eq.trans (hf253.get krm rfl) (Eq.trans (hf224.get krm rfl) (Eq.trans (hf152.get krm rfl) (Eq.trans (hf151.get krm rfl) (Eq.trans (hf6.get krm rfl) (Eq.trans (hf3.get krm rfl) eG8.symm)))))))
            have hG8t : (I256 rm 8).toInt = G8.toInt := congrArg Int32.toInt hG8
            have hG9 : I256 rm 9 = x5_ := (Eq.trans (hf256.get krm rfl) (Eq.trans (hf253.get krm rfl) (Eq.trans (hf224.get krm rfl) (Eq.trans (hf152.get krm rfl) (Eq.trans (hf151.get krm rfl) (Eq.trans (hf6.get krm rfl) e5.symm))))))
            have hG9t : (I256 rm 9).toInt = x5_.toInt := congrArg Int32.toInt hG9
            have hGN : I256 rm 10 = N1 := (Eq.trans (hf256.get krm rfl) (Eq.trans (hf253.get krm rfl) (Eq.trans (hf224.get krm rfl) (Eq.trans (hf152.get krm rfl) (Eq.trans (hf151.get krm rfl) eN1.symm)))))
            have hGNt : (I256 rm 10).toInt = N1.toInt := congrArg Int32.toInt hGN
            have hv8 : I256 a0 8 = A9 := eA9.symm
            have hv8t : (I256 a0 8).toInt = A9.toInt := congrArg Int32.toInt hv8
            have hv9 : I256 a0 9 = x257_ := e257.symm
            have hv9t : (I256 a0 9).toInt = x257_.toInt := congrArg Int32.toInt hv9
            exact r_vret hC hQ hlk hr (by decide) (by decide) dX10_readKnower_113 ⟨_, _, rfl, rfl, ⟨hs256, hF256, hFJ256, (by omega), (by omega), (by omega), (by omega)⟩⟩
        · refine r_aload_n hC dX10_readKnower_84 1 rfl ?_
          refine r_iconst hC (v := (2)) dX10_readKnower_85 (by decide) (by decide) (fun x272_ e272 t272 => ?_)
          refine r_callV hC (As := [.int x272_]) (rest := []) (ci := 10) (c_X10_wrong g (xL X) K len I224 J152 R hs224 a0 ka0 x272_) mT_5_236 mT_1_10 mT_5_233 mT_5_235 mP_55 okX10_wrong ⟨by decide, by decide⟩ rfl (by show kO (K a0) = _; rw [ka0]; rfl) rfl rfl (Nat.le_of_ble_eq_true rfl) ⟨by decide, by decide⟩ dX10_readKnower_86 (aV1 (F := fun st M => P g X 3 89 [(1, .int x226_), (0, .ref a0)] st _ _ M) (M := (K, len, I224, J152, R)) fun I273 h273 => ?_)
          obtain ⟨hs273, hf273, k273_0, k273_1⟩ := h273
          show P g X 3 89 [(1, .int x226_), (0, .ref a0)] [] _ _ (K, len, I273, J152, R)
          have hF273 : Fr K [(10, 9), (10, 10), (11, 8), (11, 9), (11, 10), (11, 11), (11, 12), (11, 13), (41, 999)] I I273 := hF224.trans hf273 rfl rfl
          refine r_aload_n hC dX10_readKnower_89 1 rfl ?_
          refine r_callV hC (As := []) (rest := []) (ci := 10) (c_X10_goesOn g (xL X) K len I273 J152 R hs273 a0 ka0) mT_5_199 mT_1_10 mT_5_196 mT_5_198 mP_49 okX10_goesOn ⟨by decide, by decide⟩ rfl (by show kO (K a0) = _; rw [ka0]; rfl) rfl rfl (Nat.le_of_ble_eq_true rfl) ⟨by decide, by decide⟩ dX10_readKnower_90 (aV2 (F := fun st M => P g X 3 93 [(1, .int x226_), (0, .ref a0)] st _ _ M) (M := (K, len, I273, J152, R)) fun I274 J274 h274 => ?_)
          obtain ⟨hs274, hf274, hfj274, k274_0, k274_1, k274_2, k274_3⟩ := h274
          show P g X 3 93 [(1, .int x226_), (0, .ref a0)] [] _ _ (K, len, I274, J274, R)
          have hF274 : Fr K [(10, 9), (10, 10), (11, 8), (11, 9), (11, 10), (11, 11), (11, 12), (11, 13), (41, 999)] I I274 := hF273.trans hf274 rfl rfl
          have hFJ274 : Fr K [(11, 14), (42, 999)] J J274 := hFJ152.trans hfj274 rfl rfl
          refine r_aload_n hC dX10_readKnower_93 1 rfl ?_
          refine r_ldcwS hC (i := 59) (by decide) rfl rfl dX10_readKnower_94 ?_
          refine r_iconst hC (v := (0)) dX10_readKnower_97 (by decide) (by decide) (fun x275_ e275 t275 => ?_)
          refine r_sipush hC (v := (999)) dX10_readKnower_98 (by decide) (by decide) (fun x276_ e276 t276 => ?_)
          refine r_callV hC (As := [.ref (g.2.2.1 59), .int x275_, .int x276_]) (rest := []) (ci := 10) (c_X10_readPart g (xL X) K len I274 J274 R hs274 a0 ka0 59 (by decide) x275_ x276_) mT_6_1 mT_1_10 mT_5_238 mT_6_0 mP_56 okX10_readPart ⟨by decide, by decide⟩ rfl (by show kO (K a0) = _; rw [ka0]; rfl) rfl rfl (Nat.le_of_ble_eq_true rfl) ⟨by decide, by decide⟩ dX10_readKnower_101 (aI2 (F := fun st M => P g X 3 104 [(1, .int x226_), (0, .ref a0)] st _ _ M) (M := (K, len, I274, J274, R)) fun x277_ I277 J277 h277 => ?_)
          obtain ⟨hs277, hf277, hfj277, k277_0, k277_1, k277_2, k277_3⟩ := h277
          show P g X 3 104 [(1, .int x226_), (0, .ref a0)] [.int x277_] _ _ (K, len, I277, J277, R)
          have hF277 : Fr K [(10, 9), (10, 10), (11, 8), (11, 9), (11, 10), (11, 11), (11, 12), (11, 13), (41, 999)] I I277 := hF274.trans hf277 rfl rfl
          have hFJ277 : Fr K [(11, 14), (42, 999)] J J277 := hFJ274.trans hfj277 rfl rfl
          refine r_istore_n hC (lv' := [(2, .int x277_), (1, .int x226_), (0, .ref a0)]) dX10_readKnower_104 (by decide) rfl ?_
          refine r_aload_n hC dX10_readKnower_105 2 rfl ?_
          obtain ⟨A9, eA9⟩ : ∃ z : Int32, z = I277 a0 8 := ⟨_, rfl⟩
          have fA9 : A9.toInt = (I277 a0 8).toInt := by rw [eA9]
          have rA9 := hs277.rng ka0 rfl eA9
          refine r_geti hC 9 (ci := 10) rfl u10_in (by decide) mT_5_4 dX10_readKnower_106 ka0 rfl rfl (fun x278_ e278 => ?_)
          have f278 : x278_.toInt = (I277 a0 9).toInt := by rw [e278]
          refine r_iconst hC (v := (5)) dX10_readKnower_109 (by decide) (by decide) (fun x279_ e279 t279 => ?_)
          refine r_icmp_ne hC (tgt := 114) dX10_readKnower_110 (by decide) (fun c280 => ?_) (fun c280 => ?_)
          · refine r_aload_n hC dX10_readKnower_114 2 rfl ?_
            refine r_getr hC 4 (ci := 10) rfl u10_in (by decide) mT_4_239 dX10_readKnower_115 ka0 rfl rfl hbr ?_
            obtain ⟨a281_, hb281, hk281, hn281⟩ := hs277.row krm 23 41 4 (by decide) (by decide)
            refine r_getrN hC 23 (ci := 9) rfl u9_in (by decide) nF_23 dX10_readKnower_118 krm rfl rfl hb281 ?_
            refine r_aload_n hC dX10_readKnower_121 2 rfl ?_
            refine r_getr hC 4 (ci := 10) rfl u10_in (by decide) mT_4_239 dX10_readKnower_122 ka0 rfl rfl hbr ?_
            refine r_getiN hC 9 (ci := 9) rfl u9_in (by decide) nF_9 dX10_readKnower_125 krm rfl rfl (fun x282_ e282 => ?_)
            have r282 := hs277.rng krm rfl e282
            have f282 : x282_.toInt = (I277 rm 9).toInt := by rw [e282]
            have w282 : x282_ = x5_ := by rw [e282]; exact (Eq.trans (hf277.get krm rfl) (Eq.trans (hf274.get krm rfl) (Eq.trans (hf273.get krm rfl) (Eq.trans (hf224.get krm rfl) (Eq.trans (hf152.get krm rfl) (Eq.trans (hf151.get krm rfl) (Eq.trans (hf6.get krm rfl) e5.symm)))))))
            have wt282 : x282_.toInt = x5_.toInt := by rw [w282]
            refine r_aload_n hC dX10_readKnower_128 2 rfl ?_
            refine r_getr hC 4 (ci := 10) rfl u10_in (by decide) mT_4_239 dX10_readKnower_129 ka0 rfl rfl hbr ?_
            obtain ⟨a283_, hb283, hk283, hn283⟩ := hs277.row krm 27 41 19 (by decide) (by decide)
            refine r_getrN hC 27 (ci := 9) rfl u9_in (by decide) nF_27 dX10_readKnower_132 krm rfl rfl hb283 ?_
            refine r_iload_n hC dX10_readKnower_135 1 rfl ?_
            refine x_iaload hC hk283 hn283 (by decide) rfl rfl dX10_readKnower_136 (by omega) (by omega) (fun x284_ e284 => ?_)
            refine x_iastore hC hk281 hn281 (by decide) rfl rfl dX10_readKnower_137 (by omega) (by omega) (fun I285 eI285 => ?_)
            have hs285 := hs277.put0 eI285 hk281 (rng_arr (by decide) _) rfl (xF_arr (by decide) _) (by decide)
            have hF285 := hF277.put eI285 hk281 (inS_arr rfl _)
            refine r_aload_n hC dX10_readKnower_138 2 rfl ?_
            refine r_getr hC 4 (ci := 10) rfl u10_in (by decide) mT_4_239 dX10_readKnower_139 ka0 rfl rfl hbr ?_
            obtain ⟨a286_, hb286, hk286, hn286⟩ := hs285.row krm 24 41 4 (by decide) (by decide)
            refine r_getrN hC 24 (ci := 9) rfl u9_in (by decide) nF_24 dX10_readKnower_142 krm rfl rfl hb286 ?_
            refine r_aload_n hC dX10_readKnower_145 2 rfl ?_
            refine r_getr hC 4 (ci := 10) rfl u10_in (by decide) mT_4_239 dX10_readKnower_146 ka0 rfl rfl hbr ?_
            refine r_getiN hC 9 (ci := 9) rfl u9_in (by decide) nF_9 dX10_readKnower_149 krm rfl rfl (fun x287_ e287 => ?_)
            have r287 := hs285.rng krm rfl e287
            have f287 : x287_.toInt = (I285 rm 9).toInt := by rw [e287]
            have w287 : x287_ = x282_ := by rw [e287]; exact (Eq.trans (up2_kk eI285 hk281 krm (by decide)) e282.symm)
            have wt287 : x287_.toInt = x282_.toInt := by rw [w287]
            refine r_iload_n hC dX10_readKnower_152 0 rfl ?_
            refine x_iastore hC hk286 hn286 (by decide) rfl rfl dX10_readKnower_153 (by omega) (by omega) (fun I288 eI288 => ?_)
            have hs288 := hs285.put0 eI288 hk286 (rng_arr (by decide) _) rfl (xF_arr (by decide) _) (by decide)
            have hF288 := hF285.put eI288 hk286 (inS_arr rfl _)
            refine r_aload_n hC dX10_readKnower_154 2 rfl ?_
            refine r_getr hC 4 (ci := 10) rfl u10_in (by decide) mT_4_239 dX10_readKnower_155 ka0 rfl rfl hbr ?_
            refine r_dup hC dX10_readKnower_158 rfl ?_
            refine r_getiN hC 9 (ci := 9) rfl u9_in (by decide) nF_9 dX10_readKnower_159 krm rfl rfl (fun x289_ e289 => ?_)
            have r289 := hs288.rng krm rfl e289
            have f289 : x289_.toInt = (I288 rm 9).toInt := by rw [e289]
            have w289 : x289_ = x287_ := by rw [e289]; exact (Eq.trans (up2_kk eI288 hk286 krm (by decide)) e287.symm)
            have wt289 : x289_.toInt = x287_.toInt := by rw [w289]
            refine r_iconst hC (v := (1)) dX10_readKnower_162 (by decide) (by decide) (fun x290_ e290 t290 => ?_)
            refine r_iadd hC dX10_readKnower_163 (fun x291_ e291 => ?_)
            try have t291 : x291_.toInt = x289_.toInt + x290_.toInt := by rw [e291]; exact ti_add (by omega) (by omega)
            refine r_putiN hC 9 (ci := 9) rfl u9_in tyX9_ok nmX9 (by decide) nF_9 rfl rfl rfl dX10_readKnower_164 krm rfl rfl (fun I292 eI292 => ?_)
            have hs292 := hs288.put1 eI292 krm rfl (by omega) (by omega) rfl rfl (by decide)
            have hF292 := hF288.put eI292 krm rfl
            have hG3 : I292 rm 3 = G3 := (Eq.trans (up2_at (Or.inr (by decide)) eI292) (Eq.trans (up2_kk eI288 hk286 krm (by decide)) (Eq.trans (up2_kk eI285 hk281 krm (by decide)) (Eq.trans (hf277.get krm rfl) (Eq.trans (hf274.get krm rfl) (Eq.trans (hf273.get krm rfl) (Eq.trans (hf224.get krm rfl) (Eq.trans (hf152.get krm rfl) (Eq.trans (hf151.get krm rfl) (Eq.trans (hf6.get krm rfl) (Eq.trans (hf3.get krm rfl) eG3.symm)))))))))))
            have hG3t : (I292 rm 3).toInt = G3.toInt := congrArg Int32.toInt hG3
            have hG4 : I292 rm 4 = G4 := (Eq.trans (up2_at (Or.inr (by decide)) eI292) (Eq.trans (up2_kk eI288 hk286 krm (by decide)) (Eq.trans (up2_kk eI285 hk281 krm (by decide)) (Eq.trans (hf277.get krm rfl) (Eq.trans (hf274.get krm rfl) (Eq.trans (hf273.get krm rfl) (Eq.trans (hf224.get krm rfl) (Eq.trans (hf152.get krm rfl) (Eq.trans (hf151.get krm rfl) (Eq.trans (hf6.get krm rfl) (Eq.trans (hf3.get krm rfl) eG4.symm)))))))))))
            have hG4t : (I292 rm 4).toInt = G4.toInt := congrArg Int32.toInt hG4
            have hG7 : I292 rm 7 = G7 := (Eq.trans (up2_at (Or.inr (by decide)) eI292) (Eq.trans (up2_kk eI288 hk286 krm (by decide)) (Eq.trans (up2_kk eI285 hk281 krm (by decide)) (Eq.trans (hf277.get krm rfl) (Eq.trans (hf274.get krm rfl) (Eq.trans (hf273.get krm rfl) (Eq.trans (hf224.get krm rfl) (Eq.trans (hf152.get krm rfl) (Eq.trans (hf151.get krm rfl) (Eq.trans (hf6.get krm rfl) (Eq.trans (hf3.get krm rfl) eG7.symm)))))))))))
            have hG7t : (I292 rm 7).toInt = G7.toInt := congrArg Int32.toInt hG7
            have hG8 : I292 rm 8 = G8 := (Eq.trans (up2_at (Or.inr (by decide)) eI292) (Eq.trans (up2_kk eI288 hk286 krm (by decide)) (Eq.trans (up2_kk eI285 hk281 krm (by decide)) (Eq.trans (hf277.get krm rfl) (Eq.trans (hf274.get krm rfl) (Eq.trans (hf273.get krm rfl) (Eq.trans (hf224.get krm rfl) (Eq.trans (hf152.get krm rfl) (Eq.trans (hf151.get krm rfl) (Eq.trans (hf6.get krm rfl) (Eq.trans (hf3.get krm rfl) eG8.symm)))))))))))
            have hG8t : (I292 rm 8).toInt = G8.toInt := congrArg Int32.toInt hG8
            have hG9 : I292 rm 9 = x291_ := (by rw [eI292]; exact up2_self _ _ _ _)
            have hG9t : (I292 rm 9).toInt = x291_.toInt := congrArg Int32.toInt hG9
            have hGN : I292 rm 10 = N1 := (Eq.trans (up2_at (Or.inr (by decide)) eI292) (Eq.trans (up2_kk eI288 hk286 krm (by decide)) (Eq.trans (up2_kk eI285 hk281 krm (by decide)) (Eq.trans (hf277.get krm rfl) (Eq.trans (hf274.get krm rfl) (Eq.trans (hf273.get krm rfl) (Eq.trans (hf224.get krm rfl) (Eq.trans (hf152.get krm rfl) (Eq.trans (hf151.get krm rfl) eN1.symm)))))))))
            have hGNt : (I292 rm 10).toInt = N1.toInt := congrArg Int32.toInt hGN
            have hv8 : I292 a0 8 = A9 := (Eq.trans (up2_kk eI292 krm ka0 (by decide)) (Eq.trans (up2_kk eI288 hk286 ka0 (by decide)) (Eq.trans (up2_kk eI285 hk281 ka0 (by decide)) eA9.symm)))
            have hv8t : (I292 a0 8).toInt = A9.toInt := congrArg Int32.toInt hv8
            have hv9 : I292 a0 9 = x278_ := (Eq.trans (up2_kk eI292 krm ka0 (by decide)) (Eq.trans (up2_kk eI288 hk286 ka0 (by decide)) (Eq.trans (up2_kk eI285 hk281 ka0 (by decide)) e278.symm)))
            have hv9t : (I292 a0 9).toInt = x278_.toInt := congrArg Int32.toInt hv9
            exact r_vret hC hQ hlk hr (by decide) (by decide) dX10_readKnower_167 ⟨_, _, rfl, rfl, ⟨hs292, hF292, hFJ277, (by omega), (by omega), (by omega), (by omega)⟩⟩
          · have hG3 : I277 rm 3 = G3 := (Eq.trans (hf277.get krm rfl) (Eq.trans (hf274.get krm rfl) (Eq.trans (hf273.get krm rfl) (Eq.trans (hf224.get krm rfl) (Eq.trans (hf152.get krm rfl) (Eq.trans (hf151.get krm rfl) (Eq.trans (hf6.get krm rfl) (Eq.trans (hf3.get krm rfl) eG3.symm))))))))
            have hG3t : (I277 rm 3).toInt = G3.toInt := congrArg Int32.toInt hG3
            have hG4 : I277 rm 4 = G4 := (Eq.trans (hf277.get krm rfl) (Eq.trans (hf274.get krm rfl) (Eq.trans (hf273.get krm rfl) (Eq.trans (hf224.get krm rfl) (Eq.trans (hf152.get krm rfl) (Eq.trans (hf151.get krm rfl) (Eq.trans (hf6.get krm rfl) (Eq.trans (hf3.get krm rfl) eG4.symm))))))))
            have hG4t : (I277 rm 4).toInt = G4.toInt := congrArg Int32.toInt hG4
            have hG7 : I277 rm 7 = G7 := (Eq.trans (hf277.get krm rfl) (Eq.trans (hf274.get krm rfl) (Eq.trans (hf273.get krm rfl) (Eq.trans (hf224.get krm rfl) (Eq.trans (hf152.get krm rfl) (Eq.trans (hf151.get krm rfl) (Eq.trans (hf6.get krm rfl) (Eq.trans (hf3.get krm rfl) eG7.symm))))))))
            have hG7t : (I277 rm 7).toInt = G7.toInt := congrArg Int32.toInt hG7
            have hG8 : I277 rm 8 = G8 := (Eq.trans (hf277.get krm rfl) (Eq.trans (hf274.get krm rfl) (Eq.trans (hf273.get krm rfl) (Eq.trans (hf224.get krm rfl) (Eq.trans (hf152.get krm rfl) (Eq.trans (hf151.get krm rfl) (Eq.trans (hf6.get krm rfl) (Eq.trans (hf3.get krm rfl) eG8.symm))))))))
            have hG8t : (I277 rm 8).toInt = G8.toInt := congrArg Int32.toInt hG8
            have hG9 : I277 rm 9 = x5_ := (Eq.trans (hf277.get krm rfl) (Eq.trans (hf274.get krm rfl) (Eq.trans (hf273.get krm rfl) (Eq.trans (hf224.get krm rfl) (Eq.trans (hf152.get krm rfl) (Eq.trans (hf151.get krm rfl) (Eq.trans (hf6.get krm rfl) e5.symm)))))))
            have hG9t : (I277 rm 9).toInt = x5_.toInt := congrArg Int32.toInt hG9
            have hGN : I277 rm 10 = N1 := (Eq.trans (hf277.get krm rfl) (Eq.trans (hf274.get krm rfl) (Eq.trans (hf273.get krm rfl) (Eq.trans (hf224.get krm rfl) (Eq.trans (hf152.get krm rfl) (Eq.trans (hf151.get krm rfl) eN1.symm))))))
            have hGNt : (I277 rm 10).toInt = N1.toInt := congrArg Int32.toInt hGN
            have hv8 : I277 a0 8 = A9 := eA9.symm
            have hv8t : (I277 a0 8).toInt = A9.toInt := congrArg Int32.toInt hv8
            have hv9 : I277 a0 9 = x278_ := e278.symm
            have hv9t : (I277 a0 9).toInt = x278_.toInt := congrArg Int32.toInt hv9
            exact r_vret hC hQ hlk hr (by decide) (by decide) dX10_readKnower_113 ⟨_, _, rfl, rfl, ⟨hs277, hF277, hFJ277, (by omega), (by omega), (by omega), (by omega)⟩⟩
set_option maxHeartbeats 4000000 in
set_option maxRecDepth 100000 in
theorem c_X10_readLine (g : GG) (l : Launch) (K len : Nat → Nat) (I : Nat → Nat → Int32) (J : Nat → Nat → Int64) (R : Nat → Nat → Option Nat) (hs : Sf K len I R) (a0 : Nat) (ka0 : K a0 = 11) (rm : Nat) (hbr : R a0 4 = some rm) (krm : K rm = 10) (p0 : (I a0 9).toInt = 5 ∨ (I rm 10).toInt ≤ (I rm 3).toInt + (I rm 7).toInt + (I rm 8).toInt + (I rm 9).toInt) (p1 : (I rm 4).toInt ≤ 8) : Ct g l yX10_readLine cX10_readLine 1 (Option.none : Option Jvm.ClassFile.FieldType) rmX10_readLine [.ref a0] (K, len, I, J, R) (pV2 (K, len, I, J, R) (fun I' J' => Sf K len I' R ∧ Fr K [(10, 0), (10, 1), (10, 2), (10, 3), (10, 4), (10, 5), (10, 6), (10, 7), (10, 8), (10, 9), (10, 10), (11, 8), (11, 9), (11, 10), (11, 11), (11, 12), (11, 13), (41, 999), (1000, 999)] I I' ∧ Fr K [(11, 14), (42, 999)] J J' ∧ ((I' a0 9).toInt = 5 ∨ (I' rm 10).toInt ≤ (I' rm 3).toInt + (I' rm 7).toInt + (I' rm 8).toInt + (I' rm 9).toInt) ∧ ((I' rm 4).toInt ≤ 8) ∧ ((I a0 8).toInt ≤ (I' a0 8).toInt) ∧ ((I' a0 9).toInt = 4 → (I a0 8).toInt < (I' a0 8).toInt))) := by
  refine Ct_intro (by decide +kernel) (Nat.le_of_ble_eq_true rfl) (fun X hC hL hKK hNm hr hlk hQ => ?_)
  subst hL
  have hC : Cx g X cX10_readLine "HillTapModel" 1 rmX10_readLine := hC
  show P g X 1 0 [(0, .ref a0)] [] 0 0 (K, len, I, J, R)
  have hF : Fr K [(10, 0), (10, 1), (10, 2), (10, 3), (10, 4), (10, 5), (10, 6), (10, 7), (10, 8), (10, 9), (10, 10), (11, 8), (11, 9), (11, 10), (11, 11), (11, 12), (11, 13), (41, 999), (1000, 999)] I I := Fr.refl
  have hFJ : Fr K [(11, 14), (42, 999)] J J := Fr.refl
  obtain ⟨G3, eG3⟩ : ∃ z : Int32, z = I rm 3 := ⟨_, rfl⟩
  have fG3 : G3.toInt = (I rm 3).toInt := by rw [eG3]
  have rG3 := hs.rng krm rfl eG3
  obtain ⟨G4, eG4⟩ : ∃ z : Int32, z = I rm 4 := ⟨_, rfl⟩
  have fG4 : G4.toInt = (I rm 4).toInt := by rw [eG4]
  have rG4 := hs.rng krm rfl eG4
  obtain ⟨G7, eG7⟩ : ∃ z : Int32, z = I rm 7 := ⟨_, rfl⟩
  have fG7 : G7.toInt = (I rm 7).toInt := by rw [eG7]
  have rG7 := hs.rng krm rfl eG7
  obtain ⟨G8, eG8⟩ : ∃ z : Int32, z = I rm 8 := ⟨_, rfl⟩
  have fG8 : G8.toInt = (I rm 8).toInt := by rw [eG8]
  have rG8 := hs.rng krm rfl eG8
  obtain ⟨G9, eG9⟩ : ∃ z : Int32, z = I rm 9 := ⟨_, rfl⟩
  have fG9 : G9.toInt = (I rm 9).toInt := by rw [eG9]
  have rG9 := hs.rng krm rfl eG9
  obtain ⟨GN, eGN⟩ : ∃ z : Int32, z = I rm 10 := ⟨_, rfl⟩
  have fGN : GN.toInt = (I rm 10).toInt := by rw [eGN]
  have rGN := hs.rng krm rfl eGN
  refine r_aload_n hC dX10_readLine_0 0 rfl ?_
  refine r_ldcS hC (i := 31) (by decide) rfl rfl dX10_readLine_1 ?_
  refine r_callV hC (As := [.ref (g.2.2.1 31)]) (rest := []) (ci := 10) (c_X10_isWord g (xL X) K len I J R hs a0 ka0 31 (by decide)) mT_5_223 mT_1_10 mT_5_220 mT_5_222 mP_53 okX10_isWord ⟨by decide, by decide⟩ rfl (by show kO (K a0) = _; rw [ka0]; rfl) rfl rfl (Nat.le_of_ble_eq_true rfl) ⟨by decide, by decide⟩ dX10_readLine_3 (aI0 (F := fun st M => P g X 1 6 [(0, .ref a0)] st _ _ M) (M := (K, len, I, J, R)) fun x1_ h1 => ?_)
  obtain ⟨k1_0, k1_1, k1_2⟩ := h1
  show P g X 1 6 [(0, .ref a0)] [.int x1_] _ _ (K, len, I, J, R)
  refine r_if_eq hC (tgt := 16) dX10_readLine_6 (by decide) (fun c2 => ?_) (fun c2 => ?_)
  · refine r_aload_n hC dX10_readLine_16 0 rfl ?_
    refine r_ldcS hC (i := 35) (by decide) rfl rfl dX10_readLine_17 ?_
    refine r_callV hC (As := [.ref (g.2.2.1 35)]) (rest := []) (ci := 10) (c_X10_isWord g (xL X) K len I J R hs a0 ka0 35 (by decide)) mT_5_223 mT_1_10 mT_5_220 mT_5_222 mP_53 okX10_isWord ⟨by decide, by decide⟩ rfl (by show kO (K a0) = _; rw [ka0]; rfl) rfl rfl (Nat.le_of_ble_eq_true rfl) ⟨by decide, by decide⟩ dX10_readLine_19 (aI0 (F := fun st M => P g X 1 22 [(0, .ref a0)] st _ _ M) (M := (K, len, I, J, R)) fun x3_ h3 => ?_)
    obtain ⟨k3_0, k3_1, k3_2⟩ := h3
    show P g X 1 22 [(0, .ref a0)] [.int x3_] _ _ (K, len, I, J, R)
    refine r_if_eq hC (tgt := 32) dX10_readLine_22 (by decide) (fun c4 => ?_) (fun c4 => ?_)
    · refine r_aload_n hC dX10_readLine_32 0 rfl ?_
      refine r_ldcS hC (i := 36) (by decide) rfl rfl dX10_readLine_33 ?_
      refine r_callV hC (As := [.ref (g.2.2.1 36)]) (rest := []) (ci := 10) (c_X10_isWord g (xL X) K len I J R hs a0 ka0 36 (by decide)) mT_5_223 mT_1_10 mT_5_220 mT_5_222 mP_53 okX10_isWord ⟨by decide, by decide⟩ rfl (by show kO (K a0) = _; rw [ka0]; rfl) rfl rfl (Nat.le_of_ble_eq_true rfl) ⟨by decide, by decide⟩ dX10_readLine_35 (aI0 (F := fun st M => P g X 1 38 [(0, .ref a0)] st _ _ M) (M := (K, len, I, J, R)) fun x5_ h5 => ?_)
      obtain ⟨k5_0, k5_1, k5_2⟩ := h5
      show P g X 1 38 [(0, .ref a0)] [.int x5_] _ _ (K, len, I, J, R)
      refine r_if_eq hC (tgt := 48) dX10_readLine_38 (by decide) (fun c6 => ?_) (fun c6 => ?_)
      · refine r_aload_n hC dX10_readLine_48 0 rfl ?_
        refine r_ldcS hC (i := 37) (by decide) rfl rfl dX10_readLine_49 ?_
        refine r_callV hC (As := [.ref (g.2.2.1 37)]) (rest := []) (ci := 10) (c_X10_isWord g (xL X) K len I J R hs a0 ka0 37 (by decide)) mT_5_223 mT_1_10 mT_5_220 mT_5_222 mP_53 okX10_isWord ⟨by decide, by decide⟩ rfl (by show kO (K a0) = _; rw [ka0]; rfl) rfl rfl (Nat.le_of_ble_eq_true rfl) ⟨by decide, by decide⟩ dX10_readLine_51 (aI0 (F := fun st M => P g X 1 54 [(0, .ref a0)] st _ _ M) (M := (K, len, I, J, R)) fun x7_ h7 => ?_)
        obtain ⟨k7_0, k7_1, k7_2⟩ := h7
        show P g X 1 54 [(0, .ref a0)] [.int x7_] _ _ (K, len, I, J, R)
        refine r_if_eq hC (tgt := 64) dX10_readLine_54 (by decide) (fun c8 => ?_) (fun c8 => ?_)
        · refine r_aload_n hC dX10_readLine_64 0 rfl ?_
          refine r_ldcS hC (i := 38) (by decide) rfl rfl dX10_readLine_65 ?_
          refine r_callV hC (As := [.ref (g.2.2.1 38)]) (rest := []) (ci := 10) (c_X10_isWord g (xL X) K len I J R hs a0 ka0 38 (by decide)) mT_5_223 mT_1_10 mT_5_220 mT_5_222 mP_53 okX10_isWord ⟨by decide, by decide⟩ rfl (by show kO (K a0) = _; rw [ka0]; rfl) rfl rfl (Nat.le_of_ble_eq_true rfl) ⟨by decide, by decide⟩ dX10_readLine_67 (aI0 (F := fun st M => P g X 1 70 [(0, .ref a0)] st _ _ M) (M := (K, len, I, J, R)) fun x9_ h9 => ?_)
          obtain ⟨k9_0, k9_1, k9_2⟩ := h9
          show P g X 1 70 [(0, .ref a0)] [.int x9_] _ _ (K, len, I, J, R)
          refine r_if_eq hC (tgt := 80) dX10_readLine_70 (by decide) (fun c10 => ?_) (fun c10 => ?_)
          · refine r_aload_n hC dX10_readLine_80 0 rfl ?_
            refine r_ldcS hC (i := 39) (by decide) rfl rfl dX10_readLine_81 ?_
            refine r_callV hC (As := [.ref (g.2.2.1 39)]) (rest := []) (ci := 10) (c_X10_isWord g (xL X) K len I J R hs a0 ka0 39 (by decide)) mT_5_223 mT_1_10 mT_5_220 mT_5_222 mP_53 okX10_isWord ⟨by decide, by decide⟩ rfl (by show kO (K a0) = _; rw [ka0]; rfl) rfl rfl (Nat.le_of_ble_eq_true rfl) ⟨by decide, by decide⟩ dX10_readLine_83 (aI0 (F := fun st M => P g X 1 86 [(0, .ref a0)] st _ _ M) (M := (K, len, I, J, R)) fun x11_ h11 => ?_)
            obtain ⟨k11_0, k11_1, k11_2⟩ := h11
            show P g X 1 86 [(0, .ref a0)] [.int x11_] _ _ (K, len, I, J, R)
            refine r_if_eq hC (tgt := 96) dX10_readLine_86 (by decide) (fun c12 => ?_) (fun c12 => ?_)
            · refine r_aload_n hC dX10_readLine_96 0 rfl ?_
              refine r_ldcS hC (i := 40) (by decide) rfl rfl dX10_readLine_97 ?_
              refine r_callV hC (As := [.ref (g.2.2.1 40)]) (rest := []) (ci := 10) (c_X10_isWord g (xL X) K len I J R hs a0 ka0 40 (by decide)) mT_5_223 mT_1_10 mT_5_220 mT_5_222 mP_53 okX10_isWord ⟨by decide, by decide⟩ rfl (by show kO (K a0) = _; rw [ka0]; rfl) rfl rfl (Nat.le_of_ble_eq_true rfl) ⟨by decide, by decide⟩ dX10_readLine_99 (aI0 (F := fun st M => P g X 1 102 [(0, .ref a0)] st _ _ M) (M := (K, len, I, J, R)) fun x13_ h13 => ?_)
              obtain ⟨k13_0, k13_1, k13_2⟩ := h13
              show P g X 1 102 [(0, .ref a0)] [.int x13_] _ _ (K, len, I, J, R)
              refine r_if_eq hC (tgt := 112) dX10_readLine_102 (by decide) (fun c14 => ?_) (fun c14 => ?_)
              · refine r_aload_n hC dX10_readLine_112 0 rfl ?_
                refine r_iconst hC (v := (1)) dX10_readLine_113 (by decide) (by decide) (fun x15_ e15 t15 => ?_)
                refine r_callV hC (As := [.int x15_]) (rest := []) (ci := 10) (c_X10_wrong g (xL X) K len I J R hs a0 ka0 x15_) mT_5_236 mT_1_10 mT_5_233 mT_5_235 mP_55 okX10_wrong ⟨by decide, by decide⟩ rfl (by show kO (K a0) = _; rw [ka0]; rfl) rfl rfl (Nat.le_of_ble_eq_true rfl) ⟨by decide, by decide⟩ dX10_readLine_114 (aV1 (F := fun st M => P g X 1 117 [(0, .ref a0)] st _ _ M) (M := (K, len, I, J, R)) fun I16 h16 => ?_)
                obtain ⟨hs16, hf16, k16_0, k16_1⟩ := h16
                show P g X 1 117 [(0, .ref a0)] [] _ _ (K, len, I16, J, R)
                have hF16 : Fr K [(10, 0), (10, 1), (10, 2), (10, 3), (10, 4), (10, 5), (10, 6), (10, 7), (10, 8), (10, 9), (10, 10), (11, 8), (11, 9), (11, 10), (11, 11), (11, 12), (11, 13), (41, 999), (1000, 999)] I I16 := hF.trans hf16 rfl rfl
                have hG3 : I16 rm 3 = G3 := (Eq.trans (hf16.get krm rfl) eG3.symm)
                have hG3t : (I16 rm 3).toInt = G3.toInt := congrArg Int32.toInt hG3
                have hG4 : I16 rm 4 = G4 := (Eq.trans (hf16.get krm rfl) eG4.symm)
                have hG4t : (I16 rm 4).toInt = G4.toInt := congrArg Int32.toInt hG4
                have hG7 : I16 rm 7 = G7 := (Eq.trans (hf16.get krm rfl) eG7.symm)
                have hG7t : (I16 rm 7).toInt = G7.toInt := congrArg Int32.toInt hG7
                have hG8 : I16 rm 8 = G8 := (Eq.trans (hf16.get krm rfl) eG8.symm)
                have hG8t : (I16 rm 8).toInt = G8.toInt := congrArg Int32.toInt hG8
                have hG9 : I16 rm 9 = G9 := (Eq.trans (hf16.get krm rfl) eG9.symm)
                have hG9t : (I16 rm 9).toInt = G9.toInt := congrArg Int32.toInt hG9
                have hGN : I16 rm 10 = GN := (Eq.trans (hf16.get krm rfl) eGN.symm)
                have hGNt : (I16 rm 10).toInt = GN.toInt := congrArg Int32.toInt hGN
                exact r_vret hC hQ hlk hr (by decide) (by decide) dX10_readLine_117 ⟨_, _, rfl, rfl, ⟨hs16, hF16, hFJ, (by omega), (by omega), (by omega), (by omega)⟩⟩
              · refine r_aload_n hC dX10_readLine_105 0 rfl ?_
                refine r_callV hC (As := []) (rest := []) (ci := 10) (c_X10_readKnower g (xL X) K len I J R hs a0 ka0 rm hbr krm (by omega) (by omega) (by omega)) mT_6_73 mT_1_10 mT_6_70 mT_6_72 mP_66 okX10_readKnower ⟨by decide, by decide⟩ rfl (by show kO (K a0) = _; rw [ka0]; rfl) rfl rfl (Nat.le_of_ble_eq_true rfl) ⟨by decide, by decide⟩ dX10_readLine_106 (aV2 (F := fun st M => P g X 1 109 [(0, .ref a0)] st _ _ M) (M := (K, len, I, J, R)) fun I17 J17 h17 => ?_)
                obtain ⟨hs17, hf17, hfj17, k17_0, k17_1, k17_2, k17_3⟩ := h17
                show P g X 1 109 [(0, .ref a0)] [] _ _ (K, len, I17, J17, R)
                have hF17 : Fr K [(10, 0), (10, 1), (10, 2), (10, 3), (10, 4), (10, 5), (10, 6), (10, 7), (10, 8), (10, 9), (10, 10), (11, 8), (11, 9), (11, 10), (11, 11), (11, 12), (11, 13), (41, 999), (1000, 999)] I I17 := hF.trans hf17 rfl rfl
                have hFJ17 : Fr K [(11, 14), (42, 999)] J J17 := hFJ.trans hfj17 rfl rfl
                refine r_goto hC (tgt := 117) dX10_readLine_109 (by decide) ?_
                have hG3 : I17 rm 3 = G3 := (Eq.trans (hf17.get krm rfl) eG3.symm)
                have hG3t : (I17 rm 3).toInt = G3.toInt := congrArg Int32.toInt hG3
                have hG4 : I17 rm 4 = G4 := (Eq.trans (hf17.get krm rfl) eG4.symm)
                have hG4t : (I17 rm 4).toInt = G4.toInt := congrArg Int32.toInt hG4
                have hG7 : I17 rm 7 = G7 := (Eq.trans (hf17.get krm rfl) eG7.symm)
                have hG7t : (I17 rm 7).toInt = G7.toInt := congrArg Int32.toInt hG7
                have hG8 : I17 rm 8 = G8 := (Eq.trans (hf17.get krm rfl) eG8.symm)
                have hG8t : (I17 rm 8).toInt = G8.toInt := congrArg Int32.toInt hG8
                exact r_vret hC hQ hlk hr (by decide) (by decide) dX10_readLine_117 ⟨_, _, rfl, rfl, ⟨hs17, hF17, hFJ17, (by omega), (by omega), (by omega), (by omega)⟩⟩
            · refine r_aload_n hC dX10_readLine_89 0 rfl ?_
              refine r_callV hC (As := []) (rest := []) (ci := 10) (c_X10_readVillage g (xL X) K len I J R hs a0 ka0 rm hbr krm (by omega) (by omega) (by omega)) mT_6_66 mT_1_10 mT_6_63 mT_6_65 mP_65 okX10_readVillage ⟨by decide, by decide⟩ rfl (by show kO (K a0) = _; rw [ka0]; rfl) rfl rfl (Nat.le_of_ble_eq_true rfl) ⟨by decide, by decide⟩ dX10_readLine_90 (aV2 (F := fun st M => P g X 1 93 [(0, .ref a0)] st _ _ M) (M := (K, len, I, J, R)) fun I18 J18 h18 => ?_)
              obtain ⟨hs18, hf18, hfj18, k18_0, k18_1, k18_2, k18_3⟩ := h18
              show P g X 1 93 [(0, .ref a0)] [] _ _ (K, len, I18, J18, R)
              have hF18 : Fr K [(10, 0), (10, 1), (10, 2), (10, 3), (10, 4), (10, 5), (10, 6), (10, 7), (10, 8), (10, 9), (10, 10), (11, 8), (11, 9), (11, 10), (11, 11), (11, 12), (11, 13), (41, 999), (1000, 999)] I I18 := hF.trans hf18 rfl rfl
              have hFJ18 : Fr K [(11, 14), (42, 999)] J J18 := hFJ.trans hfj18 rfl rfl
              refine r_goto hC (tgt := 117) dX10_readLine_93 (by decide) ?_
              have hG3 : I18 rm 3 = G3 := (Eq.trans (hf18.get krm rfl) eG3.symm)
              have hG3t : (I18 rm 3).toInt = G3.toInt := congrArg Int32.toInt hG3
              have hG4 : I18 rm 4 = G4 := (Eq.trans (hf18.get krm rfl) eG4.symm)
              have hG4t : (I18 rm 4).toInt = G4.toInt := congrArg Int32.toInt hG4
              have hG7 : I18 rm 7 = G7 := (Eq.trans (hf18.get krm rfl) eG7.symm)
              have hG7t : (I18 rm 7).toInt = G7.toInt := congrArg Int32.toInt hG7
              have hG9 : I18 rm 9 = G9 := (Eq.trans (hf18.get krm rfl) eG9.symm)
              have hG9t : (I18 rm 9).toInt = G9.toInt := congrArg Int32.toInt hG9
              exact r_vret hC hQ hlk hr (by decide) (by decide) dX10_readLine_117 ⟨_, _, rfl, rfl, ⟨hs18, hF18, hFJ18, (by omega), (by omega), (by omega), (by omega)⟩⟩
          · refine r_aload_n hC dX10_readLine_73 0 rfl ?_
            refine r_callV hC (As := []) (rest := []) (ci := 10) (c_X10_readStory g (xL X) K len I J R hs a0 ka0 rm hbr krm (by omega) (by omega) (by omega)) mT_6_52 mT_1_10 mT_6_49 mT_6_51 mP_64 okX10_readStory ⟨by decide, by decide⟩ rfl (by show kO (K a0) = _; rw [ka0]; rfl) rfl rfl (Nat.le_of_ble_eq_true rfl) ⟨by decide, by decide⟩ dX10_readLine_74 (aV2 (F := fun st M => P g X 1 77 [(0, .ref a0)] st _ _ M) (M := (K, len, I, J, R)) fun I19 J19 h19 => ?_)
            obtain ⟨hs19, hf19, hfj19, k19_0, k19_1, k19_2, k19_3⟩ := h19
            show P g X 1 77 [(0, .ref a0)] [] _ _ (K, len, I19, J19, R)
            have hF19 : Fr K [(10, 0), (10, 1), (10, 2), (10, 3), (10, 4), (10, 5), (10, 6), (10, 7), (10, 8), (10, 9), (10, 10), (11, 8), (11, 9), (11, 10), (11, 11), (11, 12), (11, 13), (41, 999), (1000, 999)] I I19 := hF.trans hf19 rfl rfl
            have hFJ19 : Fr K [(11, 14), (42, 999)] J J19 := hFJ.trans hfj19 rfl rfl
            refine r_goto hC (tgt := 117) dX10_readLine_77 (by decide) ?_
            have hG3 : I19 rm 3 = G3 := (Eq.trans (hf19.get krm rfl) eG3.symm)
            have hG3t : (I19 rm 3).toInt = G3.toInt := congrArg Int32.toInt hG3
            have hG4 : I19 rm 4 = G4 := (Eq.trans (hf19.get krm rfl) eG4.symm)
            have hG4t : (I19 rm 4).toInt = G4.toInt := congrArg Int32.toInt hG4
            have hG8 : I19 rm 8 = G8 := (Eq.trans (hf19.get krm rfl) eG8.symm)
            have hG8t : (I19 rm 8).toInt = G8.toInt := congrArg Int32.toInt hG8
            have hG9 : I19 rm 9 = G9 := (Eq.trans (hf19.get krm rfl) eG9.symm)
            have hG9t : (I19 rm 9).toInt = G9.toInt := congrArg Int32.toInt hG9
            exact r_vret hC hQ hlk hr (by decide) (by decide) dX10_readLine_117 ⟨_, _, rfl, rfl, ⟨hs19, hF19, hFJ19, (by omega), (by omega), (by omega), (by omega)⟩⟩
        · refine r_aload_n hC dX10_readLine_57 0 rfl ?_
          refine r_callV hC (As := []) (rest := []) (ci := 10) (c_X10_readRain g (xL X) K len I J R hs a0 ka0 rm hbr krm (by omega) (by omega) (by omega)) mT_6_47 mT_1_10 mT_6_44 mT_6_46 mP_63 okX10_readRain ⟨by decide, by decide⟩ rfl (by show kO (K a0) = _; rw [ka0]; rfl) rfl rfl (Nat.le_of_ble_eq_true rfl) ⟨by decide, by decide⟩ dX10_readLine_58 (aV2 (F := fun st M => P g X 1 61 [(0, .ref a0)] st _ _ M) (M := (K, len, I, J, R)) fun I20 J20 h20 => ?_)
          obtain ⟨hs20, hf20, hfj20, k20_0, k20_1, k20_2, k20_3⟩ := h20
          show P g X 1 61 [(0, .ref a0)] [] _ _ (K, len, I20, J20, R)
          have hF20 : Fr K [(10, 0), (10, 1), (10, 2), (10, 3), (10, 4), (10, 5), (10, 6), (10, 7), (10, 8), (10, 9), (10, 10), (11, 8), (11, 9), (11, 10), (11, 11), (11, 12), (11, 13), (41, 999), (1000, 999)] I I20 := hF.trans hf20 rfl rfl
          have hFJ20 : Fr K [(11, 14), (42, 999)] J J20 := hFJ.trans hfj20 rfl rfl
          refine r_goto hC (tgt := 117) dX10_readLine_61 (by decide) ?_
          have hG3 : I20 rm 3 = G3 := (Eq.trans (hf20.get krm rfl) eG3.symm)
          have hG3t : (I20 rm 3).toInt = G3.toInt := congrArg Int32.toInt hG3
          have hG4 : I20 rm 4 = G4 := (Eq.trans (hf20.get krm rfl) eG4.symm)
          have hG4t : (I20 rm 4).toInt = G4.toInt := congrArg Int32.toInt hG4
          have hG7 : I20 rm 7 = G7 := (Eq.trans (hf20.get krm rfl) eG7.symm)
          have hG7t : (I20 rm 7).toInt = G7.toInt := congrArg Int32.toInt hG7
          have hG8 : I20 rm 8 = G8 := (Eq.trans (hf20.get krm rfl) eG8.symm)
          have hG8t : (I20 rm 8).toInt = G8.toInt := congrArg Int32.toInt hG8
          have hG9 : I20 rm 9 = G9 := (Eq.trans (hf20.get krm rfl) eG9.symm)
          have hG9t : (I20 rm 9).toInt = G9.toInt := congrArg Int32.toInt hG9
          have hGN : I20 rm 10 = GN := (Eq.trans (hf20.get krm rfl) eGN.symm)
          have hGNt : (I20 rm 10).toInt = GN.toInt := congrArg Int32.toInt hGN
          exact r_vret hC hQ hlk hr (by decide) (by decide) dX10_readLine_117 ⟨_, _, rfl, rfl, ⟨hs20, hF20, hFJ20, (by omega), (by omega), (by omega), (by omega)⟩⟩
      · refine r_aload_n hC dX10_readLine_41 0 rfl ?_
        refine r_callV hC (As := []) (rest := []) (ci := 10) (c_X10_readFrom g (xL X) K len I J R hs a0 ka0 rm hbr krm (by omega) (by omega) (by omega)) mT_6_42 mT_1_10 mT_6_39 mT_6_41 mP_62 okX10_readFrom ⟨by decide, by decide⟩ rfl (by show kO (K a0) = _; rw [ka0]; rfl) rfl rfl (Nat.le_of_ble_eq_true rfl) ⟨by decide, by decide⟩ dX10_readLine_42 (aV2 (F := fun st M => P g X 1 45 [(0, .ref a0)] st _ _ M) (M := (K, len, I, J, R)) fun I21 J21 h21 => ?_)
        obtain ⟨hs21, hf21, hfj21, k21_0, k21_1, k21_2, k21_3⟩ := h21
        show P g X 1 45 [(0, .ref a0)] [] _ _ (K, len, I21, J21, R)
        have hF21 : Fr K [(10, 0), (10, 1), (10, 2), (10, 3), (10, 4), (10, 5), (10, 6), (10, 7), (10, 8), (10, 9), (10, 10), (11, 8), (11, 9), (11, 10), (11, 11), (11, 12), (11, 13), (41, 999), (1000, 999)] I I21 := hF.trans hf21 rfl rfl
        have hFJ21 : Fr K [(11, 14), (42, 999)] J J21 := hFJ.trans hfj21 rfl rfl
        refine r_goto hC (tgt := 117) dX10_readLine_45 (by decide) ?_
        have hG3 : I21 rm 3 = G3 := (Eq.trans (hf21.get krm rfl) eG3.symm)
        have hG3t : (I21 rm 3).toInt = G3.toInt := congrArg Int32.toInt hG3
        have hG7 : I21 rm 7 = G7 := (Eq.trans (hf21.get krm rfl) eG7.symm)
        have hG7t : (I21 rm 7).toInt = G7.toInt := congrArg Int32.toInt hG7
        have hG8 : I21 rm 8 = G8 := (Eq.trans (hf21.get krm rfl) eG8.symm)
        have hG8t : (I21 rm 8).toInt = G8.toInt := congrArg Int32.toInt hG8
        have hG9 : I21 rm 9 = G9 := (Eq.trans (hf21.get krm rfl) eG9.symm)
        have hG9t : (I21 rm 9).toInt = G9.toInt := congrArg Int32.toInt hG9
        have hGN : I21 rm 10 = GN := (Eq.trans (hf21.get krm rfl) eGN.symm)
        have hGNt : (I21 rm 10).toInt = GN.toInt := congrArg Int32.toInt hGN
        exact r_vret hC hQ hlk hr (by decide) (by decide) dX10_readLine_117 ⟨_, _, rfl, rfl, ⟨hs21, hF21, hFJ21, (by omega), (by omega), (by omega), (by omega)⟩⟩
    · refine r_aload_n hC dX10_readLine_25 0 rfl ?_
      refine r_callV hC (As := []) (rest := []) (ci := 10) (c_X10_readPeg g (xL X) K len I J R hs a0 ka0 rm hbr krm (by omega) (by omega) (by omega)) mT_6_15 mT_1_10 mT_6_12 mT_6_14 mP_58 okX10_readPeg ⟨by decide, by decide⟩ rfl (by show kO (K a0) = _; rw [ka0]; rfl) rfl rfl (Nat.le_of_ble_eq_true rfl) ⟨by decide, by decide⟩ dX10_readLine_26 (aV2 (F := fun st M => P g X 1 29 [(0, .ref a0)] st _ _ M) (M := (K, len, I, J, R)) fun I22 J22 h22 => ?_)
      obtain ⟨hs22, hf22, hfj22, k22_0, k22_1, k22_2, k22_3⟩ := h22
      show P g X 1 29 [(0, .ref a0)] [] _ _ (K, len, I22, J22, R)
      have hF22 : Fr K [(10, 0), (10, 1), (10, 2), (10, 3), (10, 4), (10, 5), (10, 6), (10, 7), (10, 8), (10, 9), (10, 10), (11, 8), (11, 9), (11, 10), (11, 11), (11, 12), (11, 13), (41, 999), (1000, 999)] I I22 := hF.trans hf22 rfl rfl
      have hFJ22 : Fr K [(11, 14), (42, 999)] J J22 := hFJ.trans hfj22 rfl rfl
      refine r_goto hC (tgt := 117) dX10_readLine_29 (by decide) ?_
      have hG4 : I22 rm 4 = G4 := (Eq.trans (hf22.get krm rfl) eG4.symm)
      have hG4t : (I22 rm 4).toInt = G4.toInt := congrArg Int32.toInt hG4
      have hG7 : I22 rm 7 = G7 := (Eq.trans (hf22.get krm rfl) eG7.symm)
      have hG7t : (I22 rm 7).toInt = G7.toInt := congrArg Int32.toInt hG7
      have hG8 : I22 rm 8 = G8 := (Eq.trans (hf22.get krm rfl) eG8.symm)
      have hG8t : (I22 rm 8).toInt = G8.toInt := congrArg Int32.toInt hG8
      have hG9 : I22 rm 9 = G9 := (Eq.trans (hf22.get krm rfl) eG9.symm)
      have hG9t : (I22 rm 9).toInt = G9.toInt := congrArg Int32.toInt hG9
      exact r_vret hC hQ hlk hr (by decide) (by decide) dX10_readLine_117 ⟨_, _, rfl, rfl, ⟨hs22, hF22, hFJ22, (by omega), (by omega), (by omega), (by omega)⟩⟩
  · refine r_aload_n hC dX10_readLine_9 0 rfl ?_
    refine r_callV hC (As := []) (rest := []) (ci := 10) (c_X10_readLake g (xL X) K len I J R hs a0 ka0 rm hbr krm (by omega) (by omega) (by omega)) mT_5_232 mT_1_10 mT_5_229 mT_5_231 mP_54 okX10_readLake ⟨by decide, by decide⟩ rfl (by show kO (K a0) = _; rw [ka0]; rfl) rfl rfl (Nat.le_of_ble_eq_true rfl) ⟨by decide, by decide⟩ dX10_readLine_10 (aV2 (F := fun st M => P g X 1 13 [(0, .ref a0)] st _ _ M) (M := (K, len, I, J, R)) fun I23 J23 h23 => ?_)
    obtain ⟨hs23, hf23, hfj23, k23_0, k23_1, k23_2, k23_3⟩ := h23
    show P g X 1 13 [(0, .ref a0)] [] _ _ (K, len, I23, J23, R)
    have hF23 : Fr K [(10, 0), (10, 1), (10, 2), (10, 3), (10, 4), (10, 5), (10, 6), (10, 7), (10, 8), (10, 9), (10, 10), (11, 8), (11, 9), (11, 10), (11, 11), (11, 12), (11, 13), (41, 999), (1000, 999)] I I23 := hF.trans hf23 rfl rfl
    have hFJ23 : Fr K [(11, 14), (42, 999)] J J23 := hFJ.trans hfj23 rfl rfl
    refine r_goto hC (tgt := 117) dX10_readLine_13 (by decide) ?_
    have hG3 : I23 rm 3 = G3 := (Eq.trans (hf23.get krm rfl) eG3.symm)
    have hG3t : (I23 rm 3).toInt = G3.toInt := congrArg Int32.toInt hG3
    have hG4 : I23 rm 4 = G4 := (Eq.trans (hf23.get krm rfl) eG4.symm)
    have hG4t : (I23 rm 4).toInt = G4.toInt := congrArg Int32.toInt hG4
    have hG7 : I23 rm 7 = G7 := (Eq.trans (hf23.get krm rfl) eG7.symm)
    have hG7t : (I23 rm 7).toInt = G7.toInt := congrArg Int32.toInt hG7
    have hG8 : I23 rm 8 = G8 := (Eq.trans (hf23.get krm rfl) eG8.symm)
    have hG8t : (I23 rm 8).toInt = G8.toInt := congrArg Int32.toInt hG8
    have hG9 : I23 rm 9 = G9 := (Eq.trans (hf23.get krm rfl) eG9.symm)
    have hG9t : (I23 rm 9).toInt = G9.toInt := congrArg Int32.toInt hG9
    have hGN : I23 rm 10 = GN := (Eq.trans (hf23.get krm rfl) eGN.symm)
    have hGNt : (I23 rm 10).toInt = GN.toInt := congrArg Int32.toInt hGN
    exact r_vret hC hQ hlk hr (by decide) (by decide) dX10_readLine_117 ⟨_, _, rfl, rfl, ⟨hs23, hF23, hFJ23, (by omega), (by omega), (by omega), (by omega)⟩⟩
set_option maxHeartbeats 4000000 in
set_option maxRecDepth 100000 in
theorem c_X10_readHill (g : GG) (l : Launch) (K len : Nat → Nat) (I : Nat → Nat → Int32) (J : Nat → Nat → Int64) (R : Nat → Nat → Option Nat) (hs : Sf K len I R) (a0 : Nat) (ka0 : K a0 = 11) (rm : Nat) (hbr : R a0 4 = some rm) (krm : K rm = 10) (p0 : (I a0 9).toInt = 5 ∨ (I rm 10).toInt ≤ (I rm 3).toInt + (I rm 7).toInt + (I rm 8).toInt + (I rm 9).toInt) (p1 : (I rm 4).toInt ≤ 8) : Ct g l yX10_readHill cX10_readHill 2 (Option.none : Option Jvm.ClassFile.FieldType) rmX10_readHill [.ref a0] (K, len, I, J, R) (pV2 (K, len, I, J, R) (fun I' J' => Sf K len I' R ∧ Fr K [(10, 0), (10, 1), (10, 2), (10, 3), (10, 4), (10, 5), (10, 6), (10, 7), (10, 8), (10, 9), (10, 10), (11, 8), (11, 9), (11, 10), (11, 11), (11, 12), (11, 13), (41, 999), (1000, 999)] I I' ∧ Fr K [(11, 14), (42, 999)] J J')) := by
  refine Ct_intro (by decide +kernel) (Nat.le_of_ble_eq_true rfl) (fun X hC hL hKK hNm hr hlk hQ => ?_)
  subst hL
  have hC : Cx g X cX10_readHill "HillTapModel" 2 rmX10_readHill := hC
  show P g X 2 0 [(0, .ref a0)] [] 0 0 (K, len, I, J, R)
  have hF : Fr K [(10, 0), (10, 1), (10, 2), (10, 3), (10, 4), (10, 5), (10, 6), (10, 7), (10, 8), (10, 9), (10, 10), (11, 8), (11, 9), (11, 10), (11, 11), (11, 12), (11, 13), (41, 999), (1000, 999)] I I := Fr.refl
  have hFJ : Fr K [(11, 14), (42, 999)] J J := Fr.refl
  refine r_iconst hC (v := (1)) dX10_readHill_0 (by decide) (by decide) (fun x1_ e1 t1 => ?_)
  refine r_istore_n hC (lv' := [(1, .int x1_), (0, .ref a0)]) dX10_readHill_1 (by decide) rfl ?_
  have LP2 : ∀ (mu : Nat) (x2_1 : Int32) (I2 : Nat → Nat → Int32) (J2 : Nat → Nat → Int64) (hs2 : Sf K len I2 R) (hF2 : Fr K [(10, 0), (10, 1), (10, 2), (10, 3), (10, 4), (10, 5), (10, 6), (10, 7), (10, 8), (10, 9), (10, 10), (11, 8), (11, 9), (11, 10), (11, 11), (11, 12), (11, 13), (41, 999), (1000, 999)] I I2) (hFJ2 : Fr K [(11, 14), (42, 999)] J J2) (v2_0 : 0 ≤ x2_1.toInt) (v2_1 : x2_1.toInt ≤ 1) (v2_2 : (I2 a0 9).toInt = 5 ∨ (I2 rm 10).toInt ≤ (I2 rm 3).toInt + (I2 rm 7).toInt + (I2 rm 8).toInt + (I2 rm 9).toInt) (v2_3 : (I2 rm 4).toInt ≤ 8), (2 * (900 - (I2 a0 8).toInt) + x2_1.toInt).toNat = mu → P g X 2 2 [(0, .ref a0), (1, .int x2_1)] [] 0 0 (K, len, I2, J2, R) := by
    intro mu; induction mu using Nat.strongRecOn with | ind mu ih => ?_
    intro x2_1 I2 J2 hs2 hF2 hFJ2 v2_0 v2_1 v2_2 v2_3 hmu
    have ih2 := ih
    clear ih
    have hmu2 := hmu
    clear hmu
    refine r_iload_n hC dX10_readHill_2 1 rfl ?_
    refine r_if_eq hC (tgt := 35) dX10_readHill_3 (by decide) (fun c3 => ?_) (fun c3 => ?_)
    · refine r_aload_n hC dX10_readHill_35 0 rfl ?_
      refine r_geti hC 9 (ci := 10) rfl u10_in (by decide) mT_5_4 dX10_readHill_36 ka0 rfl rfl (fun x4_ e4 => ?_)
      have f4 : x4_.toInt = (I2 a0 9).toInt := by rw [e4]
      refine r_iconst hC (v := (1)) dX10_readHill_39 (by decide) (by decide) (fun x5_ e5 t5 => ?_)
      refine r_icmp_eq hC (tgt := 48) dX10_readHill_40 (by decide) (fun c6 => ?_) (fun c6 => ?_)
      · refine r_aload_n hC dX10_readHill_48 0 rfl ?_
        refine r_getr hC 4 (ci := 10) rfl u10_in (by decide) mT_4_239 dX10_readHill_49 ka0 rfl rfl hbr ?_
        refine r_getiN hC 0 (ci := 9) rfl u9_in (by decide) nF_0 dX10_readHill_52 krm rfl rfl (fun x7_ e7 => ?_)
        have f7 : x7_.toInt = (I2 rm 0).toInt := by rw [e7]
        refine r_iconst hC (v := (-1)) dX10_readHill_55 (by decide) (by decide) (fun x8_ e8 t8 => ?_)
        refine r_icmp_eq hC (tgt := 79) dX10_readHill_56 (by decide) (fun c9 => ?_) (fun c9 => ?_)
        · refine r_aload_n hC dX10_readHill_79 0 rfl ?_
          refine r_bipush hC (v := (6)) dX10_readHill_80 (by decide) (by decide) (fun x10_ e10 t10 => ?_)
          refine r_callV hC (As := [.int x10_]) (rest := []) (ci := 10) (c_X10_wrong g (xL X) K len I2 J2 R hs2 a0 ka0 x10_) mT_5_236 mT_1_10 mT_5_233 mT_5_235 mP_55 okX10_wrong ⟨by decide, by decide⟩ rfl (by show kO (K a0) = _; rw [ka0]; rfl) rfl rfl (Nat.le_of_ble_eq_true rfl) ⟨by decide, by decide⟩ dX10_readHill_82 (aV1 (F := fun st M => P g X 2 85 [(0, .ref a0), (1, .int x2_1)] st _ _ M) (M := (K, len, I2, J2, R)) fun I11 h11 => ?_)
          obtain ⟨hs11, hf11, k11_0, k11_1⟩ := h11
          show P g X 2 85 [(0, .ref a0), (1, .int x2_1)] [] _ _ (K, len, I11, J2, R)
          have hF11 : Fr K [(10, 0), (10, 1), (10, 2), (10, 3), (10, 4), (10, 5), (10, 6), (10, 7), (10, 8), (10, 9), (10, 10), (11, 8), (11, 9), (11, 10), (11, 11), (11, 12), (11, 13), (41, 999), (1000, 999)] I I11 := hF2.trans hf11 rfl rfl
          exact r_vret hC hQ hlk hr (by decide) (by decide) dX10_readHill_85 ⟨_, _, rfl, rfl, ⟨hs11, hF11, hFJ2⟩⟩
        · refine r_aload_n hC dX10_readHill_59 0 rfl ?_
          refine r_getr hC 4 (ci := 10) rfl u10_in (by decide) mT_4_239 dX10_readHill_60 ka0 rfl rfl hbr ?_
          refine r_getiN hC 3 (ci := 9) rfl u9_in (by decide) nF_3 dX10_readHill_63 krm rfl rfl (fun x12_ e12 => ?_)
          have r12 := hs2.rng krm rfl e12
          have f12 : x12_.toInt = (I2 rm 3).toInt := by rw [e12]
          refine r_if_eq hC (tgt := 79) dX10_readHill_66 (by decide) (fun c13 => ?_) (fun c13 => ?_)
          · refine r_aload_n hC dX10_readHill_79 0 rfl ?_
            refine r_bipush hC (v := (6)) dX10_readHill_80 (by decide) (by decide) (fun x14_ e14 t14 => ?_)
            refine r_callV hC (As := [.int x14_]) (rest := []) (ci := 10) (c_X10_wrong g (xL X) K len I2 J2 R hs2 a0 ka0 x14_) mT_5_236 mT_1_10 mT_5_233 mT_5_235 mP_55 okX10_wrong ⟨by decide, by decide⟩ rfl (by show kO (K a0) = _; rw [ka0]; rfl) rfl rfl (Nat.le_of_ble_eq_true rfl) ⟨by decide, by decide⟩ dX10_readHill_82 (aV1 (F := fun st M => P g X 2 85 [(0, .ref a0), (1, .int x2_1)] st _ _ M) (M := (K, len, I2, J2, R)) fun I15 h15 => ?_)
            obtain ⟨hs15, hf15, k15_0, k15_1⟩ := h15
            show P g X 2 85 [(0, .ref a0), (1, .int x2_1)] [] _ _ (K, len, I15, J2, R)
            have hF15 : Fr K [(10, 0), (10, 1), (10, 2), (10, 3), (10, 4), (10, 5), (10, 6), (10, 7), (10, 8), (10, 9), (10, 10), (11, 8), (11, 9), (11, 10), (11, 11), (11, 12), (11, 13), (41, 999), (1000, 999)] I I15 := hF2.trans hf15 rfl rfl
            exact r_vret hC hQ hlk hr (by decide) (by decide) dX10_readHill_85 ⟨_, _, rfl, rfl, ⟨hs15, hF15, hFJ2⟩⟩
          · refine r_aload_n hC dX10_readHill_69 0 rfl ?_
            refine r_getr hC 4 (ci := 10) rfl u10_in (by decide) mT_4_239 dX10_readHill_70 ka0 rfl rfl hbr ?_
            refine r_getiN hC 7 (ci := 9) rfl u9_in (by decide) nF_7 dX10_readHill_73 krm rfl rfl (fun x16_ e16 => ?_)
            have r16 := hs2.rng krm rfl e16
            have f16 : x16_.toInt = (I2 rm 7).toInt := by rw [e16]
            refine r_if_ne hC (tgt := 85) dX10_readHill_76 (by decide) (fun c17 => ?_) (fun c17 => ?_)
            · exact r_vret hC hQ hlk hr (by decide) (by decide) dX10_readHill_85 ⟨_, _, rfl, rfl, ⟨hs2, hF2, hFJ2⟩⟩
            · refine r_aload_n hC dX10_readHill_79 0 rfl ?_
              refine r_bipush hC (v := (6)) dX10_readHill_80 (by decide) (by decide) (fun x18_ e18 t18 => ?_)
              refine r_callV hC (As := [.int x18_]) (rest := []) (ci := 10) (c_X10_wrong g (xL X) K len I2 J2 R hs2 a0 ka0 x18_) mT_5_236 mT_1_10 mT_5_233 mT_5_235 mP_55 okX10_wrong ⟨by decide, by decide⟩ rfl (by show kO (K a0) = _; rw [ka0]; rfl) rfl rfl (Nat.le_of_ble_eq_true rfl) ⟨by decide, by decide⟩ dX10_readHill_82 (aV1 (F := fun st M => P g X 2 85 [(0, .ref a0), (1, .int x2_1)] st _ _ M) (M := (K, len, I2, J2, R)) fun I19 h19 => ?_)
              obtain ⟨hs19, hf19, k19_0, k19_1⟩ := h19
              show P g X 2 85 [(0, .ref a0), (1, .int x2_1)] [] _ _ (K, len, I19, J2, R)
              have hF19 : Fr K [(10, 0), (10, 1), (10, 2), (10, 3), (10, 4), (10, 5), (10, 6), (10, 7), (10, 8), (10, 9), (10, 10), (11, 8), (11, 9), (11, 10), (11, 11), (11, 12), (11, 13), (41, 999), (1000, 999)] I I19 := hF2.trans hf19 rfl rfl
              exact r_vret hC hQ hlk hr (by decide) (by decide) dX10_readHill_85 ⟨_, _, rfl, rfl, ⟨hs19, hF19, hFJ2⟩⟩
      · refine r_aload_n hC dX10_readHill_43 0 rfl ?_
        refine r_iconst hC (v := (1)) dX10_readHill_44 (by decide) (by decide) (fun x20_ e20 t20 => ?_)
        refine r_callV hC (As := [.int x20_]) (rest := []) (ci := 10) (c_X10_wrong g (xL X) K len I2 J2 R hs2 a0 ka0 x20_) mT_5_236 mT_1_10 mT_5_233 mT_5_235 mP_55 okX10_wrong ⟨by decide, by decide⟩ rfl (by show kO (K a0) = _; rw [ka0]; rfl) rfl rfl (Nat.le_of_ble_eq_true rfl) ⟨by decide, by decide⟩ dX10_readHill_45 (aV1 (F := fun st M => P g X 2 48 [(0, .ref a0), (1, .int x2_1)] st _ _ M) (M := (K, len, I2, J2, R)) fun I21 h21 => ?_)
        obtain ⟨hs21, hf21, k21_0, k21_1⟩ := h21
        show P g X 2 48 [(0, .ref a0), (1, .int x2_1)] [] _ _ (K, len, I21, J2, R)
        have hF21 : Fr K [(10, 0), (10, 1), (10, 2), (10, 3), (10, 4), (10, 5), (10, 6), (10, 7), (10, 8), (10, 9), (10, 10), (11, 8), (11, 9), (11, 10), (11, 11), (11, 12), (11, 13), (41, 999), (1000, 999)] I I21 := hF2.trans hf21 rfl rfl
        refine r_aload_n hC dX10_readHill_48 0 rfl ?_
        refine r_getr hC 4 (ci := 10) rfl u10_in (by decide) mT_4_239 dX10_readHill_49 ka0 rfl rfl hbr ?_
        refine r_getiN hC 0 (ci := 9) rfl u9_in (by decide) nF_0 dX10_readHill_52 krm rfl rfl (fun x22_ e22 => ?_)
        have f22 : x22_.toInt = (I21 rm 0).toInt := by rw [e22]
        refine r_iconst hC (v := (-1)) dX10_readHill_55 (by decide) (by decide) (fun x23_ e23 t23 => ?_)
        refine r_icmp_eq hC (tgt := 79) dX10_readHill_56 (by decide) (fun c24 => ?_) (fun c24 => ?_)
        · refine r_aload_n hC dX10_readHill_79 0 rfl ?_
          refine r_bipush hC (v := (6)) dX10_readHill_80 (by decide) (by decide) (fun x25_ e25 t25 => ?_)
          refine r_callV hC (As := [.int x25_]) (rest := []) (ci := 10) (c_X10_wrong g (xL X) K len I21 J2 R hs21 a0 ka0 x25_) mT_5_236 mT_1_10 mT_5_233 mT_5_235 mP_55 okX10_wrong ⟨by decide, by decide⟩ rfl (by show kO (K a0) = _; rw [ka0]; rfl) rfl rfl (Nat.le_of_ble_eq_true rfl) ⟨by decide, by decide⟩ dX10_readHill_82 (aV1 (F := fun st M => P g X 2 85 [(0, .ref a0), (1, .int x2_1)] st _ _ M) (M := (K, len, I21, J2, R)) fun I26 h26 => ?_)
          obtain ⟨hs26, hf26, k26_0, k26_1⟩ := h26
          show P g X 2 85 [(0, .ref a0), (1, .int x2_1)] [] _ _ (K, len, I26, J2, R)
          have hF26 : Fr K [(10, 0), (10, 1), (10, 2), (10, 3), (10, 4), (10, 5), (10, 6), (10, 7), (10, 8), (10, 9), (10, 10), (11, 8), (11, 9), (11, 10), (11, 11), (11, 12), (11, 13), (41, 999), (1000, 999)] I I26 := hF21.trans hf26 rfl rfl
          exact r_vret hC hQ hlk hr (by decide) (by decide) dX10_readHill_85 ⟨_, _, rfl, rfl, ⟨hs26, hF26, hFJ2⟩⟩
        · refine r_aload_n hC dX10_readHill_59 0 rfl ?_
          refine r_getr hC 4 (ci := 10) rfl u10_in (by decide) mT_4_239 dX10_readHill_60 ka0 rfl rfl hbr ?_
          refine r_getiN hC 3 (ci := 9) rfl u9_in (by decide) nF_3 dX10_readHill_63 krm rfl rfl (fun x27_ e27 => ?_)
          have r27 := hs21.rng krm rfl e27
          have f27 : x27_.toInt = (I21 rm 3).toInt := by rw [e27]
          refine r_if_eq hC (tgt := 79) dX10_readHill_66 (by decide) (fun c28 => ?_) (fun c28 => ?_)
          · refine r_aload_n hC dX10_readHill_79 0 rfl ?_
            refine r_bipush hC (v := (6)) dX10_readHill_80 (by decide) (by decide) (fun x29_ e29 t29 => ?_)
            refine r_callV hC (As := [.int x29_]) (rest := []) (ci := 10) (c_X10_wrong g (xL X) K len I21 J2 R hs21 a0 ka0 x29_) mT_5_236 mT_1_10 mT_5_233 mT_5_235 mP_55 okX10_wrong ⟨by decide, by decide⟩ rfl (by show kO (K a0) = _; rw [ka0]; rfl) rfl rfl (Nat.le_of_ble_eq_true rfl) ⟨by decide, by decide⟩ dX10_readHill_82 (aV1 (F := fun st M => P g X 2 85 [(0, .ref a0), (1, .int x2_1)] st _ _ M) (M := (K, len, I21, J2, R)) fun I30 h30 => ?_)
            obtain ⟨hs30, hf30, k30_0, k30_1⟩ := h30
            show P g X 2 85 [(0, .ref a0), (1, .int x2_1)] [] _ _ (K, len, I30, J2, R)
            have hF30 : Fr K [(10, 0), (10, 1), (10, 2), (10, 3), (10, 4), (10, 5), (10, 6), (10, 7), (10, 8), (10, 9), (10, 10), (11, 8), (11, 9), (11, 10), (11, 11), (11, 12), (11, 13), (41, 999), (1000, 999)] I I30 := hF21.trans hf30 rfl rfl
            exact r_vret hC hQ hlk hr (by decide) (by decide) dX10_readHill_85 ⟨_, _, rfl, rfl, ⟨hs30, hF30, hFJ2⟩⟩
          · refine r_aload_n hC dX10_readHill_69 0 rfl ?_
            refine r_getr hC 4 (ci := 10) rfl u10_in (by decide) mT_4_239 dX10_readHill_70 ka0 rfl rfl hbr ?_
            refine r_getiN hC 7 (ci := 9) rfl u9_in (by decide) nF_7 dX10_readHill_73 krm rfl rfl (fun x31_ e31 => ?_)
            have r31 := hs21.rng krm rfl e31
            have f31 : x31_.toInt = (I21 rm 7).toInt := by rw [e31]
            refine r_if_ne hC (tgt := 85) dX10_readHill_76 (by decide) (fun c32 => ?_) (fun c32 => ?_)
            · exact r_vret hC hQ hlk hr (by decide) (by decide) dX10_readHill_85 ⟨_, _, rfl, rfl, ⟨hs21, hF21, hFJ2⟩⟩
            · refine r_aload_n hC dX10_readHill_79 0 rfl ?_
              refine r_bipush hC (v := (6)) dX10_readHill_80 (by decide) (by decide) (fun x33_ e33 t33 => ?_)
              refine r_callV hC (As := [.int x33_]) (rest := []) (ci := 10) (c_X10_wrong g (xL X) K len I21 J2 R hs21 a0 ka0 x33_) mT_5_236 mT_1_10 mT_5_233 mT_5_235 mP_55 okX10_wrong ⟨by decide, by decide⟩ rfl (by show kO (K a0) = _; rw [ka0]; rfl) rfl rfl (Nat.le_of_ble_eq_true rfl) ⟨by decide, by decide⟩ dX10_readHill_82 (aV1 (F := fun st M => P g X 2 85 [(0, .ref a0), (1, .int x2_1)] st _ _ M) (M := (K, len, I21, J2, R)) fun I34 h34 => ?_)
              obtain ⟨hs34, hf34, k34_0, k34_1⟩ := h34
              show P g X 2 85 [(0, .ref a0), (1, .int x2_1)] [] _ _ (K, len, I34, J2, R)
              have hF34 : Fr K [(10, 0), (10, 1), (10, 2), (10, 3), (10, 4), (10, 5), (10, 6), (10, 7), (10, 8), (10, 9), (10, 10), (11, 8), (11, 9), (11, 10), (11, 11), (11, 12), (11, 13), (41, 999), (1000, 999)] I I34 := hF21.trans hf34 rfl rfl
              exact r_vret hC hQ hlk hr (by decide) (by decide) dX10_readHill_85 ⟨_, _, rfl, rfl, ⟨hs34, hF34, hFJ2⟩⟩
    · have hat := hs2.rng ka0 (k := 8) rfl (x := I2 a0 8) rfl
      refine r_aload_n hC dX10_readHill_6 0 rfl ?_
      refine r_callV hC (As := []) (rest := []) (ci := 10) (c_X10_readLine g (xL X) K len I2 J2 R hs2 a0 ka0 rm hbr krm (by omega) (by omega)) mT_5_218 mT_1_10 mT_5_215 mT_5_217 mP_52 okX10_readLine ⟨by decide, by decide⟩ rfl (by show kO (K a0) = _; rw [ka0]; rfl) rfl rfl (Nat.le_of_ble_eq_true rfl) ⟨by decide, by decide⟩ dX10_readHill_7 (aV2 (F := fun st M => P g X 2 10 [(0, .ref a0), (1, .int x2_1)] st _ _ M) (M := (K, len, I2, J2, R)) fun I35 J35 h35 => ?_)
      obtain ⟨hs35, hf35, hfj35, k35_0, k35_1, k35_2, k35_3⟩ := h35
      show P g X 2 10 [(0, .ref a0), (1, .int x2_1)] [] _ _ (K, len, I35, J35, R)
      have hF35 : Fr K [(10, 0), (10, 1), (10, 2), (10, 3), (10, 4), (10, 5), (10, 6), (10, 7), (10, 8), (10, 9), (10, 10), (11, 8), (11, 9), (11, 10), (11, 11), (11, 12), (11, 13), (41, 999), (1000, 999)] I I35 := hF2.trans hf35 rfl rfl
      have hFJ35 : Fr K [(11, 14), (42, 999)] J J35 := hFJ2.trans hfj35 rfl rfl
      obtain ⟨zG3, ezG3⟩ : ∃ z : Int32, z = I35 rm 3 := ⟨_, rfl⟩
      have fzG3 : zG3.toInt = (I35 rm 3).toInt := by rw [ezG3]
      have rzG3 := hs35.rng krm rfl ezG3
      obtain ⟨zG4, ezG4⟩ : ∃ z : Int32, z = I35 rm 4 := ⟨_, rfl⟩
      have fzG4 : zG4.toInt = (I35 rm 4).toInt := by rw [ezG4]
      have rzG4 := hs35.rng krm rfl ezG4
      obtain ⟨zG7, ezG7⟩ : ∃ z : Int32, z = I35 rm 7 := ⟨_, rfl⟩
      have fzG7 : zG7.toInt = (I35 rm 7).toInt := by rw [ezG7]
      have rzG7 := hs35.rng krm rfl ezG7
      obtain ⟨zG8, ezG8⟩ : ∃ z : Int32, z = I35 rm 8 := ⟨_, rfl⟩
      have fzG8 : zG8.toInt = (I35 rm 8).toInt := by rw [ezG8]
      have rzG8 := hs35.rng krm rfl ezG8
      obtain ⟨zG9, ezG9⟩ : ∃ z : Int32, z = I35 rm 9 := ⟨_, rfl⟩
      have fzG9 : zG9.toInt = (I35 rm 9).toInt := by rw [ezG9]
      have rzG9 := hs35.rng krm rfl ezG9
      obtain ⟨zGN, ezGN⟩ : ∃ z : Int32, z = I35 rm 10 := ⟨_, rfl⟩
      have fzGN : zGN.toInt = (I35 rm 10).toInt := by rw [ezGN]
      have rzGN := hs35.rng krm rfl ezGN
      have hat2 := hs35.rng ka0 (k := 8) rfl (x := I35 a0 8) rfl
      refine r_aload_n hC dX10_readHill_10 0 rfl ?_
      refine r_geti hC 9 (ci := 10) rfl u10_in (by decide) mT_5_4 dX10_readHill_11 ka0 rfl rfl (fun x36_ e36 => ?_)
      have f36 : x36_.toInt = (I35 a0 9).toInt := by rw [e36]
      refine r_iconst hC (v := (4)) dX10_readHill_14 (by decide) (by decide) (fun x37_ e37 t37 => ?_)
      refine r_icmp_ne hC (tgt := 22) dX10_readHill_15 (by decide) (fun c38 => ?_) (fun c38 => ?_)
      · refine r_iconst hC (v := (0)) dX10_readHill_22 (by decide) (by decide) (fun x39_ e39 t39 => ?_)
        refine r_istore_n hC (lv' := [(1, .int x39_), (0, .ref a0)]) dX10_readHill_23 (by decide) rfl ?_
        refine r_iload_n hC dX10_readHill_24 0 rfl ?_
        refine r_if_eq hC (tgt := 2) dX10_readHill_25 (by decide) (fun c40 => ?_) (fun c40 => ?_)
        rotate_left
        · exfalso; omega
        have hG3 : I35 rm 3 = zG3 := ezG3.symm
        have hG3t : (I35 rm 3).toInt = zG3.toInt := congrArg Int32.toInt hG3
        have hG4 : I35 rm 4 = zG4 := ezG4.symm
        have hG4t : (I35 rm 4).toInt = zG4.toInt := congrArg Int32.toInt hG4
        have hG7 : I35 rm 7 = zG7 := ezG7.symm
        have hG7t : (I35 rm 7).toInt = zG7.toInt := congrArg Int32.toInt hG7
        have hG8 : I35 rm 8 = zG8 := ezG8.symm
        have hG8t : (I35 rm 8).toInt = zG8.toInt := congrArg Int32.toInt hG8
        have hG9 : I35 rm 9 = zG9 := ezG9.symm
        have hG9t : (I35 rm 9).toInt = zG9.toInt := congrArg Int32.toInt hG9
        have hGN : I35 rm 10 = zGN := ezGN.symm
        have hGNt : (I35 rm 10).toInt = zGN.toInt := congrArg Int32.toInt hGN
        refine r_sub [1, 0] rfl ?_
        exact ih2 ((2 * (900 - (I35 a0 8).toInt) + x39_.toInt).toNat) (by omega) x39_ I35 J35 hs35 hF35 hFJ35 (by omega) (by omega) (by omega) (by omega) rfl
      · refine r_iconst hC (v := (1)) dX10_readHill_18 (by decide) (by decide) (fun x41_ e41 t41 => ?_)
        refine r_goto hC (tgt := 23) dX10_readHill_19 (by decide) ?_
        refine r_istore_n hC (lv' := [(1, .int x41_), (0, .ref a0)]) dX10_readHill_23 (by decide) rfl ?_
        refine r_iload_n hC dX10_readHill_24 0 rfl ?_
        refine r_if_eq hC (tgt := 2) dX10_readHill_25 (by decide) (fun c42 => ?_) (fun c42 => ?_)
        · exfalso; omega
        have hat3 := hs35.rng ka0 (k := 8) rfl (x := I35 a0 8) rfl
        refine r_aload_n hC dX10_readHill_28 1 rfl ?_
        refine r_callV hC (As := []) (rest := []) (ci := 10) (c_X10_goesOn g (xL X) K len I35 J35 R hs35 a0 ka0) mT_5_199 mT_1_10 mT_5_196 mT_5_198 mP_49 okX10_goesOn ⟨by decide, by decide⟩ rfl (by show kO (K a0) = _; rw [ka0]; rfl) rfl rfl (Nat.le_of_ble_eq_true rfl) ⟨by decide, by decide⟩ dX10_readHill_29 (aV2 (F := fun st M => P g X 2 32 [(1, .int x41_), (0, .ref a0)] st _ _ M) (M := (K, len, I35, J35, R)) fun I43 J43 h43 => ?_)
        obtain ⟨hs43, hf43, hfj43, k43_0, k43_1, k43_2, k43_3⟩ := h43
        show P g X 2 32 [(1, .int x41_), (0, .ref a0)] [] _ _ (K, len, I43, J43, R)
        have hF43 : Fr K [(10, 0), (10, 1), (10, 2), (10, 3), (10, 4), (10, 5), (10, 6), (10, 7), (10, 8), (10, 9), (10, 10), (11, 8), (11, 9), (11, 10), (11, 11), (11, 12), (11, 13), (41, 999), (1000, 999)] I I43 := hF35.trans hf43 rfl rfl
        have hFJ43 : Fr K [(11, 14), (42, 999)] J J43 := hFJ35.trans hfj43 rfl rfl
        refine r_goto hC (tgt := 2) dX10_readHill_32 (by decide) ?_
        have hG3 : I43 rm 3 = zG3 := (Eq.trans (hf43.get krm rfl) ezG3.symm)
        have hG3t : (I43 rm 3).toInt = zG3.toInt := congrArg Int32.toInt hG3
        have hG4 : I43 rm 4 = zG4 := (Eq.trans (hf43.get krm rfl) ezG4.symm)
        have hG4t : (I43 rm 4).toInt = zG4.toInt := congrArg Int32.toInt hG4
        have hG7 : I43 rm 7 = zG7 := (Eq.trans (hf43.get krm rfl) ezG7.symm)
        have hG7t : (I43 rm 7).toInt = zG7.toInt := congrArg Int32.toInt hG7
        have hG8 : I43 rm 8 = zG8 := (Eq.trans (hf43.get krm rfl) ezG8.symm)
        have hG8t : (I43 rm 8).toInt = zG8.toInt := congrArg Int32.toInt hG8
        have hG9 : I43 rm 9 = zG9 := (Eq.trans (hf43.get krm rfl) ezG9.symm)
        have hG9t : (I43 rm 9).toInt = zG9.toInt := congrArg Int32.toInt hG9
        have hGN : I43 rm 10 = zGN := (Eq.trans (hf43.get krm rfl) ezGN.symm)
        have hGNt : (I43 rm 10).toInt = zGN.toInt := congrArg Int32.toInt hGN
        refine r_sub [1, 0] rfl ?_
        exact ih2 ((2 * (900 - (I43 a0 8).toInt) + x41_.toInt).toNat) (by omega) x41_ I43 J43 hs43 hF43 hFJ43 (by omega) (by omega) (by omega) (by omega) rfl
  refine r_sub [1, 0] rfl ?_
  exact LP2 _ x1_ I J hs hF hFJ (by omega) (by omega) (by omega) (by omega) rfl
