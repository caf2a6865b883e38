abbrev rmX10_readLake : Room := { frames := 7, cells := 0, slots := 0, locals := 152 }
abbrev rmX10_readPeg : Room := { frames := 8, cells := 0, slots := 0, locals := 171 }
abbrev rmX10_readFrom : Room := { frames := 7, cells := 0, slots := 0, locals := 152 }
abbrev rmX10_readRain : Room := { frames := 7, cells := 0, slots := 0, locals := 152 }
set_option maxHeartbeats 4000000 in
set_option maxRecDepth 100000 in
theorem c_X10_readLake (g : GG) (l : Launch) (K len : Nat → Nat) (I : Nat → Nat → Int32) (J : Nat → Nat → Int64) (R : Nat → Nat → Option Nat) (hs : Sf K len I R) (a0 : Nat) (ka0 : K a0 = 11) (rm : Nat) (hbr : R a0 4 = some rm) (krm : K rm = 10) (p0 : (I a0 9).toInt = 2) (p1 : (I rm 10).toInt ≤ (I rm 3).toInt + (I rm 7).toInt + (I rm 8).toInt + (I rm 9).toInt) (p2 : (I rm 4).toInt ≤ 8) : Ct g l yX10_readLake cX10_readLake 4 (Option.none : Option Jvm.ClassFile.FieldType) rmX10_readLake [.ref a0] (K, len, I, J, R) (pV2 (K, len, I, J, R) (fun I' J' => Sf K len I' R ∧ Fr K [(10, 0), (10, 1), (10, 2), (11, 8), (11, 9), (11, 10), (11, 11), (11, 12), (11, 13)] I I' ∧ Fr K [(11, 14)] J J' ∧ ((I' a0 9).toInt = 5 ∨ (I' rm 10).toInt ≤ (I' rm 3).toInt + (I' rm 7).toInt + (I' rm 8).toInt + (I' rm 9).toInt) ∧ ((I' rm 4).toInt ≤ 8) ∧ ((I a0 8).toInt ≤ (I' a0 8).toInt) ∧ ((I' a0 9).toInt = 4 → (I a0 8).toInt < (I' a0 8).toInt))) := by
  refine Ct_intro (by decide +kernel) (Nat.le_of_ble_eq_true rfl) (fun X hC hL hKK hNm hr hlk hQ => ?_)
  subst hL
  have hC : Cx g X cX10_readLake "HillTapModel" 4 rmX10_readLake := hC
  show P g X 4 0 [(0, .ref a0)] [] 0 0 (K, len, I, J, R)
  have hF : Fr K [(10, 0), (10, 1), (10, 2), (11, 8), (11, 9), (11, 10), (11, 11), (11, 12), (11, 13)] I I := Fr.refl
  have hFJ : Fr K [(11, 14)] J J := Fr.refl
  obtain ⟨G3, eG3⟩ : ∃ z : Int32, z = I rm 3 := ⟨_, rfl⟩
  have fG3 : G3.toInt = (I rm 3).toInt := by rw [eG3]
  have rG3 := hs.rng krm rfl eG3
  obtain ⟨G4, eG4⟩ : ∃ z : Int32, z = I rm 4 := ⟨_, rfl⟩
  have fG4 : G4.toInt = (I rm 4).toInt := by rw [eG4]
  have rG4 := hs.rng krm rfl eG4
  obtain ⟨G7, eG7⟩ : ∃ z : Int32, z = I rm 7 := ⟨_, rfl⟩
  have fG7 : G7.toInt = (I rm 7).toInt := by rw [eG7]
  have rG7 := hs.rng krm rfl eG7
  obtain ⟨G8, eG8⟩ : ∃ z : Int32, z = I rm 8 := ⟨_, rfl⟩
  have fG8 : G8.toInt = (I rm 8).toInt := by rw [eG8]
  have rG8 := hs.rng krm rfl eG8
  obtain ⟨G9, eG9⟩ : ∃ z : Int32, z = I rm 9 := ⟨_, rfl⟩
  have fG9 : G9.toInt = (I rm 9).toInt := by rw [eG9]
  have rG9 := hs.rng krm rfl eG9
  obtain ⟨GN, eGN⟩ : ∃ z : Int32, z = I rm 10 := ⟨_, rfl⟩
  have fGN : GN.toInt = (I rm 10).toInt := by rw [eGN]
  have rGN := hs.rng krm rfl eGN
  obtain ⟨A0, eA0⟩ : ∃ z : Int32, z = I a0 8 := ⟨_, rfl⟩
  have fA0 : A0.toInt = (I a0 8).toInt := by rw [eA0]
  have rA0 := hs.rng ka0 rfl eA0
  obtain ⟨T0, eT0⟩ : ∃ z : Int32, z = I a0 9 := ⟨_, rfl⟩
  have fT0 : T0.toInt = (I a0 9).toInt := by rw [eT0]
  refine r_aload_n hC dX10_readLake_0 0 rfl ?_
  refine r_getr hC 4 (ci := 10) rfl u10_in (by decide) mT_4_239 dX10_readLake_1 ka0 rfl rfl hbr ?_
  refine r_getiN hC 0 (ci := 9) rfl u9_in (by decide) nF_0 dX10_readLake_4 krm rfl rfl (fun x1_ e1 => ?_)
  have f1 : x1_.toInt = (I rm 0).toInt := by rw [e1]
  refine r_iconst hC (v := (-1)) dX10_readLake_7 (by decide) (by decide) (fun x2_ e2 t2 => ?_)
  refine r_icmp_eq hC (tgt := 16) dX10_readLake_8 (by decide) (fun c3 => ?_) (fun c3 => ?_)
  · refine r_aload_n hC dX10_readLake_16 0 rfl ?_
    have md4 : (I a0 9).toInt ≠ 5 := by omega
    refine r_callV hC (As := []) (rest := []) (ci := 10) (c_X10_goesOn g (xL X) K len I J R hs a0 ka0) mT_5_199 mT_1_10 mT_5_196 mT_5_198 mP_49 okX10_goesOn ⟨by decide, by decide⟩ rfl (by show kO (K a0) = _; rw [ka0]; rfl) rfl rfl (Nat.le_of_ble_eq_true rfl) ⟨by decide, by decide⟩ dX10_readLake_17 (aV2 (F := fun st M => P g X 4 20 [(0, .ref a0)] st _ _ M) (M := (K, len, I, J, R)) fun I5 J5 h5 => ?_)
    obtain ⟨hs5, hf5, hfj5, k5_0, k5_1, k5_2, k5_3⟩ := h5
    show P g X 4 20 [(0, .ref a0)] [] _ _ (K, len, I5, J5, R)
    have hF5 : Fr K [(10, 0), (10, 1), (10, 2), (11, 8), (11, 9), (11, 10), (11, 11), (11, 12), (11, 13)] I I5 := hF.trans hf5 rfl rfl
    have hFJ5 : Fr K [(11, 14)] J J5 := hFJ.trans hfj5 rfl rfl
    have sf5 := k5_1 md4
    replace k5_3 := k5_3 md4
    clear k5_0 k5_1 md4
    refine r_aload_n hC dX10_readLake_20 0 rfl ?_
    refine r_ldcS hC (i := 32) (by decide) rfl rfl dX10_readLake_21 ?_
    refine r_iconst hC (v := (0)) dX10_readLake_23 (by decide) (by decide) (fun x6_ e6 t6 => ?_)
    refine r_sipush hC (v := (500)) dX10_readLake_24 (by decide) (by decide) (fun x7_ e7 t7 => ?_)
    have md8 : (I5 a0 9).toInt ≠ 5 := by omega
    refine r_callV hC (As := [.ref (g.2.2.1 32), .int x6_, .int x7_]) (rest := []) (ci := 10) (c_X10_readPart g (xL X) K len I5 J5 R hs5 a0 ka0 32 (by decide) x6_ x7_) mT_6_1 mT_1_10 mT_5_238 mT_6_0 mP_56 okX10_readPart ⟨by decide, by decide⟩ rfl (by show kO (K a0) = _; rw [ka0]; rfl) rfl rfl (Nat.le_of_ble_eq_true rfl) ⟨by decide, by decide⟩ dX10_readLake_27 (aI2 (F := fun st M => P g X 4 30 [(0, .ref a0)] st _ _ M) (M := (K, len, I5, J5, R)) fun x9_ I9 J9 h9 => ?_)
    obtain ⟨hs9, hf9, hfj9, k9_0, k9_1, k9_2, k9_3⟩ := h9
    show P g X 4 30 [(0, .ref a0)] [.int x9_] _ _ (K, len, I9, J9, R)
    have hF9 : Fr K [(10, 0), (10, 1), (10, 2), (11, 8), (11, 9), (11, 10), (11, 11), (11, 12), (11, 13)] I I9 := hF5.trans hf9 rfl rfl
    have hFJ9 : Fr K [(11, 14)] J J9 := hFJ5.trans hfj9 rfl rfl
    clear k5_3
    by_cases sf9 : (I9 a0 9).toInt = 5
    · clear k9_0 k9_1 k9_3 md8 sf5
      refine r_istore_n hC (lv' := [(1, .int x9_), (0, .ref a0)]) dX10_readLake_30 (by decide) rfl ?_
      refine r_aload_n hC dX10_readLake_31 1 rfl ?_
      refine r_ldcS hC (i := 33) (by decide) rfl rfl dX10_readLake_32 ?_
      refine r_iconst hC (v := (1)) dX10_readLake_34 (by decide) (by decide) (fun x10_ e10 t10 => ?_)
      refine r_bipush hC (v := (50)) dX10_readLake_35 (by decide) (by decide) (fun x11_ e11 t11 => ?_)
      have md12 : (I9 a0 9).toInt = 5 := by omega
      refine r_callV hC (As := [.ref (g.2.2.1 33), .int x10_, .int x11_]) (rest := []) (ci := 10) (c_X10_readPart g (xL X) K len I9 J9 R hs9 a0 ka0 33 (by decide) x10_ x11_) mT_6_1 mT_1_10 mT_5_238 mT_6_0 mP_56 okX10_readPart ⟨by decide, by decide⟩ rfl (by show kO (K a0) = _; rw [ka0]; rfl) rfl rfl (Nat.le_of_ble_eq_true rfl) ⟨by decide, by decide⟩ dX10_readLake_37 (aI2 (F := fun st M => P g X 4 40 [(1, .int x9_), (0, .ref a0)] st _ _ M) (M := (K, len, I9, J9, R)) fun x13_ I13 J13 h13 => ?_)
      obtain ⟨hs13, hf13, hfj13, k13_0, k13_1, k13_2, k13_3⟩ := h13
      show P g X 4 40 [(1, .int x9_), (0, .ref a0)] [.int x13_] _ _ (K, len, I13, J13, R)
      have hF13 : Fr K [(10, 0), (10, 1), (10, 2), (11, 8), (11, 9), (11, 10), (11, 11), (11, 12), (11, 13)] I I13 := hF9.trans hf13 rfl rfl
      have hFJ13 : Fr K [(11, 14)] J J13 := hFJ9.trans hfj13 rfl rfl
      have sf13 := k13_0 md12
      clear k13_0 k13_1 k13_3 md12 sf9
      refine r_istore_n hC (lv' := [(2, .int x13_), (1, .int x9_), (0, .ref a0)]) dX10_readLake_40 (by decide) rfl ?_
      refine r_aload_n hC dX10_readLake_41 2 rfl ?_
      refine r_ldcS hC (i := 34) (by decide) rfl rfl dX10_readLake_42 ?_
      refine r_iload_n hC dX10_readLake_44 1 rfl ?_
      refine r_iconst hC (v := (1)) dX10_readLake_45 (by decide) (by decide) (fun x14_ e14 t14 => ?_)
      refine r_icmp_le hC (tgt := 53) dX10_readLake_46 (by decide) (fun c15 => ?_) (fun c15 => ?_)
      · refine r_iconst hC (v := (1)) dX10_readLake_53 (by decide) (by decide) (fun x16_ e16 t16 => ?_)
        refine r_sipush hC (v := (999)) dX10_readLake_54 (by decide) (by decide) (fun x17_ e17 t17 => ?_)
        have md18 : (I13 a0 9).toInt = 5 := by omega
        refine r_callV hC (As := [.ref (g.2.2.1 34), .int x16_, .int x17_]) (rest := []) (ci := 10) (c_X10_readPart g (xL X) K len I13 J13 R hs13 a0 ka0 34 (by decide) x16_ x17_) mT_6_1 mT_1_10 mT_5_238 mT_6_0 mP_56 okX10_readPart ⟨by decide, by decide⟩ rfl (by show kO (K a0) = _; rw [ka0]; rfl) rfl rfl (Nat.le_of_ble_eq_true rfl) ⟨by decide, by decide⟩ dX10_readLake_57 (aI2 (F := fun st M => P g X 4 60 [(2, .int x13_), (1, .int x9_), (0, .ref a0)] st _ _ M) (M := (K, len, I13, J13, R)) fun x19_ I19 J19 h19 => ?_)
        obtain ⟨hs19, hf19, hfj19, k19_0, k19_1, k19_2, k19_3⟩ := h19
        show P g X 4 60 [(2, .int x13_), (1, .int x9_), (0, .ref a0)] [.int x19_] _ _ (K, len, I19, J19, R)
        have hF19 : Fr K [(10, 0), (10, 1), (10, 2), (11, 8), (11, 9), (11, 10), (11, 11), (11, 12), (11, 13)] I I19 := hF13.trans hf19 rfl rfl
        have hFJ19 : Fr K [(11, 14)] J J19 := hFJ13.trans hfj19 rfl rfl
        have sf19 := k19_0 md18
        clear k19_0 k19_1 k19_3 md18 sf13
        refine r_istore_n hC (lv' := [(3, .int x19_), (2, .int x13_), (1, .int x9_), (0, .ref a0)]) dX10_readLake_60 (by decide) rfl ?_
        refine r_aload_n hC dX10_readLake_61 3 rfl ?_
        obtain ⟨A9, eA9⟩ : ∃ z : Int32, z = I19 a0 8 := ⟨_, rfl⟩
        have fA9 : A9.toInt = (I19 a0 8).toInt := by rw [eA9]
        have rA9 := hs19.rng ka0 rfl eA9
        refine r_geti hC 9 (ci := 10) rfl u10_in (by decide) mT_5_4 dX10_readLake_62 ka0 rfl rfl (fun x20_ e20 => ?_)
        have f20 : x20_.toInt = (I19 a0 9).toInt := by rw [e20]
        refine r_iconst hC (v := (5)) dX10_readLake_65 (by decide) (by decide) (fun x21_ e21 t21 => ?_)
        refine r_icmp_ne hC (tgt := 70) dX10_readLake_66 (by decide) (fun c22 => ?_) (fun c22 => ?_)
        · refine r_aload_n hC dX10_readLake_70 3 rfl ?_
          refine r_getr hC 4 (ci := 10) rfl u10_in (by decide) mT_4_239 dX10_readLake_71 ka0 rfl rfl hbr ?_
          refine r_iload_n hC dX10_readLake_74 2 rfl ?_
          refine r_putiN hC 0 (ci := 9) rfl u9_in tyX9_ok nmX9 (by decide) nF_0 rfl rfl rfl dX10_readLake_75 krm rfl rfl (fun I23 eI23 => ?_)
          have hs23 := hs19.put0 eI23 krm rfl rfl rfl (by decide)
          have hF23 := hF19.put eI23 krm rfl
          refine r_aload_n hC dX10_readLake_78 3 rfl ?_
          refine r_getr hC 4 (ci := 10) rfl u10_in (by decide) mT_4_239 dX10_readLake_79 ka0 rfl rfl hbr ?_
          refine r_iload_n hC dX10_readLake_82 1 rfl ?_
          refine r_putiN hC 1 (ci := 9) rfl u9_in tyX9_ok nmX9 (by decide) nF_1 rfl rfl rfl dX10_readLake_83 krm rfl rfl (fun I24 eI24 => ?_)
          have hs24 := hs23.put0 eI24 krm rfl rfl rfl (by decide)
          have hF24 := hF23.put eI24 krm rfl
          refine r_aload_n hC dX10_readLake_86 3 rfl ?_
          refine r_getr hC 4 (ci := 10) rfl u10_in (by decide) mT_4_239 dX10_readLake_87 ka0 rfl rfl hbr ?_
          refine r_iload_n hC dX10_readLake_90 0 rfl ?_
          refine r_putiN hC 2 (ci := 9) rfl u9_in tyX9_ok nmX9 (by decide) nF_2 rfl rfl rfl dX10_readLake_91 krm rfl rfl (fun I25 eI25 => ?_)
          have hs25 := hs24.put0 eI25 krm rfl rfl rfl (by decide)
          have hF25 := hF24.put eI25 krm rfl
          have hG3 : I25 rm 3 = G3 := (Eq.trans (up2_at (Or.inr (by decide)) eI25) (Eq.trans (up2_at (Or.inr (by decide)) eI24) (Eq.trans (up2_at (Or.inr (by decide)) eI23) (Eq.trans (hf19.get krm rfl) (Eq.trans (hf13.get krm rfl) (Eq.trans (hf9.get krm rfl) (Eq.trans (hf5.get krm rfl) eG3.symm)))))))
          have hG3t : (I25 rm 3).toInt = G3.toInt := congrArg Int32.toInt hG3
          have hG4 : I25 rm 4 = G4 := (Eq.trans (up2_at (Or.inr (by decide)) eI25) (Eq.trans (up2_at (Or.inr (by decide)) eI24) (Eq.trans (up2_at (Or.inr (by decide)) eI23) (Eq.trans (hf19.get krm rfl) (Eq.trans (hf13.get krm rfl) (Eq.trans (hf9.get krm rfl) (Eq.trans (hf5.get krm rfl) eG4.symm)))))))
          have hG4t : (I25 rm 4).toInt = G4.toInt := congrArg Int32.toInt hG4
          have hG7 : I25 rm 7 = G7 := (Eq.trans (up2_at (Or.inr (by decide)) eI25) (Eq.trans (up2_at (Or.inr (by decide)) eI24) (Eq.trans (up2_at (Or.inr (by decide)) eI23) (Eq.trans (hf19.get krm rfl) (Eq.trans (hf13.get krm rfl) (Eq.trans (hf9.get krm rfl) (Eq.trans (hf5.get krm rfl) eG7.symm)))))))
          have hG7t : (I25 rm 7).toInt = G7.toInt := congrArg Int32.toInt hG7
          have hG8 : I25 rm 8 = G8 := (Eq.trans (up2_at (Or.inr (by decide)) eI25) (Eq.trans (up2_at (Or.inr (by decide)) eI24) (Eq.trans (up2_at (Or.inr (by decide)) eI23) (Eq.trans (hf19.get krm rfl) (Eq.trans (hf13.get krm rfl) (Eq.trans (hf9.get krm rfl) (Eq.trans (hf5.get krm rfl) eG8.symm)))))))
          have hG8t : (I25 rm 8).toInt = G8.toInt := congrArg Int32.toInt hG8
          have hG9 : I25 rm 9 = G9 := (Eq.trans (up2_at (Or.inr (by decide)) eI25) (Eq.trans (up2_at (Or.inr (by decide)) eI24) (Eq.trans (up2_at (Or.inr (by decide)) eI23) (Eq.trans (hf19.get krm rfl) (Eq.trans (hf13.get krm rfl) (Eq.trans (hf9.get krm rfl) (Eq.trans (hf5.get krm rfl) eG9.symm)))))))
          have hG9t : (I25 rm 9).toInt = G9.toInt := congrArg Int32.toInt hG9
          have hGN : I25 rm 10 = GN := (Eq.trans (up2_at (Or.inr (by decide)) eI25) (Eq.trans (up2_at (Or.inr (by decide)) eI24) (Eq.trans (up2_at (Or.inr (by decide)) eI23) (Eq.trans (hf19.get krm rfl) (Eq.trans (hf13.get krm rfl) (Eq.trans (hf9.get krm rfl) (Eq.trans (hf5.get krm rfl) eGN.symm)))))))
          have hGNt : (I25 rm 10).toInt = GN.toInt := congrArg Int32.toInt hGN
          have hv8 : I25 a0 8 = A9 := (Eq.trans (up2_kk eI25 krm ka0 (by decide)) (Eq.trans (up2_kk eI24 krm ka0 (by decide)) (Eq.trans (up2_kk eI23 krm ka0 (by decide)) eA9.symm)))
          have hv8t : (I25 a0 8).toInt = A9.toInt := congrArg Int32.toInt hv8
          have hv9 : I25 a0 9 = x20_ := (Eq.trans (up2_kk eI25 krm ka0 (by decide)) (Eq.trans (up2_kk eI24 krm ka0 (by decide)) (Eq.trans (up2_kk eI23 krm ka0 (by decide)) e20.symm)))
          have hv9t : (I25 a0 9).toInt = x20_.toInt := congrArg Int32.toInt hv9
          exact r_vret hC hQ hlk hr (by decide) (by decide) dX10_readLake_94 ⟨_, _, rfl, rfl, ⟨hs25, hF25, hFJ19, (by first | (left; omega) | (right; omega)), (by omega), (by omega), (by omega)⟩⟩
        · have hG3 : I19 rm 3 = G3 := (Eq.trans (hf19.get krm rfl) (Eq.trans (hf13.get krm rfl) (Eq.trans (hf9.get krm rfl) (Eq.trans (hf5.get krm rfl) eG3.symm))))
          have hG3t : (I19 rm 3).toInt = G3.toInt := congrArg Int32.toInt hG3
          have hG4 : I19 rm 4 = G4 := (Eq.trans (hf19.get krm rfl) (Eq.trans (hf13.get krm rfl) (Eq.trans (hf9.get krm rfl) (Eq.trans (hf5.get krm rfl) eG4.symm))))
          have hG4t : (I19 rm 4).toInt = G4.toInt := congrArg Int32.toInt hG4
          have hG7 : I19 rm 7 = G7 := (Eq.trans (hf19.get krm rfl) (Eq.trans (hf13.get krm rfl) (Eq.trans (hf9.get krm rfl) (Eq.trans (hf5.get krm rfl) eG7.symm))))
          have hG7t : (I19 rm 7).toInt = G7.toInt := congrArg Int32.toInt hG7
          have hG8 : I19 rm 8 = G8 := (Eq.trans (hf19.get krm rfl) (Eq.trans (hf13.get krm rfl) (Eq.trans (hf9.get krm rfl) (Eq.trans (hf5.get krm rfl) eG8.symm))))
          have hG8t : (I19 rm 8).toInt = G8.toInt := congrArg Int32.toInt hG8
          have hG9 : I19 rm 9 = G9 := (Eq.trans (hf19.get krm rfl) (Eq.trans (hf13.get krm rfl) (Eq.trans (hf9.get krm rfl) (Eq.trans (hf5.get krm rfl) eG9.symm))))
          have hG9t : (I19 rm 9).toInt = G9.toInt := congrArg Int32.toInt hG9
          have hGN : I19 rm 10 = GN := (Eq.trans (hf19.get krm rfl) (Eq.trans (hf13.get krm rfl) (Eq.trans (hf9.get krm rfl) (Eq.trans (hf5.get krm rfl) eGN.symm))))
          have hGNt : (I19 rm 10).toInt = GN.toInt := congrArg Int32.toInt hGN
          have hv8 : I19 a0 8 = A9 := eA9.symm
          have hv8t : (I19 a0 8).toInt = A9.toInt := congrArg Int32.toInt hv8
          have hv9 : I19 a0 9 = x20_ := e20.symm
          have hv9t : (I19 a0 9).toInt = x20_.toInt := congrArg Int32.toInt hv9
          exact r_vret hC hQ hlk hr (by decide) (by decide) dX10_readLake_69 ⟨_, _, rfl, rfl, ⟨hs19, hF19, hFJ19, (by first | (left; omega) | (right; omega)), (by omega), (by omega), (by omega)⟩⟩
      · refine r_iload_n hC dX10_readLake_49 1 rfl ?_
        refine r_goto hC (tgt := 54) dX10_readLake_50 (by decide) ?_
        refine r_sipush hC (v := (999)) dX10_readLake_54 (by decide) (by decide) (fun x26_ e26 t26 => ?_)
        have md27 : (I13 a0 9).toInt = 5 := by omega
        refine r_callV hC (As := [.ref (g.2.2.1 34), .int x9_, .int x26_]) (rest := []) (ci := 10) (c_X10_readPart g (xL X) K len I13 J13 R hs13 a0 ka0 34 (by decide) x9_ x26_) mT_6_1 mT_1_10 mT_5_238 mT_6_0 mP_56 okX10_readPart ⟨by decide, by decide⟩ rfl (by show kO (K a0) = _; rw [ka0]; rfl) rfl rfl (Nat.le_of_ble_eq_true rfl) ⟨by decide, by decide⟩ dX10_readLake_57 (aI2 (F := fun st M => P g X 4 60 [(2, .int x13_), (1, .int x9_), (0, .ref a0)] st _ _ M) (M := (K, len, I13, J13, R)) fun x28_ I28 J28 h28 => ?_)
        obtain ⟨hs28, hf28, hfj28, k28_0, k28_1, k28_2, k28_3⟩ := h28
        show P g X 4 60 [(2, .int x13_), (1, .int x9_), (0, .ref a0)] [.int x28_] _ _ (K, len, I28, J28, R)
        have hF28 : Fr K [(10, 0), (10, 1), (10, 2), (11, 8), (11, 9), (11, 10), (11, 11), (11, 12), (11, 13)] I I28 := hF13.trans hf28 rfl rfl
        have hFJ28 : Fr K [(11, 14)] J J28 := hFJ13.trans hfj28 rfl rfl
        have sf28 := k28_0 md27
        clear k28_0 k28_1 k28_3 md27 sf13
        refine r_istore_n hC (lv' := [(3, .int x28_), (2, .int x13_), (1, .int x9_), (0, .ref a0)]) dX10_readLake_60 (by decide) rfl ?_
        refine r_aload_n hC dX10_readLake_61 3 rfl ?_
        obtain ⟨A9, eA9⟩ : ∃ z : Int32, z = I28 a0 8 := ⟨_, rfl⟩
        have fA9 : A9.toInt = (I28 a0 8).toInt := by rw [eA9]
        have rA9 := hs28.rng ka0 rfl eA9
        refine r_geti hC 9 (ci := 10) rfl u10_in (by decide) mT_5_4 dX10_readLake_62 ka0 rfl rfl (fun x29_ e29 => ?_)
        have f29 : x29_.toInt = (I28 a0 9).toInt := by rw [e29]
        refine r_iconst hC (v := (5)) dX10_readLake_65 (by decide) (by decide) (fun x30_ e30 t30 => ?_)
        refine r_icmp_ne hC (tgt := 70) dX10_readLake_66 (by decide) (fun c31 => ?_) (fun c31 => ?_)
        · refine r_aload_n hC dX10_readLake_70 3 rfl ?_
          refine r_getr hC 4 (ci := 10) rfl u10_in (by decide) mT_4_239 dX10_readLake_71 ka0 rfl rfl hbr ?_
          refine r_iload_n hC dX10_readLake_74 2 rfl ?_
          refine r_putiN hC 0 (ci := 9) rfl u9_in tyX9_ok nmX9 (by decide) nF_0 rfl rfl rfl dX10_readLake_75 krm rfl rfl (fun I32 eI32 => ?_)
          have hs32 := hs28.put0 eI32 krm rfl rfl rfl (by decide)
          have hF32 := hF28.put eI32 krm rfl
          refine r_aload_n hC dX10_readLake_78 3 rfl ?_
          refine r_getr hC 4 (ci := 10) rfl u10_in (by decide) mT_4_239 dX10_readLake_79 ka0 rfl rfl hbr ?_
          refine r_iload_n hC dX10_readLake_82 1 rfl ?_
          refine r_putiN hC 1 (ci := 9) rfl u9_in tyX9_ok nmX9 (by decide) nF_1 rfl rfl rfl dX10_readLake_83 krm rfl rfl (fun I33 eI33 => ?_)
          have hs33 := hs32.put0 eI33 krm rfl rfl rfl (by decide)
          have hF33 := hF32.put eI33 krm rfl
          refine r_aload_n hC dX10_readLake_86 3 rfl ?_
          refine r_getr hC 4 (ci := 10) rfl u10_in (by decide) mT_4_239 dX10_readLake_87 ka0 rfl rfl hbr ?_
          refine r_iload_n hC dX10_readLake_90 0 rfl ?_
          refine r_putiN hC 2 (ci := 9) rfl u9_in tyX9_ok nmX9 (by decide) nF_2 rfl rfl rfl dX10_readLake_91 krm rfl rfl (fun I34 eI34 => ?_)
          have hs34 := hs33.put0 eI34 krm rfl rfl rfl (by decide)
          have hF34 := hF33.put eI34 krm rfl
          have hG3 : I34 rm 3 = G3 := (Eq.trans (up2_at (Or.inr (by decide)) eI34) (Eq.trans (up2_at (Or.inr (by decide)) eI33) (Eq.trans (up2_at (Or.inr (by decide)) eI32) (Eq.trans (hf28.get krm rfl) (Eq.trans (hf13.get krm rfl) (Eq.trans (hf9.get krm rfl) (Eq.trans (hf5.get krm rfl) eG3.symm)))))))
          have hG3t : (I34 rm 3).toInt = G3.toInt := congrArg Int32.toInt hG3
          have hG4 : I34 rm 4 = G4 := (Eq.trans (up2_at (Or.inr (by decide)) eI34) (Eq.trans (up2_at (Or.inr (by decide)) eI33) (Eq.trans (up2_at (Or.inr (by decide)) eI32) (Eq.trans (hf28.get krm rfl) (Eq.trans (hf13.get krm rfl) (Eq.trans (hf9.get krm rfl) (Eq.trans (hf5.get krm rfl) eG4.symm)))))))
          have hG4t : (I34 rm 4).toInt = G4.toInt := congrArg Int32.toInt hG4
          have hG7 : I34 rm 7 = G7 := (Eq.trans (up2_at (Or.inr (by decide)) eI34) (Eq.trans (up2_at (Or.inr (by decide)) eI33) (Eq.trans (up2_at (Or.inr (by decide)) eI32) (Eq.trans (hf28.get krm rfl) (Eq.trans (hf13.get krm rfl) (Eq.trans (hf9.get krm rfl) (Eq.trans (hf5.get krm rfl) eG7.symm)))))))
          have hG7t : (I34 rm 7).toInt = G7.toInt := congrArg Int32.toInt hG7
          have hG8 : I34 rm 8 = G8 := (Eq.trans (up2_at (Or.inr (by decide)) eI34) (Eq.trans (up2_at (Or.inr (by decide)) eI33) (Eq.trans (up2_at (Or.inr (by decide)) eI32) (Eq.trans (hf28.get krm rfl) (Eq.trans (hf13.get krm rfl) (Eq.trans (hf9.get krm rfl) (Eq.trans (hf5.get krm rfl) eG8.symm)))))))
          have hG8t : (I34 rm 8).toInt = G8.toInt := congrArg Int32.toInt hG8
          have hG9 : I34 rm 9 = G9 := (Eq.trans (up2_at (Or.inr (by decide)) eI34) (Eq.trans (up2_at (Or.inr (by decide)) eI33) (Eq.trans (up2_at (Or.inr (by decide)) eI32) (Eq.trans (hf28.get krm rfl) (Eq.trans (hf13.get krm rfl) (Eq.trans (hf9.get krm rfl) (Eq.trans (hf5.get krm rfl) eG9.symm)))))))
          have hG9t : (I34 rm 9).toInt = G9.toInt := congrArg Int32.toInt hG9
          have hGN : I34 rm 10 = GN := (Eq.trans (up2_at (Or.inr (by decide)) eI34) (Eq.trans (up2_at (Or.inr (by decide)) eI33) (Eq.trans (up2_at (Or.inr (by decide)) eI32) (Eq.trans (hf28.get krm rfl) (Eq.trans (hf13.get krm rfl) (Eq.trans (hf9.get krm rfl) (Eq.trans (hf5.get krm rfl) eGN.symm)))))))
          have hGNt : (I34 rm 10).toInt = GN.toInt := congrArg Int32.toInt hGN
          have hv8 : I34 a0 8 = A9 := (Eq.trans (up2_kk eI34 krm ka0 (by decide)) (Eq.trans (up2_kk eI33 krm ka0 (by decide)) (Eq.trans (up2_kk eI32 krm ka0 (by decide)) eA9.symm)))
          have hv8t : (I34 a0 8).toInt = A9.toInt := congrArg Int32.toInt hv8
          have hv9 : I34 a0 9 = x29_ := (Eq.trans (up2_kk eI34 krm ka0 (by decide)) (Eq.trans (up2_kk eI33 krm ka0 (by decide)) (Eq.trans (up2_kk eI32 krm ka0 (by decide)) e29.symm)))
          have hv9t : (I34 a0 9).toInt = x29_.toInt := congrArg Int32.toInt hv9
          exact r_vret hC hQ hlk hr (by decide) (by decide) dX10_readLake_94 ⟨_, _, rfl, rfl, ⟨hs34, hF34, hFJ28, (by first | (left; omega) | (right; omega)), (by omega), (by omega), (by omega)⟩⟩
        · have hG3 : I28 rm 3 = G3 := (Eq.trans (hf28.get krm rfl) (Eq.trans (hf13.get krm rfl) (Eq.trans (hf9.get krm rfl) (Eq.trans (hf5.get krm rfl) eG3.symm))))
          have hG3t : (I28 rm 3).toInt = G3.toInt := congrArg Int32.toInt hG3
          have hG4 : I28 rm 4 = G4 := (Eq.trans (hf28.get krm rfl) (Eq.trans (hf13.get krm rfl) (Eq.trans (hf9.get krm rfl) (Eq.trans (hf5.get krm rfl) eG4.symm))))
          have hG4t : (I28 rm 4).toInt = G4.toInt := congrArg Int32.toInt hG4
          have hG7 : I28 rm 7 = G7 := (Eq.trans (hf28.get krm rfl) (Eq.trans (hf13.get krm rfl) (Eq.trans (hf9.get krm rfl) (Eq.trans (hf5.get krm rfl) eG7.symm))))
          have hG7t : (I28 rm 7).toInt = G7.toInt := congrArg Int32.toInt hG7
          have hG8 : I28 rm 8 = G8 := (Eq.trans (hf28.get krm rfl) (Eq.trans (hf13.get krm rfl) (Eq.trans (hf9.get krm rfl) (Eq.trans (hf5.get krm rfl) eG8.symm))))
          have hG8t : (I28 rm 8).toInt = G8.toInt := congrArg Int32.toInt hG8
          have hG9 : I28 rm 9 = G9 := (Eq.trans (hf28.get krm rfl) (Eq.trans (hf13.get krm rfl) (Eq.trans (hf9.get krm rfl) (Eq.trans (hf5.get krm rfl) eG9.symm))))
          have hG9t : (I28 rm 9).toInt = G9.toInt := congrArg Int32.toInt hG9
          have hGN : I28 rm 10 = GN := (Eq.trans (hf28.get krm rfl) (Eq.trans (hf13.get krm rfl) (Eq.trans (hf9.get krm rfl) (Eq.trans (hf5.get krm rfl) eGN.symm))))
          have hGNt : (I28 rm 10).toInt = GN.toInt := congrArg Int32.toInt hGN
          have hv8 : I28 a0 8 = A9 := eA9.symm
          have hv8t : (I28 a0 8).toInt = A9.toInt := congrArg Int32.toInt hv8
          have hv9 : I28 a0 9 = x29_ := e29.symm
          have hv9t : (I28 a0 9).toInt = x29_.toInt := congrArg Int32.toInt hv9
          exact r_vret hC hQ hlk hr (by decide) (by decide) dX10_readLake_69 ⟨_, _, rfl, rfl, ⟨hs28, hF28, hFJ28, (by first | (left; omega) | (right; omega)), (by omega), (by omega), (by omega)⟩⟩
    · replace k9_1 := k9_1 sf9
      clear k9_0 md8 sf5
      refine r_istore_n hC (lv' := [(1, .int x9_), (0, .ref a0)]) dX10_readLake_30 (by decide) rfl ?_
      refine r_aload_n hC dX10_readLake_31 1 rfl ?_
      refine r_ldcS hC (i := 33) (by decide) rfl rfl dX10_readLake_32 ?_
      refine r_iconst hC (v := (1)) dX10_readLake_34 (by decide) (by decide) (fun x35_ e35 t35 => ?_)
      refine r_bipush hC (v := (50)) dX10_readLake_35 (by decide) (by decide) (fun x36_ e36 t36 => ?_)
      have md37 : (I9 a0 9).toInt ≠ 5 := by omega
      refine r_callV hC (As := [.ref (g.2.2.1 33), .int x35_, .int x36_]) (rest := []) (ci := 10) (c_X10_readPart g (xL X) K len I9 J9 R hs9 a0 ka0 33 (by decide) x35_ x36_) mT_6_1 mT_1_10 mT_5_238 mT_6_0 mP_56 okX10_readPart ⟨by decide, by decide⟩ rfl (by show kO (K a0) = _; rw [ka0]; rfl) rfl rfl (Nat.le_of_ble_eq_true rfl) ⟨by decide, by decide⟩ dX10_readLake_37 (aI2 (F := fun st M => P g X 4 40 [(1, .int x9_), (0, .ref a0)] st _ _ M) (M := (K, len, I9, J9, R)) fun x38_ I38 J38 h38 => ?_)
      obtain ⟨hs38, hf38, hfj38, k38_0, k38_1, k38_2, k38_3⟩ := h38
      show P g X 4 40 [(1, .int x9_), (0, .ref a0)] [.int x38_] _ _ (K, len, I38, J38, R)
      have hF38 : Fr K [(10, 0), (10, 1), (10, 2), (11, 8), (11, 9), (11, 10), (11, 11), (11, 12), (11, 13)] I I38 := hF9.trans hf38 rfl rfl
      have hFJ38 : Fr K [(11, 14)] J J38 := hFJ9.trans hfj38 rfl rfl
      clear k9_3
      by_cases sf38 : (I38 a0 9).toInt = 5
      · clear k38_0 k38_1 k38_3 md37 sf9
        refine r_istore_n hC (lv' := [(2, .int x38_), (1, .int x9_), (0, .ref a0)]) dX10_readLake_40 (by decide) rfl ?_
        refine r_aload_n hC dX10_readLake_41 2 rfl ?_
        refine r_ldcS hC (i := 34) (by decide) rfl rfl dX10_readLake_42 ?_
        refine r_iload_n hC dX10_readLake_44 1 rfl ?_
        refine r_iconst hC (v := (1)) dX10_readLake_45 (by decide) (by decide) (fun x39_ e39 t39 => ?_)
        refine r_icmp_le hC (tgt := 53) dX10_readLake_46 (by decide) (fun c40 => ?_) (fun c40 => ?_)
        · refine r_iconst hC (v := (1)) dX10_readLake_53 (by decide) (by decide) (fun x41_ e41 t41 => ?_)
          refine r_sipush hC (v := (999)) dX10_readLake_54 (by decide) (by decide) (fun x42_ e42 t42 => ?_)
          have md43 : (I38 a0 9).toInt = 5 := by omega
          refine r_callV hC (As := [.ref (g.2.2.1 34), .int x41_, .int x42_]) (rest := []) (ci := 10) (c_X10_readPart g (xL X) K len I38 J38 R hs38 a0 ka0 34 (by decide) x41_ x42_) mT_6_1 mT_1_10 mT_5_238 mT_6_0 mP_56 okX10_readPart ⟨by decide, by decide⟩ rfl (by show kO (K a0) = _; rw [ka0]; rfl) rfl rfl (Nat.le_of_ble_eq_true rfl) ⟨by decide, by decide⟩ dX10_readLake_57 (aI2 (F := fun st M => P g X 4 60 [(2, .int x38_), (1, .int x9_), (0, .ref a0)] st _ _ M) (M := (K, len, I38, J38, R)) fun x44_ I44 J44 h44 => ?_)
          obtain ⟨hs44, hf44, hfj44, k44_0, k44_1, k44_2, k44_3⟩ := h44
          show P g X 4 60 [(2, .int x38_), (1, .int x9_), (0, .ref a0)] [.int x44_] _ _ (K, len, I44, J44, R)
          have hF44 : Fr K [(10, 0), (10, 1), (10, 2), (11, 8), (11, 9), (11, 10), (11, 11), (11, 12), (11, 13)] I I44 := hF38.trans hf44 rfl rfl
          have hFJ44 : Fr K [(11, 14)] J J44 := hFJ38.trans hfj44 rfl rfl
          have sf44 := k44_0 md43
          clear k44_0 k44_1 k44_3 md43 sf38
          refine r_istore_n hC (lv' := [(3, .int x44_), (2, .int x38_), (1, .int x9_), (0, .ref a0)]) dX10_readLake_60 (by decide) rfl ?_
          refine r_aload_n hC dX10_readLake_61 3 rfl ?_
          obtain ⟨A9, eA9⟩ : ∃ z : Int32, z = I44 a0 8 := ⟨_, rfl⟩
          have fA9 : A9.toInt = (I44 a0 8).toInt := by rw [eA9]
          have rA9 := hs44.rng ka0 rfl eA9
          refine r_geti hC 9 (ci := 10) rfl u10_in (by decide) mT_5_4 dX10_readLake_62 ka0 rfl rfl (fun x45_ e45 => ?_)
          have f45 : x45_.toInt = (I44 a0 9).toInt := by rw [e45]
          refine r_iconst hC (v := (5)) dX10_readLake_65 (by decide) (by decide) (fun x46_ e46 t46 => ?_)
          refine r_icmp_ne hC (tgt := 70) dX10_readLake_66 (by decide) (fun c47 => ?_) (fun c47 => ?_)
          · refine r_aload_n hC dX10_readLake_70 3 rfl ?_
            refine r_getr hC 4 (ci := 10) rfl u10_in (by decide) mT_4_239 dX10_readLake_71 ka0 rfl rfl hbr ?_
            refine r_iload_n hC dX10_readLake_74 2 rfl ?_
            refine r_putiN hC 0 (ci := 9) rfl u9_in tyX9_ok nmX9 (by decide) nF_0 rfl rfl rfl dX10_readLake_75 krm rfl rfl (fun I48 eI48 => ?_)
            have hs48 := hs44.put0 eI48 krm rfl rfl rfl (by decide)
            have hF48 := hF44.put eI48 krm rfl
            refine r_aload_n hC dX10_readLake_78 3 rfl ?_
            refine r_getr hC 4 (ci := 10) rfl u10_in (by decide) mT_4_239 dX10_readLake_79 ka0 rfl rfl hbr ?_
            refine r_iload_n hC dX10_readLake_82 1 rfl ?_
            refine r_putiN hC 1 (ci := 9) rfl u9_in tyX9_ok nmX9 (by decide) nF_1 rfl rfl rfl dX10_readLake_83 krm rfl rfl (fun I49 eI49 => ?_)
            have hs49 := hs48.put0 eI49 krm rfl rfl rfl (by decide)
            have hF49 := hF48.put eI49 krm rfl
            refine r_aload_n hC dX10_readLake_86 3 rfl ?_
            refine r_getr hC 4 (ci := 10) rfl u10_in (by decide) mT_4_239 dX10_readLake_87 ka0 rfl rfl hbr ?_
            refine r_iload_n hC dX10_readLake_90 0 rfl ?_
            refine r_putiN hC 2 (ci := 9) rfl u9_in tyX9_ok nmX9 (by decide) nF_2 rfl rfl rfl dX10_readLake_91 krm rfl rfl (fun I50 eI50 => ?_)
            have hs50 := hs49.put0 eI50 krm rfl rfl rfl (by decide)
            have hF50 := hF49.put eI50 krm rfl
            have hG3 : I50 rm 3 = G3 := (Eq.trans (up2_at (Or.inr (by decide)) eI50) (Eq.trans (up2_at (Or.inr (by decide)) eI49) (Eq.trans (up2_at (Or.inr (by decide)) eI48) (Eq.trans (hf44.get krm rfl) (Eq.trans (hf38.get krm rfl) (Eq.trans (hf9.get krm rfl) (Eq.trans (hf5.get krm rfl) eG3.symm)))))))
            have hG3t : (I50 rm 3).toInt = G3.toInt := congrArg Int32.toInt hG3
            have hG4 : I50 rm 4 = G4 := (Eq.trans (up2_at (Or.inr (by decide)) eI50) (Eq.trans (up2_at (Or.inr (by decide)) eI49) (Eq.trans (up2_at (Or.inr (by decide)) eI48) (Eq.trans (hf44.get krm rfl) (Eq.trans (hf38.get krm rfl) (Eq.trans (hf9.get krm rfl) (Eq.trans (hf5.get krm rfl) eG4.symm)))))))
            have hG4t : (I50 rm 4).toInt = G4.toInt := congrArg Int32.toInt hG4
            have hG7 : I50 rm 7 = G7 := (Eq.trans (up2_at (Or.inr (by decide)) eI50) (Eq.trans (up2_at (Or.inr (by decide)) eI49) (Eq.trans (up2_at (Or.inr (by decide)) eI48) (Eq.trans (hf44.get krm rfl) (Eq.trans (hf38.get krm rfl) (Eq.trans (hf9.get krm rfl) (Eq.trans (hf5.get krm rfl) eG7.symm)))))))
            have hG7t : (I50 rm 7).toInt = G7.toInt := congrArg Int32.toInt hG7
            have hG8 : I50 rm 8 = G8 := (Eq.trans (up2_at (Or.inr (by decide)) eI50) (Eq.trans (up2_at (Or.inr (by decide)) eI49) (Eq.trans (up2_at (Or.inr (by decide)) eI48) (Eq.trans (hf44.get krm rfl) (Eq.trans (hf38.get krm rfl) (Eq.trans (hf9.get krm rfl) (Eq.trans (hf5.get krm rfl) eG8.symm)))))))
            have hG8t : (I50 rm 8).toInt = G8.toInt := congrArg Int32.toInt hG8
            have hG9 : I50 rm 9 = G9 := (Eq.trans (up2_at (Or.inr (by decide)) eI50) (Eq.trans (up2_at (Or.inr (by decide)) eI49) (Eq.trans (up2_at (Or.inr (by decide)) eI48) (Eq.trans (hf44.get krm rfl) (Eq.trans (hf38.get krm rfl) (Eq.trans (hf9.get krm rfl) (Eq.trans (hf5.get krm rfl) eG9.symm)))))))
            have hG9t : (I50 rm 9).toInt = G9.toInt := congrArg Int32.toInt hG9
            have hGN : I50 rm 10 = GN := (Eq.trans (up2_at (Or.inr (by decide)) eI50) (Eq.trans (up2_at (Or.inr (by decide)) eI49) (Eq.trans (up2_at (Or.inr (by decide)) eI48) (Eq.trans (hf44.get krm rfl) (Eq.trans (hf38.get krm rfl) (Eq.trans (hf9.get krm rfl) (Eq.trans (hf5.get krm rfl) eGN.symm)))))))
            have hGNt : (I50 rm 10).toInt = GN.toInt := congrArg Int32.toInt hGN
            have hv8 : I50 a0 8 = A9 := (Eq.trans (up2_kk eI50 krm ka0 (by decide)) (Eq.trans (up2_kk eI49 krm ka0 (by decide)) (Eq.trans (up2_kk eI48 krm ka0 (by decide)) eA9.symm)))
            have hv8t : (I50 a0 8).toInt = A9.toInt := congrArg Int32.toInt hv8
            have hv9 : I50 a0 9 = x45_ := (Eq.trans (up2_kk eI50 krm ka0 (by decide)) (Eq.trans (up2_kk eI49 krm ka0 (by decide)) (Eq.trans (up2_kk eI48 krm ka0 (by decide)) e45.symm)))
            have hv9t : (I50 a0 9).toInt = x45_.toInt := congrArg Int32.toInt hv9
            exact r_vret hC hQ hlk hr (by decide) (by decide) dX10_readLake_94 ⟨_, _, rfl, rfl, ⟨hs50, hF50, hFJ44, (by first | (left; omega) | (right; omega)), (by omega), (by omega), (by omega)⟩⟩
          · have hG3 : I44 rm 3 = G3 := (Eq.trans (hf44.get krm rfl) (Eq.trans (hf38.get krm rfl) (Eq.trans (hf9.get krm rfl) (Eq.trans (hf5.get krm rfl) eG3.symm))))
            have hG3t : (I44 rm 3).toInt = G3.toInt := congrArg Int32.toInt hG3
            have hG4 : I44 rm 4 = G4 := (Eq.trans (hf44.get krm rfl) (Eq.trans (hf38.get krm rfl) (Eq.trans (hf9.get krm rfl) (Eq.trans (hf5.get krm rfl) eG4.symm))))
            have hG4t : (I44 rm 4).toInt = G4.toInt := congrArg Int32.toInt hG4
            have hG7 : I44 rm 7 = G7 := (Eq.trans (hf44.get krm rfl) (Eq.trans (hf38.get krm rfl) (Eq.trans (hf9.get krm rfl) (Eq.trans (hf5.get krm rfl) eG7.symm))))
            have hG7t : (I44 rm 7).toInt = G7.toInt := congrArg Int32.toInt hG7
            have hG8 : I44 rm 8 = G8 := (Eq.trans (hf44.get krm rfl) (Eq.trans (hf38.get krm rfl) (Eq.trans (hf9.get krm rfl) (Eq.trans (hf5.get krm rfl) eG8.symm))))
            have hG8t : (I44 rm 8).toInt = G8.toInt := congrArg Int32.toInt hG8
            have hG9 : I44 rm 9 = G9 := (Eq.trans (hf44.get krm rfl) (Eq.trans (hf38.get krm rfl) (Eq.trans (hf9.get krm rfl) (Eq.trans (hf5.get krm rfl) eG9.symm))))
            have hG9t : (I44 rm 9).toInt = G9.toInt := congrArg Int32.toInt hG9
            have hGN : I44 rm 10 = GN := (Eq.trans (hf44.get krm rfl) (Eq.trans (hf38.get krm rfl) (Eq.trans (hf9.get krm rfl) (Eq.trans (hf5.get krm rfl) eGN.symm))))
            have hGNt : (I44 rm 10).toInt = GN.toInt := congrArg Int32.toInt hGN
            have hv8 : I44 a0 8 = A9 := eA9.symm
            have hv8t : (I44 a0 8).toInt = A9.toInt := congrArg Int32.toInt hv8
            have hv9 : I44 a0 9 = x45_ := e45.symm
            have hv9t : (I44 a0 9).toInt = x45_.toInt := congrArg Int32.toInt hv9
            exact r_vret hC hQ hlk hr (by decide) (by decide) dX10_readLake_69 ⟨_, _, rfl, rfl, ⟨hs44, hF44, hFJ44, (by first | (left; omega) | (right; omega)), (by omega), (by omega), (by omega)⟩⟩
        · refine r_iload_n hC dX10_readLake_49 1 rfl ?_
          refine r_goto hC (tgt := 54) dX10_readLake_50 (by decide) ?_
          refine r_sipush hC (v := (999)) dX10_readLake_54 (by decide) (by decide) (fun x51_ e51 t51 => ?_)
          have md52 : (I38 a0 9).toInt = 5 := by omega
          refine r_callV hC (As := [.ref (g.2.2.1 34), .int x9_, .int x51_]) (rest := []) (ci := 10) (c_X10_readPart g (xL X) K len I38 J38 R hs38 a0 ka0 34 (by decide) x9_ x51_) mT_6_1 mT_1_10 mT_5_238 mT_6_0 mP_56 okX10_readPart ⟨by decide, by decide⟩ rfl (by show kO (K a0) = _; rw [ka0]; rfl) rfl rfl (Nat.le_of_ble_eq_true rfl) ⟨by decide, by decide⟩ dX10_readLake_57 (aI2 (F := fun st M => P g X 4 60 [(2, .int x38_), (1, .int x9_), (0, .ref a0)] st _ _ M) (M := (K, len, I38, J38, R)) fun x53_ I53 J53 h53 => ?_)
          obtain ⟨hs53, hf53, hfj53, k53_0, k53_1, k53_2, k53_3⟩ := h53
          show P g X 4 60 [(2, .int x38_), (1, .int x9_), (0, .ref a0)] [.int x53_] _ _ (K, len, I53, J53, R)
          have hF53 : Fr K [(10, 0), (10, 1), (10, 2), (11, 8), (11, 9), (11, 10), (11, 11), (11, 12), (11, 13)] I I53 := hF38.trans hf53 rfl rfl
          have hFJ53 : Fr K [(11, 14)] J J53 := hFJ38.trans hfj53 rfl rfl
          have sf53 := k53_0 md52
          clear k53_0 k53_1 k53_3 md52 sf38
          refine r_istore_n hC (lv' := [(3, .int x53_), (2, .int x38_), (1, .int x9_), (0, .ref a0)]) dX10_readLake_60 (by decide) rfl ?_
          refine r_aload_n hC dX10_readLake_61 3 rfl ?_
          obtain ⟨A9, eA9⟩ : ∃ z : Int32, z = I53 a0 8 := ⟨_, rfl⟩
          have fA9 : A9.toInt = (I53 a0 8).toInt := by rw [eA9]
          have rA9 := hs53.rng ka0 rfl eA9
          refine r_geti hC 9 (ci := 10) rfl u10_in (by decide) mT_5_4 dX10_readLake_62 ka0 rfl rfl (fun x54_ e54 => ?_)
          have f54 : x54_.toInt = (I53 a0 9).toInt := by rw [e54]
          refine r_iconst hC (v := (5)) dX10_readLake_65 (by decide) (by decide) (fun x55_ e55 t55 => ?_)
          refine r_icmp_ne hC (tgt := 70) dX10_readLake_66 (by decide) (fun c56 => ?_) (fun c56 => ?_)
          · refine r_aload_n hC dX10_readLake_70 3 rfl ?_
            refine r_getr hC 4 (ci := 10) rfl u10_in (by decide) mT_4_239 dX10_readLake_71 ka0 rfl rfl hbr ?_
            refine r_iload_n hC dX10_readLake_74 2 rfl ?_
            refine r_putiN hC 0 (ci := 9) rfl u9_in tyX9_ok nmX9 (by decide) nF_0 rfl rfl rfl dX10_readLake_75 krm rfl rfl (fun I57 eI57 => ?_)
            have hs57 := hs53.put0 eI57 krm rfl rfl rfl (by decide)
            have hF57 := hF53.put eI57 krm rfl
            refine r_aload_n hC dX10_readLake_78 3 rfl ?_
            refine r_getr hC 4 (ci := 10) rfl u10_in (by decide) mT_4_239 dX10_readLake_79 ka0 rfl rfl hbr ?_
            refine r_iload_n hC dX10_readLake_82 1 rfl ?_
            refine r_putiN hC 1 (ci := 9) rfl u9_in tyX9_ok nmX9 (by decide) nF_1 rfl rfl rfl dX10_readLake_83 krm rfl rfl (fun I58 eI58 => ?_)
            have hs58 := hs57.put0 eI58 krm rfl rfl rfl (by decide)
            have hF58 := hF57.put eI58 krm rfl
            refine r_aload_n hC dX10_readLake_86 3 rfl ?_
            refine r_getr hC 4 (ci := 10) rfl u10_in (by decide) mT_4_239 dX10_readLake_87 ka0 rfl rfl hbr ?_
            refine r_iload_n hC dX10_readLake_90 0 rfl ?_
            refine r_putiN hC 2 (ci := 9) rfl u9_in tyX9_ok nmX9 (by decide) nF_2 rfl rfl rfl dX10_readLake_91 krm rfl rfl (fun I59 eI59 => ?_)
            have hs59 := hs58.put0 eI59 krm rfl rfl rfl (by decide)
            have hF59 := hF58.put eI59 krm rfl
            have hG3 : I59 rm 3 = G3 := (Eq.trans (up2_at (Or.inr (by decide)) eI59) (Eq.trans (up2_at (Or.inr (by decide)) eI58) (Eq.trans (up2_at (Or.inr (by decide)) eI57) (Eq.trans (hf53.get krm rfl) (Eq.trans (hf38.get krm rfl) (Eq.trans (hf9.get krm rfl) (Eq.trans (hf5.get krm rfl) eG3.symm)))))))
            have hG3t : (I59 rm 3).toInt = G3.toInt := congrArg Int32.toInt hG3
            have hG4 : I59 rm 4 = G4 := (Eq.trans (up2_at (Or.inr (by decide)) eI59) (Eq.trans (up2_at (Or.inr (by decide)) eI58) (Eq.trans (up2_at (Or.inr (by decide)) eI57) (Eq.trans (hf53.get krm rfl) (Eq.trans (hf38.get krm rfl) (Eq.trans (hf9.get krm rfl) (Eq.trans (hf5.get krm rfl) eG4.symm)))))))
            have hG4t : (I59 rm 4).toInt = G4.toInt := congrArg Int32.toInt hG4
            have hG7 : I59 rm 7 = G7 := (Eq.trans (up2_at (Or.inr (by decide)) eI59) (Eq.trans (up2_at (Or.inr (by decide)) eI58) (Eq.trans (up2_at (Or.inr (by decide)) eI57) (Eq.trans (hf53.get krm rfl) (Eq.trans (hf38.get krm rfl) (Eq.trans (hf9.get krm rfl) (Eq.trans (hf5.get krm rfl) eG7.symm)))))))
            have hG7t : (I59 rm 7).toInt = G7.toInt := congrArg Int32.toInt hG7
            have hG8 : I59 rm 8 = G8 := (Eq.trans (up2_at (Or.inr (by decide)) eI59) (Eq.trans (up2_at (Or.inr (by decide)) eI58) (Eq.trans (up2_at (Or.inr (by decide)) eI57) (Eq.trans (hf53.get krm rfl) (Eq.trans (hf38.get krm rfl) (Eq.trans (hf9.get krm rfl) (Eq.trans (hf5.get krm rfl) eG8.symm)))))))
            have hG8t : (I59 rm 8).toInt = G8.toInt := congrArg Int32.toInt hG8
            have hG9 : I59 rm 9 = G9 := (Eq.trans (up2_at (Or.inr (by decide)) eI59) (Eq.trans (up2_at (Or.inr (by decide)) eI58) (Eq.trans (up2_at (Or.inr (by decide)) eI57) (Eq.trans (hf53.get krm rfl) (Eq.trans (hf38.get krm rfl) (Eq.trans (hf9.get krm rfl) (Eq.trans (hf5.get krm rfl) eG9.symm)))))))
            have hG9t : (I59 rm 9).toInt = G9.toInt := congrArg Int32.toInt hG9
            have hGN : I59 rm 10 = GN := (Eq.trans (up2_at (Or.inr (by decide)) eI59) (Eq.trans (up2_at (Or.inr (by decide)) eI58) (Eq.trans (up2_at (Or.inr (by decide)) eI57) (Eq.trans (hf53.get krm rfl) (Eq.trans (hf38.get krm rfl) (Eq.trans (hf9.get krm rfl) (Eq.trans (hf5.get krm rfl) eGN.symm)))))))
            have hGNt : (I59 rm 10).toInt = GN.toInt := congrArg Int32.toInt hGN
            have hv8 : I59 a0 8 = A9 := (Eq.trans (up2_kk eI59 krm ka0 (by decide)) (Eq.trans (up2_kk eI58 krm ka0 (by decide)) (Eq.trans (up2_kk eI57 krm ka0 (by decide)) eA9.symm)))
            have hv8t : (I59 a0 8).toInt = A9.toInt := congrArg Int32.toInt hv8
            have hv9 : I59 a0 9 = x54_ := (Eq.trans (up2_kk eI59 krm ka0 (by decide)) (Eq.trans (up2_kk eI58 krm ka0 (by decide)) (Eq.trans (up2_kk eI57 krm ka0 (by decide)) e54.symm)))
            have hv9t : (I59 a0 9).toInt = x54_.toInt := congrArg Int32.toInt hv9
            exact r_vret hC hQ hlk hr (by decide) (by decide) dX10_readLake_94 ⟨_, _, rfl, rfl, ⟨hs59, hF59, hFJ53, (by first | (left; omega) | (right; omega)), (by omega), (by omega), (by omega)⟩⟩
          · have hG3 : I53 rm 3 = G3 := (Eq.trans (hf53.get krm rfl) (Eq.trans (hf38.get krm rfl) (Eq.trans (hf9.get krm rfl) (Eq.trans (hf5.get krm rfl) eG3.symm))))
            have hG3t : (I53 rm 3).toInt = G3.toInt := congrArg Int32.toInt hG3
            have hG4 : I53 rm 4 = G4 := (Eq.trans (hf53.get krm rfl) (Eq.trans (hf38.get krm rfl) (Eq.trans (hf9.get krm rfl) (Eq.trans (hf5.get krm rfl) eG4.symm))))
            have hG4t : (I53 rm 4).toInt = G4.toInt := congrArg Int32.toInt hG4
            have hG7 : I53 rm 7 = G7 := (Eq.trans (hf53.get krm rfl) (Eq.trans (hf38.get krm rfl) (Eq.trans (hf9.get krm rfl) (Eq.trans (hf5.get krm rfl) eG7.symm))))
            have hG7t : (I53 rm 7).toInt = G7.toInt := congrArg Int32.toInt hG7
            have hG8 : I53 rm 8 = G8 := (Eq.trans (hf53.get krm rfl) (Eq.trans (hf38.get krm rfl) (Eq.trans (hf9.get krm rfl) (Eq.trans (hf5.get krm rfl) eG8.symm))))
            have hG8t : (I53 rm 8).toInt = G8.toInt := congrArg Int32.toInt hG8
            have hG9 : I53 rm 9 = G9 := (Eq.trans (hf53.get krm rfl) (Eq.trans (hf38.get krm rfl) (Eq.trans (hf9.get krm rfl) (Eq.trans (hf5.get krm rfl) eG9.symm))))
            have hG9t : (I53 rm 9).toInt = G9.toInt := congrArg Int32.toInt hG9
            have hGN : I53 rm 10 = GN := (Eq.trans (hf53.get krm rfl) (Eq.trans (hf38.get krm rfl) (Eq.trans (hf9.get krm rfl) (Eq.trans (hf5.get krm rfl) eGN.symm))))
            have hGNt : (I53 rm 10).toInt = GN.toInt := congrArg Int32.toInt hGN
            have hv8 : I53 a0 8 = A9 := eA9.symm
            have hv8t : (I53 a0 8).toInt = A9.toInt := congrArg Int32.toInt hv8
            have hv9 : I53 a0 9 = x54_ := e54.symm
            have hv9t : (I53 a0 9).toInt = x54_.toInt := congrArg Int32.toInt hv9
            exact r_vret hC hQ hlk hr (by decide) (by decide) dX10_readLake_69 ⟨_, _, rfl, rfl, ⟨hs53, hF53, hFJ53, (by first | (left; omega) | (right; omega)), (by omega), (by omega), (by omega)⟩⟩
      · replace k38_1 := k38_1 sf38
        clear k38_0 md37 sf9
        refine r_istore_n hC (lv' := [(2, .int x38_), (1, .int x9_), (0, .ref a0)]) dX10_readLake_40 (by decide) rfl ?_
        refine r_aload_n hC dX10_readLake_41 2 rfl ?_
        refine r_ldcS hC (i := 34) (by decide) rfl rfl dX10_readLake_42 ?_
        refine r_iload_n hC dX10_readLake_44 1 rfl ?_
        refine r_iconst hC (v := (1)) dX10_readLake_45 (by decide) (by decide) (fun x60_ e60 t60 => ?_)
        refine r_icmp_le hC (tgt := 53) dX10_readLake_46 (by decide) (fun c61 => ?_) (fun c61 => ?_)
        · refine r_iconst hC (v := (1)) dX10_readLake_53 (by decide) (by decide) (fun x62_ e62 t62 => ?_)
          refine r_sipush hC (v := (999)) dX10_readLake_54 (by decide) (by decide) (fun x63_ e63 t63 => ?_)
          have md64 : (I38 a0 9).toInt ≠ 5 := by omega
          refine r_callV hC (As := [.ref (g.2.2.1 34), .int x62_, .int x63_]) (rest := []) (ci := 10) (c_X10_readPart g (xL X) K len I38 J38 R hs38 a0 ka0 34 (by decide) x62_ x63_) mT_6_1 mT_1_10 mT_5_238 mT_6_0 mP_56 okX10_readPart ⟨by decide, by decide⟩ rfl (by show kO (K a0) = _; rw [ka0]; rfl) rfl rfl (Nat.le_of_ble_eq_true rfl) ⟨by decide, by decide⟩ dX10_readLake_57 (aI2 (F := fun st M => P g X 4 60 [(2, .int x38_), (1, .int x9_), (0, .ref a0)] st _ _ M) (M := (K, len, I38, J38, R)) fun x65_ I65 J65 h65 => ?_)
          obtain ⟨hs65, hf65, hfj65, k65_0, k65_1, k65_2, k65_3⟩ := h65
          show P g X 4 60 [(2, .int x38_), (1, .int x9_), (0, .ref a0)] [.int x65_] _ _ (K, len, I65, J65, R)
          have hF65 : Fr K [(10, 0), (10, 1), (10, 2), (11, 8), (11, 9), (11, 10), (11, 11), (11, 12), (11, 13)] I I65 := hF38.trans hf65 rfl rfl
          have hFJ65 : Fr K [(11, 14)] J J65 := hFJ38.trans hfj65 rfl rfl
          clear k38_3
          by_cases sf65 : (I65 a0 9).toInt = 5
          · clear k65_0 k65_1 k65_3 md64 sf38
            refine r_istore_n hC (lv' := [(3, .int x65_), (2, .int x38_), (1, .int x9_), (0, .ref a0)]) dX10_readLake_60 (by decide) rfl ?_
            refine r_aload_n hC dX10_readLake_61 3 rfl ?_
            obtain ⟨A9, eA9⟩ : ∃ z : Int32, z = I65 a0 8 := ⟨_, rfl⟩
            have fA9 : A9.toInt = (I65 a0 8).toInt := by rw [eA9]
            have rA9 := hs65.rng ka0 rfl eA9
            refine r_geti hC 9 (ci := 10) rfl u10_in (by decide) mT_5_4 dX10_readLake_62 ka0 rfl rfl (fun x66_ e66 => ?_)
            have f66 : x66_.toInt = (I65 a0 9).toInt := by rw [e66]
            refine r_iconst hC (v := (5)) dX10_readLake_65 (by decide) (by decide) (fun x67_ e67 t67 => ?_)
            refine r_icmp_ne hC (tgt := 70) dX10_readLake_66 (by decide) (fun c68 => ?_) (fun c68 => ?_)
            · refine r_aload_n hC dX10_readLake_70 3 rfl ?_
              refine r_getr hC 4 (ci := 10) rfl u10_in (by decide) mT_4_239 dX10_readLake_71 ka0 rfl rfl hbr ?_
              refine r_iload_n hC dX10_readLake_74 2 rfl ?_
              refine r_putiN hC 0 (ci := 9) rfl u9_in tyX9_ok nmX9 (by decide) nF_0 rfl rfl rfl dX10_readLake_75 krm rfl rfl (fun I69 eI69 => ?_)
              have hs69 := hs65.put0 eI69 krm rfl rfl rfl (by decide)
              have hF69 := hF65.put eI69 krm rfl
              refine r_aload_n hC dX10_readLake_78 3 rfl ?_
              refine r_getr hC 4 (ci := 10) rfl u10_in (by decide) mT_4_239 dX10_readLake_79 ka0 rfl rfl hbr ?_
              refine r_iload_n hC dX10_readLake_82 1 rfl ?_
              refine r_putiN hC 1 (ci := 9) rfl u9_in tyX9_ok nmX9 (by decide) nF_1 rfl rfl rfl dX10_readLake_83 krm rfl rfl (fun I70 eI70 => ?_)
              have hs70 := hs69.put0 eI70 krm rfl rfl rfl (by decide)
              have hF70 := hF69.put eI70 krm rfl
              refine r_aload_n hC dX10_readLake_86 3 rfl ?_
              refine r_getr hC 4 (ci := 10) rfl u10_in (by decide) mT_4_239 dX10_readLake_87 ka0 rfl rfl hbr ?_
              refine r_iload_n hC dX10_readLake_90 0 rfl ?_
              refine r_putiN hC 2 (ci := 9) rfl u9_in tyX9_ok nmX9 (by decide) nF_2 rfl rfl rfl dX10_readLake_91 krm rfl rfl (fun I71 eI71 => ?_)
              have hs71 := hs70.put0 eI71 krm rfl rfl rfl (by decide)
              have hF71 := hF70.put eI71 krm rfl
              have hG3 : I71 rm 3 = G3 := (Eq.trans (up2_at (Or.inr (by decide)) eI71) (Eq.trans (up2_at (Or.inr (by decide)) eI70) (Eq.trans (up2_at (Or.inr (by decide)) eI69) (Eq.trans (hf65.get krm rfl) (Eq.trans (hf38.get krm rfl) (Eq.trans (hf9.get krm rfl) (Eq.trans (hf5.get krm rfl) eG3.symm)))))))
              have hG3t : (I71 rm 3).toInt = G3.toInt := congrArg Int32.toInt hG3
              have hG4 : I71 rm 4 = G4 := (Eq.trans (up2_at (Or.inr (by decide)) eI71) (Eq.trans (up2_at (Or.inr (by decide)) eI70) (Eq.trans (up2_at (Or.inr (by decide)) eI69) (Eq.trans (hf65.get krm rfl) (Eq.trans (hf38.get krm rfl) (Eq.trans (hf9.get krm rfl) (Eq.trans (hf5.get krm rfl) eG4.symm)))))))
              have hG4t : (I71 rm 4).toInt = G4.toInt := congrArg Int32.toInt hG4
              have hG7 : I71 rm 7 = G7 := (Eq.trans (up2_at (Or.inr (by decide)) eI71) (Eq.trans (up2_at (Or.inr (by decide)) eI70) (Eq.trans (up2_at (Or.inr (by decide)) eI69) (Eq.trans (hf65.get krm rfl) (Eq.trans (hf38.get krm rfl) (Eq.trans (hf9.get krm rfl) (Eq.trans (hf5.get krm rfl) eG7.symm)))))))
              have hG7t : (I71 rm 7).toInt = G7.toInt := congrArg Int32.toInt hG7
              have hG8 : I71 rm 8 = G8 := (Eq.trans (up2_at (Or.inr (by decide)) eI71) (Eq.trans (up2_at (Or.inr (by decide)) eI70) (Eq.trans (up2_at (Or.inr (by decide)) eI69) (Eq.trans (hf65.get krm rfl) (Eq.trans (hf38.get krm rfl) (Eq.trans (hf9.get krm rfl) (Eq.trans (hf5.get krm rfl) eG8.symm)))))))
              have hG8t : (I71 rm 8).toInt = G8.toInt := congrArg Int32.toInt hG8
              have hG9 : I71 rm 9 = G9 := (Eq.trans (up2_at (Or.inr (by decide)) eI71) (Eq.trans (up2_at (Or.inr (by decide)) eI70) (Eq.trans (up2_at (Or.inr (by decide)) eI69) (Eq.trans (hf65.get krm rfl) (Eq.trans (hf38.get krm rfl) (Eq.trans (hf9.get krm rfl) (Eq.trans (hf5.get krm rfl) eG9.symm)))))))
              have hG9t : (I71 rm 9).toInt = G9.toInt := congrArg Int32.toInt hG9
              have hGN : I71 rm 10 = GN := (Eq.trans (up2_at (Or.inr (by decide)) eI71) (Eq.trans (up2_at (Or.inr (by decide)) eI70) (Eq.trans (up2_at (Or.inr (by decide)) eI69) (Eq.trans (hf65.get krm rfl) (Eq.trans (hf38.get krm rfl) (Eq.trans (hf9.get krm rfl) (Eq.trans (hf5.get krm rfl) eGN.symm)))))))
              have hGNt : (I71 rm 10).toInt = GN.toInt := congrArg Int32.toInt hGN
              have hv8 : I71 a0 8 = A9 := (Eq.trans (up2_kk eI71 krm ka0 (by decide)) (Eq.trans (up2_kk eI70 krm ka0 (by decide)) (Eq.trans (up2_kk eI69 krm ka0 (by decide)) eA9.symm)))
              have hv8t : (I71 a0 8).toInt = A9.toInt := congrArg Int32.toInt hv8
              have hv9 : I71 a0 9 = x66_ := (Eq.trans (up2_kk eI71 krm ka0 (by decide)) (Eq.trans (up2_kk eI70 krm ka0 (by decide)) (Eq.trans (up2_kk eI69 krm ka0 (by decide)) e66.symm)))
              have hv9t : (I71 a0 9).toInt = x66_.toInt := congrArg Int32.toInt hv9
              exact r_vret hC hQ hlk hr (by decide) (by decide) dX10_readLake_94 ⟨_, _, rfl, rfl, ⟨hs71, hF71, hFJ65, (by first | (left; omega) | (right; omega)), (by omega), (by omega), (by omega)⟩⟩
            · have hG3 : I65 rm 3 = G3 := (Eq.trans (hf65.get krm rfl) (Eq.trans (hf38.get krm rfl) (Eq.trans (hf9.get krm rfl) (Eq.trans (hf5.get krm rfl) eG3.symm))))
              have hG3t : (I65 rm 3).toInt = G3.toInt := congrArg Int32.toInt hG3
              have hG4 : I65 rm 4 = G4 := (Eq.trans (hf65.get krm rfl) (Eq.trans (hf38.get krm rfl) (Eq.trans (hf9.get krm rfl) (Eq.trans (hf5.get krm rfl) eG4.symm))))
              have hG4t : (I65 rm 4).toInt = G4.toInt := congrArg Int32.toInt hG4
              have hG7 : I65 rm 7 = G7 := (Eq.trans (hf65.get krm rfl) (Eq.trans (hf38.get krm rfl) (Eq.trans (hf9.get krm rfl) (Eq.trans (hf5.get krm rfl) eG7.symm))))
              have hG7t : (I65 rm 7).toInt = G7.toInt := congrArg Int32.toInt hG7
              have hG8 : I65 rm 8 = G8 := (Eq.trans (hf65.get krm rfl) (Eq.trans (hf38.get krm rfl) (Eq.trans (hf9.get krm rfl) (Eq.trans (hf5.get krm rfl) eG8.symm))))
              have hG8t : (I65 rm 8).toInt = G8.toInt := congrArg Int32.toInt hG8
              have hG9 : I65 rm 9 = G9 := (Eq.trans (hf65.get krm rfl) (Eq.trans (hf38.get krm rfl) (Eq.trans (hf9.get krm rfl) (Eq.trans (hf5.get krm rfl) eG9.symm))))
              have hG9t : (I65 rm 9).toInt = G9.toInt := congrArg Int32.toInt hG9
              have hGN : I65 rm 10 = GN := (Eq.trans (hf65.get krm rfl) (Eq.trans (hf38.get krm rfl) (Eq.trans (hf9.get krm rfl) (Eq.trans (hf5.get krm rfl) eGN.symm))))
              have hGNt : (I65 rm 10).toInt = GN.toInt := congrArg Int32.toInt hGN
              have hv8 : I65 a0 8 = A9 := eA9.symm
              have hv8t : (I65 a0 8).toInt = A9.toInt := congrArg Int32.toInt hv8
              have hv9 : I65 a0 9 = x66_ := e66.symm
              have hv9t : (I65 a0 9).toInt = x66_.toInt := congrArg Int32.toInt hv9
              exact r_vret hC hQ hlk hr (by decide) (by decide) dX10_readLake_69 ⟨_, _, rfl, rfl, ⟨hs65, hF65, hFJ65, (by first | (left; omega) | (right; omega)), (by omega), (by omega), (by omega)⟩⟩
          · replace k65_1 := k65_1 sf65
            clear k65_0 md64 sf38
            refine r_istore_n hC (lv' := [(3, .int x65_), (2, .int x38_), (1, .int x9_), (0, .ref a0)]) dX10_readLake_60 (by decide) rfl ?_
            refine r_aload_n hC dX10_readLake_61 3 rfl ?_
            obtain ⟨A9, eA9⟩ : ∃ z : Int32, z = I65 a0 8 := ⟨_, rfl⟩
            have fA9 : A9.toInt = (I65 a0 8).toInt := by rw [eA9]
            have rA9 := hs65.rng ka0 rfl eA9
            refine r_geti hC 9 (ci := 10) rfl u10_in (by decide) mT_5_4 dX10_readLake_62 ka0 rfl rfl (fun x72_ e72 => ?_)
            have f72 : x72_.toInt = (I65 a0 9).toInt := by rw [e72]
            refine r_iconst hC (v := (5)) dX10_readLake_65 (by decide) (by decide) (fun x73_ e73 t73 => ?_)
            refine r_icmp_ne hC (tgt := 70) dX10_readLake_66 (by decide) (fun c74 => ?_) (fun c74 => ?_)
            · refine r_aload_n hC dX10_readLake_70 3 rfl ?_
              refine r_getr hC 4 (ci := 10) rfl u10_in (by decide) mT_4_239 dX10_readLake_71 ka0 rfl rfl hbr ?_
              refine r_iload_n hC dX10_readLake_74 2 rfl ?_
              refine r_putiN hC 0 (ci := 9) rfl u9_in tyX9_ok nmX9 (by decide) nF_0 rfl rfl rfl dX10_readLake_75 krm rfl rfl (fun I75 eI75 => ?_)
              have hs75 := hs65.put0 eI75 krm rfl rfl rfl (by decide)
              have hF75 := hF65.put eI75 krm rfl
              refine r_aload_n hC dX10_readLake_78 3 rfl ?_
              refine r_getr hC 4 (ci := 10) rfl u10_in (by decide) mT_4_239 dX10_readLake_79 ka0 rfl rfl hbr ?_
              refine r_iload_n hC dX10_readLake_82 1 rfl ?_
              refine r_putiN hC 1 (ci := 9) rfl u9_in tyX9_ok nmX9 (by decide) nF_1 rfl rfl rfl dX10_readLake_83 krm rfl rfl (fun I76 eI76 => ?_)
              have hs76 := hs75.put0 eI76 krm rfl rfl rfl (by decide)
              have hF76 := hF75.put eI76 krm rfl
              refine r_aload_n hC dX10_readLake_86 3 rfl ?_
              refine r_getr hC 4 (ci := 10) rfl u10_in (by decide) mT_4_239 dX10_readLake_87 ka0 rfl rfl hbr ?_
              refine r_iload_n hC dX10_readLake_90 0 rfl ?_
              refine r_putiN hC 2 (ci := 9) rfl u9_in tyX9_ok nmX9 (by decide) nF_2 rfl rfl rfl dX10_readLake_91 krm rfl rfl (fun I77 eI77 => ?_)
              have hs77 := hs76.put0 eI77 krm rfl rfl rfl (by decide)
              have hF77 := hF76.put eI77 krm rfl
              have hG3 : I77 rm 3 = G3 := (Eq.trans (up2_at (Or.inr (by decide)) eI77) (Eq.trans (up2_at (Or.inr (by decide)) eI76) (Eq.trans (up2_at (Or.inr (by decide)) eI75) (Eq.trans (hf65.get krm rfl) (Eq.trans (hf38.get krm rfl) (Eq.trans (hf9.get krm rfl) (Eq.trans (hf5.get krm rfl) eG3.symm)))))))
              have hG3t : (I77 rm 3).toInt = G3.toInt := congrArg Int32.toInt hG3
              have hG4 : I77 rm 4 = G4 := (Eq.trans (up2_at (Or.inr (by decide)) eI77) (Eq.trans (up2_at (Or.inr (by decide)) eI76) (Eq.trans (up2_at (Or.inr (by decide)) eI75) (Eq.trans (hf65.get krm rfl) (Eq.trans (hf38.get krm rfl) (Eq.trans (hf9.get krm rfl) (Eq.trans (hf5.get krm rfl) eG4.symm)))))))
              have hG4t : (I77 rm 4).toInt = G4.toInt := congrArg Int32.toInt hG4
              have hG7 : I77 rm 7 = G7 := (Eq.trans (up2_at (Or.inr (by decide)) eI77) (Eq.trans (up2_at (Or.inr (by decide)) eI76) (Eq.trans (up2_at (Or.inr (by decide)) eI75) (Eq.trans (hf65.get krm rfl) (Eq.trans (hf38.get krm rfl) (Eq.trans (hf9.get krm rfl) (Eq.trans (hf5.get krm rfl) eG7.symm)))))))
              have hG7t : (I77 rm 7).toInt = G7.toInt := congrArg Int32.toInt hG7
              have hG8 : I77 rm 8 = G8 := (Eq.trans (up2_at (Or.inr (by decide)) eI77) (Eq.trans (up2_at (Or.inr (by decide)) eI76) (Eq.trans (up2_at (Or.inr (by decide)) eI75) (Eq.trans (hf65.get krm rfl) (Eq.trans (hf38.get krm rfl) (Eq.trans (hf9.get krm rfl) (Eq.trans (hf5.get krm rfl) eG8.symm)))))))
              have hG8t : (I77 rm 8).toInt = G8.toInt := congrArg Int32.toInt hG8
              have hG9 : I77 rm 9 = G9 := (Eq.trans (up2_at (Or.inr (by decide)) eI77) (Eq.trans (up2_at (Or.inr (by decide)) eI76) (Eq.trans (up2_at (Or.inr (by decide)) eI75) (Eq.trans (hf65.get krm rfl) (Eq.trans (hf38.get krm rfl) (Eq.trans (hf9.get krm rfl) (Eq.trans (hf5.get krm rfl) eG9.symm)))))))
              have hG9t : (I77 rm 9).toInt = G9.toInt := congrArg Int32.toInt hG9
              have hGN : I77 rm 10 = GN := (Eq.trans (up2_at (Or.inr (by decide)) eI77) (Eq.trans (up2_at (Or.inr (by decide)) eI76) (Eq.trans (up2_at (Or.inr (by decide)) eI75) (Eq.trans (hf65.get krm rfl) (Eq.trans (hf38.get krm rfl) (Eq.trans (hf9.get krm rfl) (Eq.trans (hf5.get krm rfl) eGN.symm)))))))
              have hGNt : (I77 rm 10).toInt = GN.toInt := congrArg Int32.toInt hGN
              have hv8 : I77 a0 8 = A9 := (Eq.trans (up2_kk eI77 krm ka0 (by decide)) (Eq.trans (up2_kk eI76 krm ka0 (by decide)) (Eq.trans (up2_kk eI75 krm ka0 (by decide)) eA9.symm)))
              have hv8t : (I77 a0 8).toInt = A9.toInt := congrArg Int32.toInt hv8
              have hv9 : I77 a0 9 = x72_ := (Eq.trans (up2_kk eI77 krm ka0 (by decide)) (Eq.trans (up2_kk eI76 krm ka0 (by decide)) (Eq.trans (up2_kk eI75 krm ka0 (by decide)) e72.symm)))
              have hv9t : (I77 a0 9).toInt = x72_.toInt := congrArg Int32.toInt hv9
              exact r_vret hC hQ hlk hr (by decide) (by decide) dX10_readLake_94 ⟨_, _, rfl, rfl, ⟨hs77, hF77, hFJ65, (by first | (left; omega) | (right; omega)), (by omega), (by omega), (by omega)⟩⟩
            · have hG3 : I65 rm 3 = G3 := (Eq.trans (hf65.get krm rfl) (Eq.trans (hf38.get krm rfl) (Eq.trans (hf9.get krm rfl) (Eq.trans (hf5.get krm rfl) eG3.symm))))
              have hG3t : (I65 rm 3).toInt = G3.toInt := congrArg Int32.toInt hG3
              have hG4 : I65 rm 4 = G4 := (Eq.trans (hf65.get krm rfl) (Eq.trans (hf38.get krm rfl) (Eq.trans (hf9.get krm rfl) (Eq.trans (hf5.get krm rfl) eG4.symm))))
              have hG4t : (I65 rm 4).toInt = G4.toInt := congrArg Int32.toInt hG4
              have hG7 : I65 rm 7 = G7 := (Eq.trans (hf65.get krm rfl) (Eq.trans (hf38.get krm rfl) (Eq.trans (hf9.get krm rfl) (Eq.trans (hf5.get krm rfl) eG7.symm))))
              have hG7t : (I65 rm 7).toInt = G7.toInt := congrArg Int32.toInt hG7
              have hG8 : I65 rm 8 = G8 := (Eq.trans (hf65.get krm rfl) (Eq.trans (hf38.get krm rfl) (Eq.trans (hf9.get krm rfl) (Eq.trans (hf5.get krm rfl) eG8.symm))))
              have hG8t : (I65 rm 8).toInt = G8.toInt := congrArg Int32.toInt hG8
              have hG9 : I65 rm 9 = G9 := (Eq.trans (hf65.get krm rfl) (Eq.trans (hf38.get krm rfl) (Eq.trans (hf9.get krm rfl) (Eq.trans (hf5.get krm rfl) eG9.symm))))
              have hG9t : (I65 rm 9).toInt = G9.toInt := congrArg Int32.toInt hG9
              have hGN : I65 rm 10 = GN := (Eq.trans (hf65.get krm rfl) (Eq.trans (hf38.get krm rfl) (Eq.trans (hf9.get krm rfl) (Eq.trans (hf5.get krm rfl) eGN.symm))))
              have hGNt : (I65 rm 10).toInt = GN.toInt := congrArg Int32.toInt hGN
              have hv8 : I65 a0 8 = A9 := eA9.symm
              have hv8t : (I65 a0 8).toInt = A9.toInt := congrArg Int32.toInt hv8
              have hv9 : I65 a0 9 = x72_ := e72.symm
              have hv9t : (I65 a0 9).toInt = x72_.toInt := congrArg Int32.toInt hv9
              exact r_vret hC hQ hlk hr (by decide) (by decide) dX10_readLake_69 ⟨_, _, rfl, rfl, ⟨hs65, hF65, hFJ65, (by first | (left; omega) | (right; omega)), (by omega), (by omega), (by omega)⟩⟩
        · refine r_iload_n hC dX10_readLake_49 1 rfl ?_
          refine r_goto hC (tgt := 54) dX10_readLake_50 (by decide) ?_
          refine r_sipush hC (v := (999)) dX10_readLake_54 (by decide) (by decide) (fun x78_ e78 t78 => ?_)
          have md79 : (I38 a0 9).toInt ≠ 5 := by omega
          refine r_callV hC (As := [.ref (g.2.2.1 34), .int x9_, .int x78_]) (rest := []) (ci := 10) (c_X10_readPart g (xL X) K len I38 J38 R hs38 a0 ka0 34 (by decide) x9_ x78_) mT_6_1 mT_1_10 mT_5_238 mT_6_0 mP_56 okX10_readPart ⟨by decide, by decide⟩ rfl (by show kO (K a0) = _; rw [ka0]; rfl) rfl rfl (Nat.le_of_ble_eq_true rfl) ⟨by decide, by decide⟩ dX10_readLake_57 (aI2 (F := fun st M => P g X 4 60 [(2, .int x38_), (1, .int x9_), (0, .ref a0)] st _ _ M) (M := (K, len, I38, J38, R)) fun x80_ I80 J80 h80 => ?_)
          obtain ⟨hs80, hf80, hfj80, k80_0, k80_1, k80_2, k80_3⟩ := h80
          show P g X 4 60 [(2, .int x38_), (1, .int x9_), (0, .ref a0)] [.int x80_] _ _ (K, len, I80, J80, R)
          have hF80 : Fr K [(10, 0), (10, 1), (10, 2), (11, 8), (11, 9), (11, 10), (11, 11), (11, 12), (11, 13)] I I80 := hF38.trans hf80 rfl rfl
          have hFJ80 : Fr K [(11, 14)] J J80 := hFJ38.trans hfj80 rfl rfl
          clear k38_3
          by_cases sf80 : (I80 a0 9).toInt = 5
          · clear k80_0 k80_1 k80_3 md79 sf38
            refine r_istore_n hC (lv' := [(3, .int x80_), (2, .int x38_), (1, .int x9_), (0, .ref a0)]) dX10_readLake_60 (by decide) rfl ?_
            refine r_aload_n hC dX10_readLake_61 3 rfl ?_
            obtain ⟨A9, eA9⟩ : ∃ z : Int32, z = I80 a0 8 := ⟨_, rfl⟩
            have fA9 : A9.toInt = (I80 a0 8).toInt := by rw [eA9]
            have rA9 := hs80.rng ka0 rfl eA9
            refine r_geti hC 9 (ci := 10) rfl u10_in (by decide) mT_5_4 dX10_readLake_62 ka0 rfl rfl (fun x81_ e81 => ?_)
            have f81 : x81_.toInt = (I80 a0 9).toInt := by rw [e81]
            refine r_iconst hC (v := (5)) dX10_readLake_65 (by decide) (by decide) (fun x82_ e82 t82 => ?_)
            refine r_icmp_ne hC (tgt := 70) dX10_readLake_66 (by decide) (fun c83 => ?_) (fun c83 => ?_)
            · refine r_aload_n hC dX10_readLake_70 3 rfl ?_
              refine r_getr hC 4 (ci := 10) rfl u10_in (by decide) mT_4_239 dX10_readLake_71 ka0 rfl rfl hbr ?_
              refine r_iload_n hC dX10_readLake_74 2 rfl ?_
              refine r_putiN hC 0 (ci := 9) rfl u9_in tyX9_ok nmX9 (by decide) nF_0 rfl rfl rfl dX10_readLake_75 krm rfl rfl (fun I84 eI84 => ?_)
              have hs84 := hs80.put0 eI84 krm rfl rfl rfl (by decide)
              have hF84 := hF80.put eI84 krm rfl
              refine r_aload_n hC dX10_readLake_78 3 rfl ?_
              refine r_getr hC 4 (ci := 10) rfl u10_in (by decide) mT_4_239 dX10_readLake_79 ka0 rfl rfl hbr ?_
              refine r_iload_n hC dX10_readLake_82 1 rfl ?_
              refine r_putiN hC 1 (ci := 9) rfl u9_in tyX9_ok nmX9 (by decide) nF_1 rfl rfl rfl dX10_readLake_83 krm rfl rfl (fun I85 eI85 => ?_)
              have hs85 := hs84.put0 eI85 krm rfl rfl rfl (by decide)
              have hF85 := hF84.put eI85 krm rfl
              refine r_aload_n hC dX10_readLake_86 3 rfl ?_
              refine r_getr hC 4 (ci := 10) rfl u10_in (by decide) mT_4_239 dX10_readLake_87 ka0 rfl rfl hbr ?_
              refine r_iload_n hC dX10_readLake_90 0 rfl ?_
              refine r_putiN hC 2 (ci := 9) rfl u9_in tyX9_ok nmX9 (by decide) nF_2 rfl rfl rfl dX10_readLake_91 krm rfl rfl (fun I86 eI86 => ?_)
              have hs86 := hs85.put0 eI86 krm rfl rfl rfl (by decide)
              have hF86 := hF85.put eI86 krm rfl
              have hG3 : I86 rm 3 = G3 := (Eq.trans (up2_at (Or.inr (by decide)) eI86) (Eq.trans (up2_at (Or.inr (by decide)) eI85) (Eq.trans (up2_at (Or.inr (by decide)) eI84) (Eq.trans (hf80.get krm rfl) (Eq.trans (hf38.get krm rfl) (Eq.trans (hf9.get krm rfl) (Eq.trans (hf5.get krm rfl) eG3.symm)))))))
              have hG3t : (I86 rm 3).toInt = G3.toInt := congrArg Int32.toInt hG3
              have hG4 : I86 rm 4 = G4 := (Eq.trans (up2_at (Or.inr (by decide)) eI86) (Eq.trans (up2_at (Or.inr (by decide)) eI85) (Eq.trans (up2_at (Or.inr (by decide)) eI84) (Eq.trans (hf80.get krm rfl) (Eq.trans (hf38.get krm rfl) (Eq.trans (hf9.get krm rfl) (Eq.trans (hf5.get krm rfl) eG4.symm)))))))
              have hG4t : (I86 rm 4).toInt = G4.toInt := congrArg Int32.toInt hG4
              have hG7 : I86 rm 7 = G7 := (Eq.trans (up2_at (Or.inr (by decide)) eI86) (Eq.trans (up2_at (Or.inr (by decide)) eI85) (Eq.trans (up2_at (Or.inr (by decide)) eI84) (Eq.trans (hf80.get krm rfl) (Eq.trans (hf38.get krm rfl) (Eq.trans (hf9.get krm rfl) (Eq.trans (hf5.get krm rfl) eG7.symm)))))))
              have hG7t : (I86 rm 7).toInt = G7.toInt := congrArg Int32.toInt hG7
              have hG8 : I86 rm 8 = G8 := (Eq.trans (up2_at (Or.inr (by decide)) eI86) (Eq.trans (up2_at (Or.inr (by decide)) eI85) (Eq.trans (up2_at (Or.inr (by decide)) eI84) (Eq.trans (hf80.get krm rfl) (Eq.trans (hf38.get krm rfl) (Eq.trans (hf9.get krm rfl) (Eq.trans (hf5.get krm rfl) eG8.symm)))))))
              have hG8t : (I86 rm 8).toInt = G8.toInt := congrArg Int32.toInt hG8
              have hG9 : I86 rm 9 = G9 := (Eq.trans (up2_at (Or.inr (by decide)) eI86) (Eq.trans (up2_at (Or.inr (by decide)) eI85) (Eq.trans (up2_at (Or.inr (by decide)) eI84) (Eq.trans (hf80.get krm rfl) (Eq.trans (hf38.get krm rfl) (Eq.trans (hf9.get krm rfl) (Eq.trans (hf5.get krm rfl) eG9.symm)))))))
              have hG9t : (I86 rm 9).toInt = G9.toInt := congrArg Int32.toInt hG9
              have hGN : I86 rm 10 = GN := (Eq.trans (up2_at (Or.inr (by decide)) eI86) (Eq.trans (up2_at (Or.inr (by decide)) eI85) (Eq.trans (up2_at (Or.inr (by decide)) eI84) (Eq.trans (hf80.get krm rfl) (Eq.trans (hf38.get krm rfl) (Eq.trans (hf9.get krm rfl) (Eq.trans (hf5.get krm rfl) eGN.symm)))))))
              have hGNt : (I86 rm 10).toInt = GN.toInt := congrArg Int32.toInt hGN
              have hv8 : I86 a0 8 = A9 := (Eq.trans (up2_kk eI86 krm ka0 (by decide)) (Eq.trans (up2_kk eI85 krm ka0 (by decide)) (Eq.trans (up2_kk eI84 krm ka0 (by decide)) eA9.symm)))
              have hv8t : (I86 a0 8).toInt = A9.toInt := congrArg Int32.toInt hv8
              have hv9 : I86 a0 9 = x81_ := (Eq.trans (up2_kk eI86 krm ka0 (by decide)) (Eq.trans (up2_kk eI85 krm ka0 (by decide)) (Eq.trans (up2_kk eI84 krm ka0 (by decide)) e81.symm)))
              have hv9t : (I86 a0 9).toInt = x81_.toInt := congrArg Int32.toInt hv9
              exact r_vret hC hQ hlk hr (by decide) (by decide) dX10_readLake_94 ⟨_, _, rfl, rfl, ⟨hs86, hF86, hFJ80, (by first | (left; omega) | (right; omega)), (by omega), (by omega), (by omega)⟩⟩
            · have hG3 : I80 rm 3 = G3 := (Eq.trans (hf80.get krm rfl) (Eq.trans (hf38.get krm rfl) (Eq.trans (hf9.get krm rfl) (Eq.trans (hf5.get krm rfl) eG3.symm))))
              have hG3t : (I80 rm 3).toInt = G3.toInt := congrArg Int32.toInt hG3
              have hG4 : I80 rm 4 = G4 := (Eq.trans (hf80.get krm rfl) (Eq.trans (hf38.get krm rfl) (Eq.trans (hf9.get krm rfl) (Eq.trans (hf5.get krm rfl) eG4.symm))))
              have hG4t : (I80 rm 4).toInt = G4.toInt := congrArg Int32.toInt hG4
              have hG7 : I80 rm 7 = G7 := (Eq.trans (hf80.get krm rfl) (Eq.trans (hf38.get krm rfl) (Eq.trans (hf9.get krm rfl) (Eq.trans (hf5.get krm rfl) eG7.symm))))
              have hG7t : (I80 rm 7).toInt = G7.toInt := congrArg Int32.toInt hG7
              have hG8 : I80 rm 8 = G8 := (Eq.trans (hf80.get krm rfl) (Eq.trans (hf38.get krm rfl) (Eq.trans (hf9.get krm rfl) (Eq.trans (hf5.get krm rfl) eG8.symm))))
              have hG8t : (I80 rm 8).toInt = G8.toInt := congrArg Int32.toInt hG8
              have hG9 : I80 rm 9 = G9 := (Eq.trans (hf80.get krm rfl) (Eq.trans (hf38.get krm rfl) (Eq.trans (hf9.get krm rfl) (Eq.trans (hf5.get krm rfl) eG9.symm))))
              have hG9t : (I80 rm 9).toInt = G9.toInt := congrArg Int32.toInt hG9
              have hGN : I80 rm 10 = GN := (Eq.trans (hf80.get krm rfl) (Eq.trans (hf38.get krm rfl) (Eq.trans (hf9.get krm rfl) (Eq.trans (hf5.get krm rfl) eGN.symm))))
              have hGNt : (I80 rm 10).toInt = GN.toInt := congrArg Int32.toInt hGN
              have hv8 : I80 a0 8 = A9 := eA9.symm
              have hv8t : (I80 a0 8).toInt = A9.toInt := congrArg Int32.toInt hv8
              have hv9 : I80 a0 9 = x81_ := e81.symm
              have hv9t : (I80 a0 9).toInt = x81_.toInt := congrArg Int32.toInt hv9
              exact r_vret hC hQ hlk hr (by decide) (by decide) dX10_readLake_69 ⟨_, _, rfl, rfl, ⟨hs80, hF80, hFJ80, (by first | (left; omega) | (right; omega)), (by omega), (by omega), (by omega)⟩⟩
          · replace k80_1 := k80_1 sf80
            clear k80_0 md79 sf38
            refine r_istore_n hC (lv' := [(3, .int x80_), (2, .int x38_), (1, .int x9_), (0, .ref a0)]) dX10_readLake_60 (by decide) rfl ?_
            refine r_aload_n hC dX10_readLake_61 3 rfl ?_
            obtain ⟨A9, eA9⟩ : ∃ z : Int32, z = I80 a0 8 := ⟨_, rfl⟩
            have fA9 : A9.toInt = (I80 a0 8).toInt := by rw [eA9]
            have rA9 := hs80.rng ka0 rfl eA9
            refine r_geti hC 9 (ci := 10) rfl u10_in (by decide) mT_5_4 dX10_readLake_62 ka0 rfl rfl (fun x87_ e87 => ?_)
            have f87 : x87_.toInt = (I80 a0 9).toInt := by rw [e87]
            refine r_iconst hC (v := (5)) dX10_readLake_65 (by decide) (by decide) (fun x88_ e88 t88 => ?_)
            refine r_icmp_ne hC (tgt := 70) dX10_readLake_66 (by decide) (fun c89 => ?_) (fun c89 => ?_)
            · refine r_aload_n hC dX10_readLake_70 3 rfl ?_
              refine r_getr hC 4 (ci := 10) rfl u10_in (by decide) mT_4_239 dX10_readLake_71 ka0 rfl rfl hbr ?_
              refine r_iload_n hC dX10_readLake_74 2 rfl ?_
              refine r_putiN hC 0 (ci := 9) rfl u9_in tyX9_ok nmX9 (by decide) nF_0 rfl rfl rfl dX10_readLake_75 krm rfl rfl (fun I90 eI90 => ?_)
              have hs90 := hs80.put0 eI90 krm rfl rfl rfl (by decide)
              have hF90 := hF80.put eI90 krm rfl
              refine r_aload_n hC dX10_readLake_78 3 rfl ?_
              refine r_getr hC 4 (ci := 10) rfl u10_in (by decide) mT_4_239 dX10_readLake_79 ka0 rfl rfl hbr ?_
              refine r_iload_n hC dX10_readLake_82 1 rfl ?_
              refine r_putiN hC 1 (ci := 9) rfl u9_in tyX9_ok nmX9 (by decide) nF_1 rfl rfl rfl dX10_readLake_83 krm rfl rfl (fun I91 eI91 => ?_)
              have hs91 := hs90.put0 eI91 krm rfl rfl rfl (by decide)
              have hF91 := hF90.put eI91 krm rfl
              refine r_aload_n hC dX10_readLake_86 3 rfl ?_
              refine r_getr hC 4 (ci := 10) rfl u10_in (by decide) mT_4_239 dX10_readLake_87 ka0 rfl rfl hbr ?_
              refine r_iload_n hC dX10_readLake_90 0 rfl ?_
              refine r_putiN hC 2 (ci := 9) rfl u9_in tyX9_ok nmX9 (by decide) nF_2 rfl rfl rfl dX10_readLake_91 krm rfl rfl (fun I92 eI92 => ?_)
              have hs92 := hs91.put0 eI92 krm rfl rfl rfl (by decide)
              have hF92 := hF91.put eI92 krm rfl
              have hG3 : I92 rm 3 = G3 := (Eq.trans (up2_at (Or.inr (by decide)) eI92) (Eq.trans (up2_at (Or.inr (by decide)) eI91) (Eq.trans (up2_at (Or.inr (by decide)) eI90) (Eq.trans (hf80.get krm rfl) (Eq.trans (hf38.get krm rfl) (Eq.trans (hf9.get krm rfl) (Eq.trans (hf5.get krm rfl) eG3.symm)))))))
              have hG3t : (I92 rm 3).toInt = G3.toInt := congrArg Int32.toInt hG3
              have hG4 : I92 rm 4 = G4 := (Eq.trans (up2_at (Or.inr (by decide)) eI92) (Eq.trans (up2_at (Or.inr (by decide)) eI91) (Eq.trans (up2_at (Or.inr (by decide)) eI90) (Eq.trans (hf80.get krm rfl) (Eq.trans (hf38.get krm rfl) (Eq.trans (hf9.get krm rfl) (Eq.trans (hf5.get krm rfl) eG4.symm)))))))
              have hG4t : (I92 rm 4).toInt = G4.toInt := congrArg Int32.toInt hG4
              have hG7 : I92 rm 7 = G7 := (Eq.trans (up2_at (Or.inr (by decide)) eI92) (Eq.trans (up2_at (Or.inr (by decide)) eI91) (Eq.trans (up2_at (Or.inr (by decide)) eI90) (Eq.trans (hf80.get krm rfl) (Eq.trans (hf38.get krm rfl) (Eq.trans (hf9.get krm rfl) (Eq.trans (hf5.get krm rfl) eG7.symm)))))))
              have hG7t : (I92 rm 7).toInt = G7.toInt := congrArg Int32.toInt hG7
              have hG8 : I92 rm 8 = G8 := (Eq.trans (up2_at (Or.inr (by decide)) eI92) (Eq.trans (up2_at (Or.inr (by decide)) eI91) (Eq.trans (up2_at (Or.inr (by decide)) eI90) (Eq.trans (hf80.get krm rfl) (Eq.trans (hf38.get krm rfl) (Eq.trans (hf9.get krm rfl) (Eq.trans (hf5.get krm rfl) eG8.symm)))))))
              have hG8t : (I92 rm 8).toInt = G8.toInt := congrArg Int32.toInt hG8
              have hG9 : I92 rm 9 = G9 := (Eq.trans (up2_at (Or.inr (by decide)) eI92) (Eq.trans (up2_at (Or.inr (by decide)) eI91) (Eq.trans (up2_at (Or.inr (by decide)) eI90) (Eq.trans (hf80.get krm rfl) (Eq.trans (hf38.get krm rfl) (Eq.trans (hf9.get krm rfl) (Eq.trans (hf5.get krm rfl) eG9.symm)))))))
              have hG9t : (I92 rm 9).toInt = G9.toInt := congrArg Int32.toInt hG9
              have hGN : I92 rm 10 = GN := (Eq.trans (up2_at (Or.inr (by decide)) eI92) (Eq.trans (up2_at (Or.inr (by decide)) eI91) (Eq.trans (up2_at (Or.inr (by decide)) eI90) (Eq.trans (hf80.get krm rfl) (Eq.trans (hf38.get krm rfl) (Eq.trans (hf9.get krm rfl) (Eq.trans (hf5.get krm rfl) eGN.symm)))))))
              have hGNt : (I92 rm 10).toInt = GN.toInt := congrArg Int32.toInt hGN
              have hv8 : I92 a0 8 = A9 := (Eq.trans (up2_kk eI92 krm ka0 (by decide)) (Eq.trans (up2_kk eI91 krm ka0 (by decide)) (Eq.trans (up2_kk eI90 krm ka0 (by decide)) eA9.symm)))
              have hv8t : (I92 a0 8).toInt = A9.toInt := congrArg Int32.toInt hv8
              have hv9 : I92 a0 9 = x87_ := (Eq.trans (up2_kk eI92 krm ka0 (by decide)) (Eq.trans (up2_kk eI91 krm ka0 (by decide)) (Eq.trans (up2_kk eI90 krm ka0 (by decide)) e87.symm)))
              have hv9t : (I92 a0 9).toInt = x87_.toInt := congrArg Int32.toInt hv9
              exact r_vret hC hQ hlk hr (by decide) (by decide) dX10_readLake_94 ⟨_, _, rfl, rfl, ⟨hs92, hF92, hFJ80, (by first | (left; omega) | (right; omega)), (by omega), (by omega), (by omega)⟩⟩
            · have hG3 : I80 rm 3 = G3 := (Eq.trans (hf80.get krm rfl) (Eq.trans (hf38.get krm rfl) (Eq.trans (hf9.get krm rfl) (Eq.trans (hf5.get krm rfl) eG3.symm))))
              have hG3t : (I80 rm 3).toInt = G3.toInt := congrArg Int32.toInt hG3
              have hG4 : I80 rm 4 = G4 := (Eq.trans (hf80.get krm rfl) (Eq.trans (hf38.get krm rfl) (Eq.trans (hf9.get krm rfl) (Eq.trans (hf5.get krm rfl) eG4.symm))))
              have hG4t : (I80 rm 4).toInt = G4.toInt := congrArg Int32.toInt hG4
              have hG7 : I80 rm 7 = G7 := (Eq.trans (hf80.get krm rfl) (Eq.trans (hf38.get krm rfl) (Eq.trans (hf9.get krm rfl) (Eq.trans (hf5.get krm rfl) eG7.symm))))
              have hG7t : (I80 rm 7).toInt = G7.toInt := congrArg Int32.toInt hG7
              have hG8 : I80 rm 8 = G8 := (Eq.trans (hf80.get krm rfl) (Eq.trans (hf38.get krm rfl) (Eq.trans (hf9.get krm rfl) (Eq.trans (hf5.get krm rfl) eG8.symm))))
              have hG8t : (I80 rm 8).toInt = G8.toInt := congrArg Int32.toInt hG8
              have hG9 : I80 rm 9 = G9 := (Eq.trans (hf80.get krm rfl) (Eq.trans (hf38.get krm rfl) (Eq.trans (hf9.get krm rfl) (Eq.trans (hf5.get krm rfl) eG9.symm))))
              have hG9t : (I80 rm 9).toInt = G9.toInt := congrArg Int32.toInt hG9
              have hGN : I80 rm 10 = GN := (Eq.trans (hf80.get krm rfl) (Eq.trans (hf38.get krm rfl) (Eq.trans (hf9.get krm rfl) (Eq.trans (hf5.get krm rfl) eGN.symm))))
              have hGNt : (I80 rm 10).toInt = GN.toInt := congrArg Int32.toInt hGN
              have hv8 : I80 a0 8 = A9 := eA9.symm
              have hv8t : (I80 a0 8).toInt = A9.toInt := congrArg Int32.toInt hv8
              have hv9 : I80 a0 9 = x87_ := e87.symm
              have hv9t : (I80 a0 9).toInt = x87_.toInt := congrArg Int32.toInt hv9
              exact r_vret hC hQ hlk hr (by decide) (by decide) dX10_readLake_69 ⟨_, _, rfl, rfl, ⟨hs80, hF80, hFJ80, (by first | (left; omega) | (right; omega)), (by omega), (by omega), (by omega)⟩⟩
  · refine r_aload_n hC dX10_readLake_11 0 rfl ?_
    refine r_iconst hC (v := (3)) dX10_readLake_12 (by decide) (by decide) (fun x93_ e93 t93 => ?_)
    have md94 : (I a0 9).toInt ≠ 5 := by omega
    refine r_callV hC (As := [.int x93_]) (rest := []) (ci := 10) (c_X10_wrong g (xL X) K len I J R hs a0 ka0 x93_) mT_5_236 mT_1_10 mT_5_233 mT_5_235 mP_55 okX10_wrong ⟨by decide, by decide⟩ rfl (by show kO (K a0) = _; rw [ka0]; rfl) rfl rfl (Nat.le_of_ble_eq_true rfl) ⟨by decide, by decide⟩ dX10_readLake_13 (aV1 (F := fun st M => P g X 4 16 [(0, .ref a0)] st _ _ M) (M := (K, len, I, J, R)) fun I95 h95 => ?_)
    obtain ⟨hs95, hf95, k95_0, k95_1⟩ := h95
    show P g X 4 16 [(0, .ref a0)] [] _ _ (K, len, I95, J, R)
    have hF95 : Fr K [(10, 0), (10, 1), (10, 2), (11, 8), (11, 9), (11, 10), (11, 11), (11, 12), (11, 13)] I I95 := hF.trans hf95 rfl rfl
    clear md94
    refine r_aload_n hC dX10_readLake_16 0 rfl ?_
    have md96 : (I95 a0 9).toInt = 5 := by omega
    refine r_callV hC (As := []) (rest := []) (ci := 10) (c_X10_goesOn g (xL X) K len I95 J R hs95 a0 ka0) mT_5_199 mT_1_10 mT_5_196 mT_5_198 mP_49 okX10_goesOn ⟨by decide, by decide⟩ rfl (by show kO (K a0) = _; rw [ka0]; rfl) rfl rfl (Nat.le_of_ble_eq_true rfl) ⟨by decide, by decide⟩ dX10_readLake_17 (aV2 (F := fun st M => P g X 4 20 [(0, .ref a0)] st _ _ M) (M := (K, len, I95, J, R)) fun I97 J97 h97 => ?_)
    obtain ⟨hs97, hf97, hfj97, k97_0, k97_1, k97_2, k97_3⟩ := h97
    show P g X 4 20 [(0, .ref a0)] [] _ _ (K, len, I97, J97, R)
    have hF97 : Fr K [(10, 0), (10, 1), (10, 2), (11, 8), (11, 9), (11, 10), (11, 11), (11, 12), (11, 13)] I I97 := hF95.trans hf97 rfl rfl
    have hFJ97 : Fr K [(11, 14)] J J97 := hFJ.trans hfj97 rfl rfl
    have sf97 := k97_0 md96
    clear k97_0 k97_1 k97_3 md96
    refine r_aload_n hC dX10_readLake_20 0 rfl ?_
    refine r_ldcS hC (i := 32) (by decide) rfl rfl dX10_readLake_21 ?_
    refine r_iconst hC (v := (0)) dX10_readLake_23 (by decide) (by decide) (fun x98_ e98 t98 => ?_)
    refine r_sipush hC (v := (500)) dX10_readLake_24 (by decide) (by decide) (fun x99_ e99 t99 => ?_)
    have md100 : (I97 a0 9).toInt = 5 := by omega
    refine r_callV hC (As := [.ref (g.2.2.1 32), .int x98_, .int x99_]) (rest := []) (ci := 10) (c_X10_readPart g (xL X) K len I97 J97 R hs97 a0 ka0 32 (by decide) x98_ x99_) mT_6_1 mT_1_10 mT_5_238 mT_6_0 mP_56 okX10_readPart ⟨by decide, by decide⟩ rfl (by show kO (K a0) = _; rw [ka0]; rfl) rfl rfl (Nat.le_of_ble_eq_true rfl) ⟨by decide, by decide⟩ dX10_readLake_27 (aI2 (F := fun st M => P g X 4 30 [(0, .ref a0)] st _ _ M) (M := (K, len, I97, J97, R)) fun x101_ I101 J101 h101 => ?_)
    obtain ⟨hs101, hf101, hfj101, k101_0, k101_1, k101_2, k101_3⟩ := h101
    show P g X 4 30 [(0, .ref a0)] [.int x101_] _ _ (K, len, I101, J101, R)
    have hF101 : Fr K [(10, 0), (10, 1), (10, 2), (11, 8), (11, 9), (11, 10), (11, 11), (11, 12), (11, 13)] I I101 := hF97.trans hf101 rfl rfl
    have hFJ101 : Fr K [(11, 14)] J J101 := hFJ97.trans hfj101 rfl rfl
    have sf101 := k101_0 md100
    clear k101_0 k101_1 k101_3 md100 sf97
    refine r_istore_n hC (lv' := [(1, .int x101_), (0, .ref a0)]) dX10_readLake_30 (by decide) rfl ?_
    refine r_aload_n hC dX10_readLake_31 1 rfl ?_
    refine r_ldcS hC (i := 33) (by decide) rfl rfl dX10_readLake_32 ?_
    refine r_iconst hC (v := (1)) dX10_readLake_34 (by decide) (by decide) (fun x102_ e102 t102 => ?_)
    refine r_bipush hC (v := (50)) dX10_readLake_35 (by decide) (by decide) (fun x103_ e103 t103 => ?_)
    have md104 : (I101 a0 9).toInt = 5 := by omega
    refine r_callV hC (As := [.ref (g.2.2.1 33), .int x102_, .int x103_]) (rest := []) (ci := 10) (c_X10_readPart g (xL X) K len I101 J101 R hs101 a0 ka0 33 (by decide) x102_ x103_) mT_6_1 mT_1_10 mT_5_238 mT_6_0 mP_56 okX10_readPart ⟨by decide, by decide⟩ rfl (by show kO (K a0) = _; rw [ka0]; rfl) rfl rfl (Nat.le_of_ble_eq_true rfl) ⟨by decide, by decide⟩ dX10_readLake_37 (aI2 (F := fun st M => P g X 4 40 [(1, .int x101_), (0, .ref a0)] st _ _ M) (M := (K, len, I101, J101, R)) fun x105_ I105 J105 h105 => ?_)
    obtain ⟨hs105, hf105, hfj105, k105_0, k105_1, k105_2, k105_3⟩ := h105
    show P g X 4 40 [(1, .int x101_), (0, .ref a0)] [.int x105_] _ _ (K, len, I105, J105, R)
    have hF105 : Fr K [(10, 0), (10, 1), (10, 2), (11, 8), (11, 9), (11, 10), (11, 11), (11, 12), (11, 13)] I I105 := hF101.trans hf105 rfl rfl
    have hFJ105 : Fr K [(11, 14)] J J105 := hFJ101.trans hfj105 rfl rfl
    have sf105 := k105_0 md104
    clear k105_0 k105_1 k105_3 md104 sf101
    refine r_istore_n hC (lv' := [(2, .int x105_), (1, .int x101_), (0, .ref a0)]) dX10_readLake_40 (by decide) rfl ?_
    refine r_aload_n hC dX10_readLake_41 2 rfl ?_
    refine r_ldcS hC (i := 34) (by decide) rfl rfl dX10_readLake_42 ?_
    refine r_iload_n hC dX10_readLake_44 1 rfl ?_
    refine r_iconst hC (v := (1)) dX10_readLake_45 (by decide) (by decide) (fun x106_ e106 t106 => ?_)
    refine r_icmp_le hC (tgt := 53) dX10_readLake_46 (by decide) (fun c107 => ?_) (fun c107 => ?_)
    · refine r_iconst hC (v := (1)) dX10_readLake_53 (by decide) (by decide) (fun x108_ e108 t108 => ?_)
      refine r_sipush hC (v := (999)) dX10_readLake_54 (by decide) (by decide) (fun x109_ e109 t109 => ?_)
      have md110 : (I105 a0 9).toInt = 5 := by omega
      refine r_callV hC (As := [.ref (g.2.2.1 34), .int x108_, .int x109_]) (rest := []) (ci := 10) (c_X10_readPart g (xL X) K len I105 J105 R hs105 a0 ka0 34 (by decide) x108_ x109_) mT_6_1 mT_1_10 mT_5_238 mT_6_0 mP_56 okX10_readPart ⟨by decide, by decide⟩ rfl (by show kO (K a0) = _; rw [ka0]; rfl) rfl rfl (Nat.le_of_ble_eq_true rfl) ⟨by decide, by decide⟩ dX10_readLake_57 (aI2 (F := fun st M => P g X 4 60 [(2, .int x105_), (1, .int x101_), (0, .ref a0)] st _ _ M) (M := (K, len, I105, J105, R)) fun x111_ I111 J111 h111 => ?_)
      obtain ⟨hs111, hf111, hfj111, k111_0, k111_1, k111_2, k111_3⟩ := h111
      show P g X 4 60 [(2, .int x105_), (1, .int x101_), (0, .ref a0)] [.int x111_] _ _ (K, len, I111, J111, R)
      have hF111 : Fr K [(10, 0), (10, 1), (10, 2), (11, 8), (11, 9), (11, 10), (11, 11), (11, 12), (11, 13)] I I111 := hF105.trans hf111 rfl rfl
      have hFJ111 : Fr K [(11, 14)] J J111 := hFJ105.trans hfj111 rfl rfl
      have sf111 := k111_0 md110
      clear k111_0 k111_1 k111_3 md110 sf105
      refine r_istore_n hC (lv' := [(3, .int x111_), (2, .int x105_), (1, .int x101_), (0, .ref a0)]) dX10_readLake_60 (by decide) rfl ?_
      refine r_aload_n hC dX10_readLake_61 3 rfl ?_
      obtain ⟨A9, eA9⟩ : ∃ z : Int32, z = I111 a0 8 := ⟨_, rfl⟩
      have fA9 : A9.toInt = (I111 a0 8).toInt := by rw [eA9]
      have rA9 := hs111.rng ka0 rfl eA9
      refine r_geti hC 9 (ci := 10) rfl u10_in (by decide) mT_5_4 dX10_readLake_62 ka0 rfl rfl (fun x112_ e112 => ?_)
      have f112 : x112_.toInt = (I111 a0 9).toInt := by rw [e112]
      refine r_iconst hC (v := (5)) dX10_readLake_65 (by decide) (by decide) (fun x113_ e113 t113 => ?_)
      refine r_icmp_ne hC (tgt := 70) dX10_readLake_66 (by decide) (fun c114 => ?_) (fun c114 => ?_)
      · refine r_aload_n hC dX10_readLake_70 3 rfl ?_
        refine r_getr hC 4 (ci := 10) rfl u10_in (by decide) mT_4_239 dX10_readLake_71 ka0 rfl rfl hbr ?_
        refine r_iload_n hC dX10_readLake_74 2 rfl ?_
        refine r_putiN hC 0 (ci := 9) rfl u9_in tyX9_ok nmX9 (by decide) nF_0 rfl rfl rfl dX10_readLake_75 krm rfl rfl (fun I115 eI115 => ?_)
        have hs115 := hs111.put0 eI115 krm rfl rfl rfl (by decide)
        have hF115 := hF111.put eI115 krm rfl
        refine r_aload_n hC dX10_readLake_78 3 rfl ?_
        refine r_getr hC 4 (ci := 10) rfl u10_in (by decide) mT_4_239 dX10_readLake_79 ka0 rfl rfl hbr ?_
        refine r_iload_n hC dX10_readLake_82 1 rfl ?_
        refine r_putiN hC 1 (ci := 9) rfl u9_in tyX9_ok nmX9 (by decide) nF_1 rfl rfl rfl dX10_readLake_83 krm rfl rfl (fun I116 eI116 => ?_)
        have hs116 := hs115.put0 eI116 krm rfl rfl rfl (by decide)
        have hF116 := hF115.put eI116 krm rfl
        refine r_aload_n hC dX10_readLake_86 3 rfl ?_
        refine r_getr hC 4 (ci := 10) rfl u10_in (by decide) mT_4_239 dX10_readLake_87 ka0 rfl rfl hbr ?_
        refine r_iload_n hC dX10_readLake_90 0 rfl ?_
        refine r_putiN hC 2 (ci := 9) rfl u9_in tyX9_ok nmX9 (by decide) nF_2 rfl rfl rfl dX10_readLake_91 krm rfl rfl (fun I117 eI117 => ?_)
        have hs117 := hs116.put0 eI117 krm rfl rfl rfl (by decide)
        have hF117 := hF116.put eI117 krm rfl
        have hG3 : I117 rm 3 = G3 := (Eq.trans (up2_at (Or.inr (by decide)) eI117) (Eq.trans (up2_at (Or.inr (by decide)) eI116) (Eq.trans (up2_at (Or.inr (by decide)) eI115) (Eq.trans (hf111.get krm rfl) (Eq.trans (hf105.get krm rfl) (Eq.trans (hf101.get krm rfl) (Eq.trans (hf97.get krm rfl) (Eq.trans (hf95.get krm rfl) eG3.symm))))))))
        have hG3t : (I117 rm 3).toInt = G3.toInt := congrArg Int32.toInt hG3
        have hG4 : I117 rm 4 = G4 := (Eq.trans (up2_at (Or.inr (by decide)) eI117) (Eq.trans (up2_at (Or.inr (by decide)) eI116) (Eq.trans (up2_at (Or.inr (by decide)) eI115) (Eq.trans (hf111.get krm rfl) (Eq.trans (hf105.get krm rfl) (Eq.trans (hf101.get krm rfl) (Eq.trans (hf97.get krm rfl) (Eq.trans (hf95.get krm rfl) eG4.symm))))))))
        have hG4t : (I117 rm 4).toInt = G4.toInt := congrArg Int32.toInt hG4
        have hG7 : I117 rm 7 = G7 := (Eq.trans (up2_at (Or.inr (by decide)) eI117) (Eq.trans (up2_at (Or.inr (by decide)) eI116) (Eq.trans (up2_at (Or.inr (by decide)) eI115) (Eq.trans (hf111.get krm rfl) (Eq.trans (hf105.get krm rfl) (Eq.trans (hf101.get krm rfl) (Eq.trans (hf97.get krm rfl) (Eq.trans (hf95.get krm rfl) eG7.symm))))))))
        have hG7t : (I117 rm 7).toInt = G7.toInt := congrArg Int32.toInt hG7
        have hG8 : I117 rm 8 = G8 := (Eq.trans (up2_at (Or.inr (by decide)) eI117) (Eq.trans (up2_at (Or.inr (by decide)) eI116) (Eq.trans (up2_at (Or.inr (by decide)) eI115) (Eq.trans (hf111.get krm rfl) (Eq.trans (hf105.get krm rfl) (Eq.trans (hf101.get krm rfl) (Eq.trans (hf97.get krm rfl) (Eq.trans (hf95.get krm rfl) eG8.symm))))))))
        have hG8t : (I117 rm 8).toInt = G8.toInt := congrArg Int32.toInt hG8
        have hG9 : I117 rm 9 = G9 := (Eq.trans (up2_at (Or.inr (by decide)) eI117) (Eq.trans (up2_at (Or.inr (by decide)) eI116) (Eq.trans (up2_at (Or.inr (by decide)) eI115) (Eq.trans (hf111.get krm rfl) (Eq.trans (hf105.get krm rfl) (Eq.trans (hf101.get krm rfl) (Eq.trans (hf97.get krm rfl) (Eq.trans (hf95.get krm rfl) eG9.symm))))))))
        have hG9t : (I117 rm 9).toInt = G9.toInt := congrArg Int32.toInt hG9
        have hGN : I117 rm 10 = GN := (Eq.trans (up2_at (Or.inr (by decide)) eI117) (Eq.trans (up2_at (Or.inr (by decide)) eI116) (Eq.trans (up2_at (Or.inr (by decide)) eI115) (Eq.trans (hf111.get krm rfl) (Eq.trans (hf105.get krm rfl) (Eq.trans (hf101.get krm rfl) (Eq.trans (hf97.get krm rfl) (Eq.trans (hf95.get krm rfl) eGN.symm))))))))
        have hGNt : (I117 rm 10).toInt = GN.toInt := congrArg Int32.toInt hGN
        have hv8 : I117 a0 8 = A9 := (Eq.trans (up2_kk eI117 krm ka0 (by decide)) (Eq.trans (up2_kk eI116 krm ka0 (by decide)) (Eq.trans (up2_kk eI115 krm ka0 (by decide)) eA9.symm)))
        have hv8t : (I117 a0 8).toInt = A9.toInt := congrArg Int32.toInt hv8
        have hv9 : I117 a0 9 = x112_ := (Eq.trans (up2_kk eI117 krm ka0 (by decide)) (Eq.trans (up2_kk eI116 krm ka0 (by decide)) (Eq.trans (up2_kk eI115 krm ka0 (by decide)) e112.symm)))
        have hv9t : (I117 a0 9).toInt = x112_.toInt := congrArg Int32.toInt hv9
        exact r_vret hC hQ hlk hr (by decide) (by decide) dX10_readLake_94 ⟨_, _, rfl, rfl, ⟨hs117, hF117, hFJ111, (by first | (left; omega) | (right; omega)), (by omega), (by omega), (by omega)⟩⟩
      · have hG3 : I111 rm 3 = G3 := (Eq.trans (hf111.get krm rfl) (Eq.trans (hf105.get krm rfl) (Eq.trans (hf101.get krm rfl) (Eq.trans (hf97.get krm rfl) (Eq.trans (hf95.get krm rfl) eG3.symm)))))
        have hG3t : (I111 rm 3).toInt = G3.toInt := congrArg Int32.toInt hG3
        have hG4 : I111 rm 4 = G4 := (Eq.trans (hf111.get krm rfl) (Eq.trans (hf105.get krm rfl) (Eq.trans (hf101.get krm rfl) (Eq.trans (hf97.get krm rfl) (Eq.trans (hf95.get krm rfl) eG4.symm)))))
        have hG4t : (I111 rm 4).toInt = G4.toInt := congrArg Int32.toInt hG4
        have hG7 : I111 rm 7 = G7 := (Eq.trans (hf111.get krm rfl) (Eq.trans (hf105.get krm rfl) (Eq.trans (hf101.get krm rfl) (Eq.trans (hf97.get krm rfl) (Eq.trans (hf95.get krm rfl) eG7.symm)))))
        have hG7t : (I111 rm 7).toInt = G7.toInt := congrArg Int32.toInt hG7
        have hG8 : I111 rm 8 = G8 := (Eq.trans (hf111.get krm rfl) (Eq.trans (hf105.get krm rfl) (Eq.trans (hf101.get krm rfl) (Eq.trans (hf97.get krm rfl) (Eq.trans (hf95.get krm rfl) eG8.symm)))))
        have hG8t : (I111 rm 8).toInt = G8.toInt := congrArg Int32.toInt hG8
        have hG9 : I111 rm 9 = G9 := (Eq.trans (hf111.get krm rfl) (Eq.trans (hf105.get krm rfl) (Eq.trans (hf101.get krm rfl) (Eq.trans (hf97.get krm rfl) (Eq.trans (hf95.get krm rfl) eG9.symm)))))
        have hG9t : (I111 rm 9).toInt = G9.toInt := congrArg Int32.toInt hG9
        have hGN : I111 rm 10 = GN := (Eq.trans (hf111.get krm rfl) (Eq.trans (hf105.get krm rfl) (Eq.trans (hf101.get krm rfl) (Eq.trans (hf97.get krm rfl) (Eq.trans (hf95.get krm rfl) eGN.symm)))))
        have hGNt : (I111 rm 10).toInt = GN.toInt := congrArg Int32.toInt hGN
        have hv8 : I111 a0 8 = A9 := eA9.symm
        have hv8t : (I111 a0 8).toInt = A9.toInt := congrArg Int32.toInt hv8
        have hv9 : I111 a0 9 = x112_ := e112.symm
        have hv9t : (I111 a0 9).toInt = x112_.toInt := congrArg Int32.toInt hv9
        exact r_vret hC hQ hlk hr (by decide) (by decide) dX10_readLake_69 ⟨_, _, rfl, rfl, ⟨hs111, hF111, hFJ111, (by first | (left; omega) | (right; omega)), (by omega), (by omega), (by omega)⟩⟩
    · refine r_iload_n hC dX10_readLake_49 1 rfl ?_
      refine r_goto hC (tgt := 54) dX10_readLake_50 (by decide) ?_
      refine r_sipush hC (v := (999)) dX10_readLake_54 (by decide) (by decide) (fun x118_ e118 t118 => ?_)
      have md119 : (I105 a0 9).toInt = 5 := by omega
      refine r_callV hC (As := [.ref (g.2.2.1 34), .int x101_, .int x118_]) (rest := []) (ci := 10) (c_X10_readPart g (xL X) K len I105 J105 R hs105 a0 ka0 34 (by decide) x101_ x118_) mT_6_1 mT_1_10 mT_5_238 mT_6_0 mP_56 okX10_readPart ⟨by decide, by decide⟩ rfl (by show kO (K a0) = _; rw [ka0]; rfl) rfl rfl (Nat.le_of_ble_eq_true rfl) ⟨by decide, by decide⟩ dX10_readLake_57 (aI2 (F := fun st M => P g X 4 60 [(2, .int x105_), (1, .int x101_), (0, .ref a0)] st _ _ M) (M := (K, len, I105, J105, R)) fun x120_ I120 J120 h120 => ?_)
      obtain ⟨hs120, hf120, hfj120, k120_0, k120_1, k120_2, k120_3⟩ := h120
      show P g X 4 60 [(2, .int x105_), (1, .int x101_), (0, .ref a0)] [.int x120_] _ _ (K, len, I120, J120, R)
      have hF120 : Fr K [(10, 0), (10, 1), (10, 2), (11, 8), (11, 9), (11, 10), (11, 11), (11, 12), (11, 13)] I I120 := hF105.trans hf120 rfl rfl
      have hFJ120 : Fr K [(11, 14)] J J120 := hFJ105.trans hfj120 rfl rfl
      have sf120 := k120_0 md119
      clear k120_0 k120_1 k120_3 md119 sf105
      refine r_istore_n hC (lv' := [(3, .int x120_), (2, .int x105_), (1, .int x101_), (0, .ref a0)]) dX10_readLake_60 (by decide) rfl ?_
      refine r_aload_n hC dX10_readLake_61 3 rfl ?_
      obtain ⟨A9, eA9⟩ : ∃ z : Int32, z = I120 a0 8 := ⟨_, rfl⟩
      have fA9 : A9.toInt = (I120 a0 8).toInt := by rw [eA9]
      have rA9 := hs120.rng ka0 rfl eA9
      refine r_geti hC 9 (ci := 10) rfl u10_in (by decide) mT_5_4 dX10_readLake_62 ka0 rfl rfl (fun x121_ e121 => ?_)
      have f121 : x121_.toInt = (I120 a0 9).toInt := by rw [e121]
      refine r_iconst hC (v := (5)) dX10_readLake_65 (by decide) (by decide) (fun x122_ e122 t122 => ?_)
      refine r_icmp_ne hC (tgt := 70) dX10_readLake_66 (by decide) (fun c123 => ?_) (fun c123 => ?_)
      · refine r_aload_n hC dX10_readLake_70 3 rfl ?_
        refine r_getr hC 4 (ci := 10) rfl u10_in (by decide) mT_4_239 dX10_readLake_71 ka0 rfl rfl hbr ?_
        refine r_iload_n hC dX10_readLake_74 2 rfl ?_
        refine r_putiN hC 0 (ci := 9) rfl u9_in tyX9_ok nmX9 (by decide) nF_0 rfl rfl rfl dX10_readLake_75 krm rfl rfl (fun I124 eI124 => ?_)
        have hs124 := hs120.put0 eI124 krm rfl rfl rfl (by decide)
        have hF124 := hF120.put eI124 krm rfl
        refine r_aload_n hC dX10_readLake_78 3 rfl ?_
        refine r_getr hC 4 (ci := 10) rfl u10_in (by decide) mT_4_239 dX10_readLake_79 ka0 rfl rfl hbr ?_
        refine r_iload_n hC dX10_readLake_82 1 rfl ?_
        refine r_putiN hC 1 (ci := 9) rfl u9_in tyX9_ok nmX9 (by decide) nF_1 rfl rfl rfl dX10_readLake_83 krm rfl rfl (fun I125 eI125 => ?_)
        have hs125 := hs124.put0 eI125 krm rfl rfl rfl (by decide)
        have hF125 := hF124.put eI125 krm rfl
        refine r_aload_n hC dX10_readLake_86 3 rfl ?_
        refine r_getr hC 4 (ci := 10) rfl u10_in (by decide) mT_4_239 dX10_readLake_87 ka0 rfl rfl hbr ?_
        refine r_iload_n hC dX10_readLake_90 0 rfl ?_
        refine r_putiN hC 2 (ci := 9) rfl u9_in tyX9_ok nmX9 (by decide) nF_2 rfl rfl rfl dX10_readLake_91 krm rfl rfl (fun I126 eI126 => ?_)
        have hs126 := hs125.put0 eI126 krm rfl rfl rfl (by decide)
        have hF126 := hF125.put eI126 krm rfl
        have hG3 : I126 rm 3 = G3 := (Eq.trans (up2_at (Or.inr (by decide)) eI126) (Eq.trans (up2_at (Or.inr (by decide)) eI125) (Eq.trans (up2_at (Or.inr (by decide)) eI124) (Eq.trans (hf120.get krm rfl) (Eq.trans (hf105.get krm rfl) (Eq.trans (hf101.get krm rfl) (Eq.trans (hf97.get krm rfl) (Eq.trans (hf95.get krm rfl) eG3.symm))))))))
        have hG3t : (I126 rm 3).toInt = G3.toInt := congrArg Int32.toInt hG3
        have hG4 : I126 rm 4 = G4 := (Eq.trans (up2_at (Or.inr (by decide)) eI126) (Eq.trans (up2_at (Or.inr (by decide)) eI125) (Eq.trans (up2_at (Or.inr (by decide)) eI124) (Eq.trans (hf120.get krm rfl) (Eq.trans (hf105.get krm rfl) (Eq.trans (hf101.get krm rfl) (Eq.trans (hf97.get krm rfl) (Eq.trans (hf95.get krm rfl) eG4.symm))))))))
        have hG4t : (I126 rm 4).toInt = G4.toInt := congrArg Int32.toInt hG4
        have hG7 : I126 rm 7 = G7 := (Eq.trans (up2_at (Or.inr (by decide)) eI126) (Eq.trans (up2_at (Or.inr (by decide)) eI125) (Eq.trans (up2_at (Or.inr (by decide)) eI124) (Eq.trans (hf120.get krm rfl) (Eq.trans (hf105.get krm rfl) (Eq.trans (hf101.get krm rfl) (Eq.trans (hf97.get krm rfl) (Eq.trans (hf95.get krm rfl) eG7.symm))))))))
        have hG7t : (I126 rm 7).toInt = G7.toInt := congrArg Int32.toInt hG7
        have hG8 : I126 rm 8 = G8 := (Eq.trans (up2_at (Or.inr (by decide)) eI126) (Eq.trans (up2_at (Or.inr (by decide)) eI125) (Eq.trans (up2_at (Or.inr (by decide)) eI124) (Eq.trans (hf120.get krm rfl) (Eq.trans (hf105.get krm rfl) (Eq.trans (hf101.get krm rfl) (Eq.trans (hf97.get krm rfl) (Eq.trans (hf95.get krm rfl) eG8.symm))))))))
        have hG8t : (I126 rm 8).toInt = G8.toInt := congrArg Int32.toInt hG8
        have hG9 : I126 rm 9 = G9 := (Eq.trans (up2_at (Or.inr (by decide)) eI126) (Eq.trans (up2_at (Or.inr (by decide)) eI125) (Eq.trans (up2_at (Or.inr (by decide)) eI124) (Eq.trans (hf120.get krm rfl) (Eq.trans (hf105.get krm rfl) (Eq.trans (hf101.get krm rfl) (Eq.trans (hf97.get krm rfl) (Eq.trans (hf95.get krm rfl) eG9.symm))))))))
        have hG9t : (I126 rm 9).toInt = G9.toInt := congrArg Int32.toInt hG9
        have hGN : I126 rm 10 = GN := (Eq.trans (up2_at (Or.inr (by decide)) eI126) (Eq.trans (up2_at (Or.inr (by decide)) eI125) (Eq.trans (up2_at (Or.inr (by decide)) eI124) (Eq.trans (hf120.get krm rfl) (Eq.trans (hf105.get krm rfl) (Eq.trans (hf101.get krm rfl) (Eq.trans (hf97.get krm rfl) (Eq.trans (hf95.get krm rfl) eGN.symm))))))))
        have hGNt : (I126 rm 10).toInt = GN.toInt := congrArg Int32.toInt hGN
        have hv8 : I126 a0 8 = A9 := (Eq.trans (up2_kk eI126 krm ka0 (by decide)) (Eq.trans (up2_kk eI125 krm ka0 (by decide)) (Eq.trans (up2_kk eI124 krm ka0 (by decide)) eA9.symm)))
        have hv8t : (I126 a0 8).toInt = A9.toInt := congrArg Int32.toInt hv8
        have hv9 : I126 a0 9 = x121_ := (Eq.trans (up2_kk eI126 krm ka0 (by decide)) (Eq.trans (up2_kk eI125 krm ka0 (by decide)) (Eq.trans (up2_kk eI124 krm ka0 (by decide)) e121.symm)))
        have hv9t : (I126 a0 9).toInt = x121_.toInt := congrArg Int32.toInt hv9
        exact r_vret hC hQ hlk hr (by decide) (by decide) dX10_readLake_94 ⟨_, _, rfl, rfl, ⟨hs126, hF126, hFJ120, (by first | (left; omega) | (right; omega)), (by omega), (by omega), (by omega)⟩⟩
      · have hG3 : I120 rm 3 = G3 := (Eq.trans (hf120.get krm rfl) (Eq.trans (hf105.get krm rfl) (Eq.trans (hf101.get krm rfl) (Eq.trans (hf97.get krm rfl) (Eq.trans (hf95.get krm rfl) eG3.symm)))))
        have hG3t : (I120 rm 3).toInt = G3.toInt := congrArg Int32.toInt hG3
        have hG4 : I120 rm 4 = G4 := (Eq.trans (hf120.get krm rfl) (Eq.trans (hf105.get krm rfl) (Eq.trans (hf101.get krm rfl) (Eq.trans (hf97.get krm rfl) (Eq.trans (hf95.get krm rfl) eG4.symm)))))
        have hG4t : (I120 rm 4).toInt = G4.toInt := congrArg Int32.toInt hG4
        have hG7 : I120 rm 7 = G7 := (Eq.trans (hf120.get krm rfl) (Eq.trans (hf105.get krm rfl) (Eq.trans (hf101.get krm rfl) (Eq.trans (hf97.get krm rfl) (Eq.trans (hf95.get krm rfl) eG7.symm)))))
        have hG7t : (I120 rm 7).toInt = G7.toInt := congrArg Int32.toInt hG7
        have hG8 : I120 rm 8 = G8 := (Eq.trans (hf120.get krm rfl) (Eq.trans (hf105.get krm rfl) (Eq.trans (hf101.get krm rfl) (Eq.trans (hf97.get krm rfl) (Eq.trans (hf95.get krm rfl) eG8.symm)))))
        have hG8t : (I120 rm 8).toInt = G8.toInt := congrArg Int32.toInt hG8
        have hG9 : I120 rm 9 = G9 := (Eq.trans (hf120.get krm rfl) (Eq.trans (hf105.get krm rfl) (Eq.trans (hf101.get krm rfl) (Eq.trans (hf97.get krm rfl) (Eq.trans (hf95.get krm rfl) eG9.symm)))))
        have hG9t : (I120 rm 9).toInt = G9.toInt := congrArg Int32.toInt hG9
        have hGN : I120 rm 10 = GN := (Eq.trans (hf120.get krm rfl) (Eq.trans (hf105.get krm rfl) (Eq.trans (hf101.get krm rfl) (Eq.trans (hf97.get krm rfl) (Eq.trans (hf95.get krm rfl) eGN.symm)))))
        have hGNt : (I120 rm 10).toInt = GN.toInt := congrArg Int32.toInt hGN
        have hv8 : I120 a0 8 = A9 := eA9.symm
        have hv8t : (I120 a0 8).toInt = A9.toInt := congrArg Int32.toInt hv8
        have hv9 : I120 a0 9 = x121_ := e121.symm
        have hv9t : (I120 a0 9).toInt = x121_.toInt := congrArg Int32.toInt hv9
        exact r_vret hC hQ hlk hr (by decide) (by decide) dX10_readLake_69 ⟨_, _, rfl, rfl, ⟨hs120, hF120, hFJ120, (by first | (left; omega) | (right; omega)), (by omega), (by omega), (by omega)⟩⟩
set_option maxHeartbeats 4000000 in
set_option maxRecDepth 100000 in
theorem c_X10_readPeg (g : GG) (l : Launch) (K len : Nat → Nat) (I : Nat → Nat → Int32) (J : Nat → Nat → Int64) (R : Nat → Nat → Option Nat) (hs : Sf K len I R) (a0 : Nat) (ka0 : K a0 = 11) (rm : Nat) (hbr : R a0 4 = some rm) (krm : K rm = 10) (p0 : (I a0 9).toInt = 2) (p1 : (I rm 10).toInt ≤ (I rm 3).toInt + (I rm 7).toInt + (I rm 8).toInt + (I rm 9).toInt) (p2 : (I rm 4).toInt ≤ 8) : Ct g l yX10_readPeg cX10_readPeg 3 (Option.none : Option Jvm.ClassFile.FieldType) rmX10_readPeg [.ref a0] (K, len, I, J, R) (pV2 (K, len, I, J, R) (fun I' J' => Sf K len I' R ∧ Fr K [(10, 3), (10, 10), (11, 8), (11, 9), (11, 10), (11, 11), (11, 12), (11, 13), (70, 999), (71, 999), (83, 999), (84, 999)] I I' ∧ Fr K [(11, 14), (82, 999)] J J' ∧ ((I' a0 9).toInt = 5 ∨ (I' rm 10).toInt ≤ (I' rm 3).toInt + (I' rm 7).toInt + (I' rm 8).toInt + (I' rm 9).toInt) ∧ ((I' rm 4).toInt ≤ 8) ∧ ((I a0 8).toInt ≤ (I' a0 8).toInt) ∧ ((I' a0 9).toInt = 4 → (I a0 8).toInt < (I' a0 8).toInt))) := by
  refine Ct_intro (by decide +kernel) (Nat.le_of_ble_eq_true rfl) (fun X hC hL hKK hNm hr hlk hQ => ?_)
  subst hL
  have hC : Cx g X cX10_readPeg "HillTapModel" 3 rmX10_readPeg := hC
  show P g X 3 0 [(0, .ref a0)] [] 0 0 (K, len, I, J, R)
  have hF : Fr K [(10, 3), (10, 10), (11, 8), (11, 9), (11, 10), (11, 11), (11, 12), (11, 13), (70, 999), (71, 999), (83, 999), (84, 999)] I I := Fr.refl
  have hFJ : Fr K [(11, 14), (82, 999)] J J := Fr.refl
  obtain ⟨G3, eG3⟩ : ∃ z : Int32, z = I rm 3 := ⟨_, rfl⟩
  have fG3 : G3.toInt = (I rm 3).toInt := by rw [eG3]
  have rG3 := hs.rng krm rfl eG3
  obtain ⟨G4, eG4⟩ : ∃ z : Int32, z = I rm 4 := ⟨_, rfl⟩
  have fG4 : G4.toInt = (I rm 4).toInt := by rw [eG4]
  have rG4 := hs.rng krm rfl eG4
  obtain ⟨G7, eG7⟩ : ∃ z : Int32, z = I rm 7 := ⟨_, rfl⟩
  have fG7 : G7.toInt = (I rm 7).toInt := by rw [eG7]
  have rG7 := hs.rng krm rfl eG7
  obtain ⟨G8, eG8⟩ : ∃ z : Int32, z = I rm 8 := ⟨_, rfl⟩
  have fG8 : G8.toInt = (I rm 8).toInt := by rw [eG8]
  have rG8 := hs.rng krm rfl eG8
  obtain ⟨G9, eG9⟩ : ∃ z : Int32, z = I rm 9 := ⟨_, rfl⟩
  have fG9 : G9.toInt = (I rm 9).toInt := by rw [eG9]
  have rG9 := hs.rng krm rfl eG9
  obtain ⟨GN, eGN⟩ : ∃ z : Int32, z = I rm 10 := ⟨_, rfl⟩
  have fGN : GN.toInt = (I rm 10).toInt := by rw [eGN]
  have rGN := hs.rng krm rfl eGN
  obtain ⟨A0, eA0⟩ : ∃ z : Int32, z = I a0 8 := ⟨_, rfl⟩
  have fA0 : A0.toInt = (I a0 8).toInt := by rw [eA0]
  have rA0 := hs.rng ka0 rfl eA0
  obtain ⟨T0, eT0⟩ : ∃ z : Int32, z = I a0 9 := ⟨_, rfl⟩
  have fT0 : T0.toInt = (I a0 9).toInt := by rw [eT0]
  refine r_aload_n hC dX10_readPeg_0 0 rfl ?_
  refine r_aload_n hC dX10_readPeg_1 0 rfl ?_
  refine r_getr hC 4 (ci := 10) rfl u10_in (by decide) mT_4_239 dX10_readPeg_2 ka0 rfl rfl hbr ?_
  refine r_getiN hC 3 (ci := 9) rfl u9_in (by decide) nF_3 dX10_readPeg_5 krm rfl rfl (fun x1_ e1 => ?_)
  have r1 := hs.rng krm rfl e1
  have f1 : x1_.toInt = (I rm 3).toInt := by rw [e1]
  have w1 : x1_ = G3 := by rw [e1]; exact eG3.symm
  have wt1 : x1_.toInt = G3.toInt := by rw [w1]
  refine r_iconst hC (v := (5)) dX10_readPeg_8 (by decide) (by decide) (fun x2_ e2 t2 => ?_)
  have md3 : (I a0 9).toInt ≠ 5 := by omega
  refine r_callV hC (As := [.int x1_, .int x2_]) (rest := []) (ci := 10) (c_X10_begins g (xL X) K len I J R hs a0 ka0 x1_ x2_) mT_6_19 mT_1_10 mT_6_16 mT_6_18 mP_59 okX10_begins ⟨by decide, by decide⟩ rfl (by show kO (K a0) = _; rw [ka0]; rfl) rfl rfl (Nat.le_of_ble_eq_true rfl) ⟨by decide, by decide⟩ dX10_readPeg_9 (aV2 (F := fun st M => P g X 3 12 [(0, .ref a0)] st _ _ M) (M := (K, len, I, J, R)) fun I4 J4 h4 => ?_)
  obtain ⟨hs4, hf4, hfj4, k4_0, k4_1, k4_2, k4_3⟩ := h4
  show P g X 3 12 [(0, .ref a0)] [] _ _ (K, len, I4, J4, R)
  have hF4 : Fr K [(10, 3), (10, 10), (11, 8), (11, 9), (11, 10), (11, 11), (11, 12), (11, 13), (70, 999), (71, 999), (83, 999), (84, 999)] I I4 := hF.trans hf4 rfl rfl
  have hFJ4 : Fr K [(11, 14), (82, 999)] J J4 := hFJ.trans hfj4 rfl rfl
  by_cases sf4 : (I4 a0 9).toInt = 5
  · clear k4_0 k4_1 k4_3 md3
    refine r_aload_n hC dX10_readPeg_12 0 rfl ?_
    refine r_iconst hC (v := (0)) dX10_readPeg_13 (by decide) (by decide) (fun x5_ e5 t5 => ?_)
    refine r_aload_n hC dX10_readPeg_14 0 rfl ?_
    refine r_getr hC 4 (ci := 10) rfl u10_in (by decide) mT_4_239 dX10_readPeg_15 ka0 rfl rfl hbr ?_
    refine r_getiN hC 3 (ci := 9) rfl u9_in (by decide) nF_3 dX10_readPeg_18 krm rfl rfl (fun x6_ e6 => ?_)
    have r6 := hs4.rng krm rfl e6
    have f6 : x6_.toInt = (I4 rm 3).toInt := by rw [e6]
    have w6 : x6_ = x1_ := by rw [e6]; exact (Eq.trans (hf4.get krm rfl) e1.symm)
    have wt6 : x6_.toInt = x1_.toInt := by rw [w6]
    have qG3 : I4 rm 3 = x6_ := e6.symm
    have qG3t : (I4 rm 3).toInt = x6_.toInt := congrArg Int32.toInt qG3
    have qG4 : I4 rm 4 = G4 := (Eq.trans (hf4.get krm rfl) eG4.symm)
    have qG4t : (I4 rm 4).toInt = G4.toInt := congrArg Int32.toInt qG4
    have qG7 : I4 rm 7 = G7 := (Eq.trans (hf4.get krm rfl) eG7.symm)
    have qG7t : (I4 rm 7).toInt = G7.toInt := congrArg Int32.toInt qG7
    have qG8 : I4 rm 8 = G8 := (Eq.trans (hf4.get krm rfl) eG8.symm)
    have qG8t : (I4 rm 8).toInt = G8.toInt := congrArg Int32.toInt qG8
    have qG9 : I4 rm 9 = G9 := (Eq.trans (hf4.get krm rfl) eG9.symm)
    have qG9t : (I4 rm 9).toInt = G9.toInt := congrArg Int32.toInt qG9
    have qGN : I4 rm 10 = GN := (Eq.trans (hf4.get krm rfl) eGN.symm)
    have qGNt : (I4 rm 10).toInt = GN.toInt := congrArg Int32.toInt qGN
    have md7 : (I4 a0 9).toInt = 5 := by omega
    refine r_callV hC (As := [.int x5_, .int x6_]) (rest := []) (ci := 10) (c_X10_readFresh g (xL X) K len I4 J4 R hs4 a0 ka0 x5_ x6_ rm hbr krm (by first | (left; omega) | (right; omega))) mT_6_23 mT_1_10 mT_6_20 mT_6_22 mP_60 okX10_readFresh ⟨by decide, by decide⟩ rfl (by show kO (K a0) = _; rw [ka0]; rfl) rfl rfl (Nat.le_of_ble_eq_true rfl) ⟨by decide, by decide⟩ dX10_readPeg_21 (aV2 (F := fun st M => P g X 3 24 [(0, .ref a0)] st _ _ M) (M := (K, len, I4, J4, R)) fun I8 J8 h8 => ?_)
    obtain ⟨hs8, hf8, hfj8, k8_0, k8_1, k8_2, k8_3⟩ := h8
    show P g X 3 24 [(0, .ref a0)] [] _ _ (K, len, I8, J8, R)
    have hF8 : Fr K [(10, 3), (10, 10), (11, 8), (11, 9), (11, 10), (11, 11), (11, 12), (11, 13), (70, 999), (71, 999), (83, 999), (84, 999)] I I8 := hF4.trans hf8 rfl rfl
    have hFJ8 : Fr K [(11, 14), (82, 999)] J J8 := hFJ4.trans hfj8 rfl rfl
    have sf8 := k8_0 md7
    clear k8_0 k8_2 md7 sf4
    obtain ⟨N1, eN1⟩ : ∃ z : Int32, z = I8 rm 10 := ⟨_, rfl⟩
    have fN1 : N1.toInt = (I8 rm 10).toInt := by rw [eN1]
    have rN1 := hs8.rng krm rfl eN1
    refine r_aload_n hC dX10_readPeg_24 0 rfl ?_
    refine r_ldcS hC (i := 41) (by decide) rfl rfl dX10_readPeg_25 ?_
    refine r_iconst hC (v := (0)) dX10_readPeg_27 (by decide) (by decide) (fun x9_ e9 t9 => ?_)
    refine r_sipush hC (v := (999)) dX10_readPeg_28 (by decide) (by decide) (fun x10_ e10 t10 => ?_)
    have md11 : (I8 a0 9).toInt = 5 := by omega
    refine r_callV hC (As := [.ref (g.2.2.1 41), .int x9_, .int x10_]) (rest := []) (ci := 10) (c_X10_readPart g (xL X) K len I8 J8 R hs8 a0 ka0 41 (by decide) x9_ x10_) mT_6_1 mT_1_10 mT_5_238 mT_6_0 mP_56 okX10_readPart ⟨by decide, by decide⟩ rfl (by show kO (K a0) = _; rw [ka0]; rfl) rfl rfl (Nat.le_of_ble_eq_true rfl) ⟨by decide, by decide⟩ dX10_readPeg_31 (aI2 (F := fun st M => P g X 3 34 [(0, .ref a0)] st _ _ M) (M := (K, len, I8, J8, R)) fun x12_ I12 J12 h12 => ?_)
    obtain ⟨hs12, hf12, hfj12, k12_0, k12_1, k12_2, k12_3⟩ := h12
    show P g X 3 34 [(0, .ref a0)] [.int x12_] _ _ (K, len, I12, J12, R)
    have hF12 : Fr K [(10, 3), (10, 10), (11, 8), (11, 9), (11, 10), (11, 11), (11, 12), (11, 13), (70, 999), (71, 999), (83, 999), (84, 999)] I I12 := hF8.trans hf12 rfl rfl
    have hFJ12 : Fr K [(11, 14), (82, 999)] J J12 := hFJ8.trans hfj12 rfl rfl
    have sf12 := k12_0 md11
    clear k12_0 k12_1 k12_3 md11 sf8
    refine r_istore_n hC (lv' := [(1, .int x12_), (0, .ref a0)]) dX10_readPeg_34 (by decide) rfl ?_
    refine r_aload_n hC dX10_readPeg_35 1 rfl ?_
    refine r_ldcS hC (i := 42) (by decide) rfl rfl dX10_readPeg_36 ?_
    refine r_iconst hC (v := (0)) dX10_readPeg_38 (by decide) (by decide) (fun x13_ e13 t13 => ?_)
    refine r_sipush hC (v := (999)) dX10_readPeg_39 (by decide) (by decide) (fun x14_ e14 t14 => ?_)
    have md15 : (I12 a0 9).toInt = 5 := by omega
    refine r_callV hC (As := [.ref (g.2.2.1 42), .int x13_, .int x14_]) (rest := []) (ci := 10) (c_X10_readPart g (xL X) K len I12 J12 R hs12 a0 ka0 42 (by decide) x13_ x14_) mT_6_1 mT_1_10 mT_5_238 mT_6_0 mP_56 okX10_readPart ⟨by decide, by decide⟩ rfl (by show kO (K a0) = _; rw [ka0]; rfl) rfl rfl (Nat.le_of_ble_eq_true rfl) ⟨by decide, by decide⟩ dX10_readPeg_42 (aI2 (F := fun st M => P g X 3 45 [(1, .int x12_), (0, .ref a0)] st _ _ M) (M := (K, len, I12, J12, R)) fun x16_ I16 J16 h16 => ?_)
    obtain ⟨hs16, hf16, hfj16, k16_0, k16_1, k16_2, k16_3⟩ := h16
    show P g X 3 45 [(1, .int x12_), (0, .ref a0)] [.int x16_] _ _ (K, len, I16, J16, R)
    have hF16 : Fr K [(10, 3), (10, 10), (11, 8), (11, 9), (11, 10), (11, 11), (11, 12), (11, 13), (70, 999), (71, 999), (83, 999), (84, 999)] I I16 := hF12.trans hf16 rfl rfl
    have hFJ16 : Fr K [(11, 14), (82, 999)] J J16 := hFJ12.trans hfj16 rfl rfl
    have sf16 := k16_0 md15
    clear k16_0 k16_1 k16_3 md15 sf12
    refine r_istore_n hC (lv' := [(2, .int x16_), (1, .int x12_), (0, .ref a0)]) dX10_readPeg_45 (by decide) rfl ?_
    refine r_aload_n hC dX10_readPeg_46 2 rfl ?_
    obtain ⟨A9, eA9⟩ : ∃ z : Int32, z = I16 a0 8 := ⟨_, rfl⟩
    have fA9 : A9.toInt = (I16 a0 8).toInt := by rw [eA9]
    have rA9 := hs16.rng ka0 rfl eA9
    refine r_geti hC 9 (ci := 10) rfl u10_in (by decide) mT_5_4 dX10_readPeg_47 ka0 rfl rfl (fun x17_ e17 => ?_)
    have f17 : x17_.toInt = (I16 a0 9).toInt := by rw [e17]
    refine r_iconst hC (v := (5)) dX10_readPeg_50 (by decide) (by decide) (fun x18_ e18 t18 => ?_)
    refine r_icmp_ne hC (tgt := 55) dX10_readPeg_51 (by decide) (fun c19 => ?_) (fun c19 => ?_)
    · refine r_aload_n hC dX10_readPeg_55 2 rfl ?_
      refine r_getr hC 4 (ci := 10) rfl u10_in (by decide) mT_4_239 dX10_readPeg_56 ka0 rfl rfl hbr ?_
      obtain ⟨a20_, hb20, hk20, hn20⟩ := hs16.row krm 11 70 5 (by decide) (by decide)
      refine r_getrN hC 11 (ci := 9) rfl u9_in (by decide) nF_11 dX10_readPeg_59 krm rfl rfl hb20 ?_
      refine r_aload_n hC dX10_readPeg_62 2 rfl ?_
      refine r_getr hC 4 (ci := 10) rfl u10_in (by decide) mT_4_239 dX10_readPeg_63 ka0 rfl rfl hbr ?_
      refine r_getiN hC 3 (ci := 9) rfl u9_in (by decide) nF_3 dX10_readPeg_66 krm rfl rfl (fun x21_ e21 => ?_)
      have r21 := hs16.rng krm rfl e21
      have f21 : x21_.toInt = (I16 rm 3).toInt := by rw [e21]
      have w21 : x21_ = x6_ := by rw [e21]; exact (Eq.trans (hf16.get krm rfl) (Eq.trans (hf12.get krm rfl) (Eq.trans (hf8.get krm rfl) e6.symm)))
      have wt21 : x21_.toInt = x6_.toInt := by rw [w21]
      refine r_iload_n hC dX10_readPeg_69 1 rfl ?_
      refine x_iastore hC hk20 hn20 (by decide) rfl rfl dX10_readPeg_70 (by omega) (by omega) (fun I22 eI22 => ?_)
      have hs22 := hs16.put0 eI22 hk20 (rng_arr (by decide) _) rfl (xF_arr (by decide) _) (by decide)
      have hF22 := hF16.put eI22 hk20 (inS_arr rfl _)
      refine r_aload_n hC dX10_readPeg_71 2 rfl ?_
      refine r_getr hC 4 (ci := 10) rfl u10_in (by decide) mT_4_239 dX10_readPeg_72 ka0 rfl rfl hbr ?_
      obtain ⟨a23_, hb23, hk23, hn23⟩ := hs22.row krm 12 71 5 (by decide) (by decide)
      refine r_getrN hC 12 (ci := 9) rfl u9_in (by decide) nF_12 dX10_readPeg_75 krm rfl rfl hb23 ?_
      refine r_aload_n hC dX10_readPeg_78 2 rfl ?_
      refine r_getr hC 4 (ci := 10) rfl u10_in (by decide) mT_4_239 dX10_readPeg_79 ka0 rfl rfl hbr ?_
      refine r_getiN hC 3 (ci := 9) rfl u9_in (by decide) nF_3 dX10_readPeg_82 krm rfl rfl (fun x24_ e24 => ?_)
      have r24 := hs22.rng krm rfl e24
      have f24 : x24_.toInt = (I22 rm 3).toInt := by rw [e24]
      have w24 : x24_ = x21_ := by rw [e24]; exact (Eq.trans (up2_kk eI22 hk20 krm (by decide)) e21.symm)
      have wt24 : x24_.toInt = x21_.toInt := by rw [w24]
      refine r_iload_n hC dX10_readPeg_85 0 rfl ?_
      refine x_iastore hC hk23 hn23 (by decide) rfl rfl dX10_readPeg_86 (by omega) (by omega) (fun I25 eI25 => ?_)
      have hs25 := hs22.put0 eI25 hk23 (rng_arr (by decide) _) rfl (xF_arr (by decide) _) (by decide)
      have hF25 := hF22.put eI25 hk23 (inS_arr rfl _)
      refine r_aload_n hC dX10_readPeg_87 2 rfl ?_
      refine r_getr hC 4 (ci := 10) rfl u10_in (by decide) mT_4_239 dX10_readPeg_88 ka0 rfl rfl hbr ?_
      refine r_dup hC dX10_readPeg_91 rfl ?_
      refine r_getiN hC 3 (ci := 9) rfl u9_in (by decide) nF_3 dX10_readPeg_92 krm rfl rfl (fun x26_ e26 => ?_)
      have r26 := hs25.rng krm rfl e26
      have f26 : x26_.toInt = (I25 rm 3).toInt := by rw [e26]
      have w26 : x26_ = x24_ := by rw [e26]; exact (Eq.trans (up2_kk eI25 hk23 krm (by decide)) e24.symm)
      have wt26 : x26_.toInt = x24_.toInt := by rw [w26]
      refine r_iconst hC (v := (1)) dX10_readPeg_95 (by decide) (by decide) (fun x27_ e27 t27 => ?_)
      refine r_iadd hC dX10_readPeg_96 (fun x28_ e28 => ?_)
      try have t28 : x28_.toInt = x26_.toInt + x27_.toInt := by rw [e28]; exact ti_add (by omega) (by omega)
      refine r_putiN hC 3 (ci := 9) rfl u9_in tyX9_ok nmX9 (by decide) nF_3 rfl rfl rfl dX10_readPeg_97 krm rfl rfl (fun I29 eI29 => ?_)
      have hs29 := hs25.put1 eI29 krm rfl (by omega) (by omega) rfl rfl (by decide)
      have hF29 := hF25.put eI29 krm rfl
      have hG3 : I29 rm 3 = x28_ := (by rw [eI29]; exact up2_self _ _ _ _)
      have hG3t : (I29 rm 3).toInt = x28_.toInt := congrArg Int32.toInt hG3
      have hG4 : I29 rm 4 = G4 := (Eq.trans (up2_at (Or.inr (by decide)) eI29) (Eq.trans (up2_kk eI25 hk23 krm (by decide)) (Eq.trans (up2_kk eI22 hk20 krm (by decide)) (Eq.trans (hf16.get krm rfl) (Eq.trans (hf12.get krm rfl) (Eq.trans (hf8.get krm rfl) (Eq.trans (hf4.get krm rfl) eG4.symm)))))))
      have hG4t : (I29 rm 4).toInt = G4.toInt := congrArg Int32.toInt hG4
      have hG7 : I29 rm 7 = G7 := (Eq.trans (up2_at (Or.inr (by decide)) eI29) (Eq.trans (up2_kk eI25 hk23 krm (by decide)) (Eq.trans (up2_kk eI22 hk20 krm (by decide)) (Eq.trans (hf16.get krm rfl) (Eq.trans (hf12.get krm rfl) (Eq.trans (hf8.get krm rfl) (Eq.trans (hf4.get krm rfl) eG7.symm)))))))
      have hG7t : (I29 rm 7).toInt = G7.toInt := congrArg Int32.toInt hG7
      have hG8 : I29 rm 8 = G8 := (Eq.trans (up2_at (Or.inr (by decide)) eI29) (Eq.trans (up2_kk eI25 hk23 krm (by decide)) (Eq.trans (up2_kk eI22 hk20 krm (by decide)) (Eq.trans (hf16.get krm rfl) (Eq.trans (hf12.get krm rfl) (Eq.trans (hf8.get krm rfl) (Eq.trans (hf4.get krm rfl) eG8.symm)))))))
      have hG8t : (I29 rm 8).toInt = G8.toInt := congrArg Int32.toInt hG8
      have hG9 : I29 rm 9 = G9 := (Eq.trans (up2_at (Or.inr (by decide)) eI29) (Eq.trans (up2_kk eI25 hk23 krm (by decide)) (Eq.trans (up2_kk eI22 hk20 krm (by decide)) (Eq.trans (hf16.get krm rfl) (Eq.trans (hf12.get krm rfl) (Eq.trans (hf8.get krm rfl) (Eq.trans (hf4.get krm rfl) eG9.symm)))))))
      have hG9t : (I29 rm 9).toInt = G9.toInt := congrArg Int32.toInt hG9
      have hGN : I29 rm 10 = N1 := (Eq.trans (up2_at (Or.inr (by decide)) eI29) (Eq.trans (up2_kk eI25 hk23 krm (by decide)) (Eq.trans (up2_kk eI22 hk20 krm (by decide)) (Eq.trans (hf16.get krm rfl) (Eq.trans (hf12.get krm rfl) eN1.symm)))))
      have hGNt : (I29 rm 10).toInt = N1.toInt := congrArg Int32.toInt hGN
      have hv8 : I29 a0 8 = A9 := (Eq.trans (up2_kk eI29 krm ka0 (by decide)) (Eq.trans (up2_kk eI25 hk23 ka0 (by decide)) (Eq.trans (up2_kk eI22 hk20 ka0 (by decide)) eA9.symm)))
      have hv8t : (I29 a0 8).toInt = A9.toInt := congrArg Int32.toInt hv8
      have hv9 : I29 a0 9 = x17_ := (Eq.trans (up2_kk eI29 krm ka0 (by decide)) (Eq.trans (up2_kk eI25 hk23 ka0 (by decide)) (Eq.trans (up2_kk eI22 hk20 ka0 (by decide)) e17.symm)))
      have hv9t : (I29 a0 9).toInt = x17_.toInt := congrArg Int32.toInt hv9
      exact r_vret hC hQ hlk hr (by decide) (by decide) dX10_readPeg_100 ⟨_, _, rfl, rfl, ⟨hs29, hF29, hFJ16, (by first | (left; omega) | (right; omega)), (by omega), (by omega), (by omega)⟩⟩
    · have hG3 : I16 rm 3 = x6_ := (Eq.trans (hf16.get krm rfl) (Eq.trans (hf12.get krm rfl) (Eq.trans (hf8.get krm rfl) e6.symm)))
      have hG3t : (I16 rm 3).toInt = x6_.toInt := congrArg Int32.toInt hG3
      have hG4 : I16 rm 4 = G4 := (Eq.trans (hf16.get krm rfl) (Eq.trans (hf12.get krm rfl) (Eq.trans (hf8.get krm rfl) (Eq.trans (hf4.get krm rfl) eG4.symm))))
      have hG4t : (I16 rm 4).toInt = G4.toInt := congrArg Int32.toInt hG4
      have hG7 : I16 rm 7 = G7 := (Eq.trans (hf16.get krm rfl) (Eq.trans (hf12.get krm rfl) (Eq.trans (hf8.get krm rfl) (Eq.trans (hf4.get krm rfl) eG7.symm))))
      have hG7t : (I16 rm 7).toInt = G7.toInt := congrArg Int32.toInt hG7
      have hG8 : I16 rm 8 = G8 := (Eq.trans (hf16.get krm rfl) (Eq.trans (hf12.get krm rfl) (Eq.trans (hf8.get krm rfl) (Eq.trans (hf4.get krm rfl) eG8.symm))))
      have hG8t : (I16 rm 8).toInt = G8.toInt := congrArg Int32.toInt hG8
      have hG9 : I16 rm 9 = G9 := (Eq.trans (hf16.get krm rfl) (Eq.trans (hf12.get krm rfl) (Eq.trans (hf8.get krm rfl) (Eq.trans (hf4.get krm rfl) eG9.symm))))
      have hG9t : (I16 rm 9).toInt = G9.toInt := congrArg Int32.toInt hG9
      have hGN : I16 rm 10 = N1 := (Eq.trans (hf16.get krm rfl) (Eq.trans (hf12.get krm rfl) eN1.symm))
      have hGNt : (I16 rm 10).toInt = N1.toInt := congrArg Int32.toInt hGN
      have hv8 : I16 a0 8 = A9 := eA9.symm
      have hv8t : (I16 a0 8).toInt = A9.toInt := congrArg Int32.toInt hv8
      have hv9 : I16 a0 9 = x17_ := e17.symm
      have hv9t : (I16 a0 9).toInt = x17_.toInt := congrArg Int32.toInt hv9
      exact r_vret hC hQ hlk hr (by decide) (by decide) dX10_readPeg_54 ⟨_, _, rfl, rfl, ⟨hs16, hF16, hFJ16, (by first | (left; omega) | (right; omega)), (by omega), (by omega), (by omega)⟩⟩
  · replace k4_1 := mt k4_1 sf4
    clear k4_0 md3
    refine r_aload_n hC dX10_readPeg_12 0 rfl ?_
    refine r_iconst hC (v := (0)) dX10_readPeg_13 (by decide) (by decide) (fun x30_ e30 t30 => ?_)
    refine r_aload_n hC dX10_readPeg_14 0 rfl ?_
    refine r_getr hC 4 (ci := 10) rfl u10_in (by decide) mT_4_239 dX10_readPeg_15 ka0 rfl rfl hbr ?_
    refine r_getiN hC 3 (ci := 9) rfl u9_in (by decide) nF_3 dX10_readPeg_18 krm rfl rfl (fun x31_ e31 => ?_)
    have r31 := hs4.rng krm rfl e31
    have f31 : x31_.toInt = (I4 rm 3).toInt := by rw [e31]
    have w31 : x31_ = x1_ := by rw [e31]; exact (Eq.trans (hf4.get krm rfl) e1.symm)
    have wt31 : x31_.toInt = x1_.toInt := by rw [w31]
    have qG3 : I4 rm 3 = x31_ := e31.symm
    have qG3t : (I4 rm 3).toInt = x31_.toInt := congrArg Int32.toInt qG3
    have qG4 : I4 rm 4 = G4 := (Eq.trans (hf4.get krm rfl) eG4.symm)
    have qG4t : (I4 rm 4).toInt = G4.toInt := congrArg Int32.toInt qG4
    have qG7 : I4 rm 7 = G7 := (Eq.trans (hf4.get krm rfl) eG7.symm)
    have qG7t : (I4 rm 7).toInt = G7.toInt := congrArg Int32.toInt qG7
    have qG8 : I4 rm 8 = G8 := (Eq.trans (hf4.get krm rfl) eG8.symm)
    have qG8t : (I4 rm 8).toInt = G8.toInt := congrArg Int32.toInt qG8
    have qG9 : I4 rm 9 = G9 := (Eq.trans (hf4.get krm rfl) eG9.symm)
    have qG9t : (I4 rm 9).toInt = G9.toInt := congrArg Int32.toInt qG9
    have qGN : I4 rm 10 = GN := (Eq.trans (hf4.get krm rfl) eGN.symm)
    have qGNt : (I4 rm 10).toInt = GN.toInt := congrArg Int32.toInt qGN
    have md32 : (I4 a0 9).toInt ≠ 5 := by omega
    refine r_callV hC (As := [.int x30_, .int x31_]) (rest := []) (ci := 10) (c_X10_readFresh g (xL X) K len I4 J4 R hs4 a0 ka0 x30_ x31_ rm hbr krm (by first | (left; omega) | (right; omega))) mT_6_23 mT_1_10 mT_6_20 mT_6_22 mP_60 okX10_readFresh ⟨by decide, by decide⟩ rfl (by show kO (K a0) = _; rw [ka0]; rfl) rfl rfl (Nat.le_of_ble_eq_true rfl) ⟨by decide, by decide⟩ dX10_readPeg_21 (aV2 (F := fun st M => P g X 3 24 [(0, .ref a0)] st _ _ M) (M := (K, len, I4, J4, R)) fun I33 J33 h33 => ?_)
    obtain ⟨hs33, hf33, hfj33, k33_0, k33_1, k33_2, k33_3⟩ := h33
    show P g X 3 24 [(0, .ref a0)] [] _ _ (K, len, I33, J33, R)
    have hF33 : Fr K [(10, 3), (10, 10), (11, 8), (11, 9), (11, 10), (11, 11), (11, 12), (11, 13), (70, 999), (71, 999), (83, 999), (84, 999)] I I33 := hF4.trans hf33 rfl rfl
    have hFJ33 : Fr K [(11, 14), (82, 999)] J J33 := hFJ4.trans hfj33 rfl rfl
    clear k4_3
    by_cases sf33 : (I33 a0 9).toInt = 5
    · clear k33_0 k33_2 md32 sf4
      obtain ⟨N1, eN1⟩ : ∃ z : Int32, z = I33 rm 10 := ⟨_, rfl⟩
      have fN1 : N1.toInt = (I33 rm 10).toInt := by rw [eN1]
      have rN1 := hs33.rng krm rfl eN1
      refine r_aload_n hC dX10_readPeg_24 0 rfl ?_
      refine r_ldcS hC (i := 41) (by decide) rfl rfl dX10_readPeg_25 ?_
      refine r_iconst hC (v := (0)) dX10_readPeg_27 (by decide) (by decide) (fun x34_ e34 t34 => ?_)
      refine r_sipush hC (v := (999)) dX10_readPeg_28 (by decide) (by decide) (fun x35_ e35 t35 => ?_)
      have md36 : (I33 a0 9).toInt = 5 := by omega
      refine r_callV hC (As := [.ref (g.2.2.1 41), .int x34_, .int x35_]) (rest := []) (ci := 10) (c_X10_readPart g (xL X) K len I33 J33 R hs33 a0 ka0 41 (by decide) x34_ x35_) mT_6_1 mT_1_10 mT_5_238 mT_6_0 mP_56 okX10_readPart ⟨by decide, by decide⟩ rfl (by show kO (K a0) = _; rw [ka0]; rfl) rfl rfl (Nat.le_of_ble_eq_true rfl) ⟨by decide, by decide⟩ dX10_readPeg_31 (aI2 (F := fun st M => P g X 3 34 [(0, .ref a0)] st _ _ M) (M := (K, len, I33, J33, R)) fun x37_ I37 J37 h37 => ?_)
      obtain ⟨hs37, hf37, hfj37, k37_0, k37_1, k37_2, k37_3⟩ := h37
      show P g X 3 34 [(0, .ref a0)] [.int x37_] _ _ (K, len, I37, J37, R)
      have hF37 : Fr K [(10, 3), (10, 10), (11, 8), (11, 9), (11, 10), (11, 11), (11, 12), (11, 13), (70, 999), (71, 999), (83, 999), (84, 999)] I I37 := hF33.trans hf37 rfl rfl
      have hFJ37 : Fr K [(11, 14), (82, 999)] J J37 := hFJ33.trans hfj37 rfl rfl
      have sf37 := k37_0 md36
      clear k37_0 k37_1 k37_3 md36 sf33
      refine r_istore_n hC (lv' := [(1, .int x37_), (0, .ref a0)]) dX10_readPeg_34 (by decide) rfl ?_
      refine r_aload_n hC dX10_readPeg_35 1 rfl ?_
      refine r_ldcS hC (i := 42) (by decide) rfl rfl dX10_readPeg_36 ?_
      refine r_iconst hC (v := (0)) dX10_readPeg_38 (by decide) (by decide) (fun x38_ e38 t38 => ?_)
      refine r_sipush hC (v := (999)) dX10_readPeg_39 (by decide) (by decide) (fun x39_ e39 t39 => ?_)
      have md40 : (I37 a0 9).toInt = 5 := by omega
      refine r_callV hC (As := [.ref (g.2.2.1 42), .int x38_, .int x39_]) (rest := []) (ci := 10) (c_X10_readPart g (xL X) K len I37 J37 R hs37 a0 ka0 42 (by decide) x38_ x39_) mT_6_1 mT_1_10 mT_5_238 mT_6_0 mP_56 okX10_readPart ⟨by decide, by decide⟩ rfl (by show kO (K a0) = _; rw [ka0]; rfl) rfl rfl (Nat.le_of_ble_eq_true rfl) ⟨by decide, by decide⟩ dX10_readPeg_42 (aI2 (F := fun st M => P g X 3 45 [(1, .int x37_), (0, .ref a0)] st _ _ M) (M := (K, len, I37, J37, R)) fun x41_ I41 J41 h41 => ?_)
      obtain ⟨hs41, hf41, hfj41, k41_0, k41_1, k41_2, k41_3⟩ := h41
      show P g X 3 45 [(1, .int x37_), (0, .ref a0)] [.int x41_] _ _ (K, len, I41, J41, R)
      have hF41 : Fr K [(10, 3), (10, 10), (11, 8), (11, 9), (11, 10), (11, 11), (11, 12), (11, 13), (70, 999), (71, 999), (83, 999), (84, 999)] I I41 := hF37.trans hf41 rfl rfl
      have hFJ41 : Fr K [(11, 14), (82, 999)] J J41 := hFJ37.trans hfj41 rfl rfl
      have sf41 := k41_0 md40
      clear k41_0 k41_1 k41_3 md40 sf37
      refine r_istore_n hC (lv' := [(2, .int x41_), (1, .int x37_), (0, .ref a0)]) dX10_readPeg_45 (by decide) rfl ?_
      refine r_aload_n hC dX10_readPeg_46 2 rfl ?_
      obtain ⟨A9, eA9⟩ : ∃ z : Int32, z = I41 a0 8 := ⟨_, rfl⟩
      have fA9 : A9.toInt = (I41 a0 8).toInt := by rw [eA9]
      have rA9 := hs41.rng ka0 rfl eA9
      refine r_geti hC 9 (ci := 10) rfl u10_in (by decide) mT_5_4 dX10_readPeg_47 ka0 rfl rfl (fun x42_ e42 => ?_)
      have f42 : x42_.toInt = (I41 a0 9).toInt := by rw [e42]
      refine r_iconst hC (v := (5)) dX10_readPeg_50 (by decide) (by decide) (fun x43_ e43 t43 => ?_)
      refine r_icmp_ne hC (tgt := 55) dX10_readPeg_51 (by decide) (fun c44 => ?_) (fun c44 => ?_)
      · refine r_aload_n hC dX10_readPeg_55 2 rfl ?_
        refine r_getr hC 4 (ci := 10) rfl u10_in (by decide) mT_4_239 dX10_readPeg_56 ka0 rfl rfl hbr ?_
        obtain ⟨a45_, hb45, hk45, hn45⟩ := hs41.row krm 11 70 5 (by decide) (by decide)
        refine r_getrN hC 11 (ci := 9) rfl u9_in (by decide) nF_11 dX10_readPeg_59 krm rfl rfl hb45 ?_
        refine r_aload_n hC dX10_readPeg_62 2 rfl ?_
        refine r_getr hC 4 (ci := 10) rfl u10_in (by decide) mT_4_239 dX10_readPeg_63 ka0 rfl rfl hbr ?_
        refine r_getiN hC 3 (ci := 9) rfl u9_in (by decide) nF_3 dX10_readPeg_66 krm rfl rfl (fun x46_ e46 => ?_)
        have r46 := hs41.rng krm rfl e46
        have f46 : x46_.toInt = (I41 rm 3).toInt := by rw [e46]
        have w46 : x46_ = x31_ := by rw [e46]; exact (Eq.trans (hf41.get krm rfl) (Eq.trans (hf37.get krm rfl) (Eq.trans (hf33.get krm rfl) e31.symm)))
        have wt46 : x46_.toInt = x31_.toInt := by rw [w46]
        refine r_iload_n hC dX10_readPeg_69 1 rfl ?_
        refine x_iastore hC hk45 hn45 (by decide) rfl rfl dX10_readPeg_70 (by omega) (by omega) (fun I47 eI47 => ?_)
        have hs47 := hs41.put0 eI47 hk45 (rng_arr (by decide) _) rfl (xF_arr (by decide) _) (by decide)
        have hF47 := hF41.put eI47 hk45 (inS_arr rfl _)
        refine r_aload_n hC dX10_readPeg_71 2 rfl ?_
        refine r_getr hC 4 (ci := 10) rfl u10_in (by decide) mT_4_239 dX10_readPeg_72 ka0 rfl rfl hbr ?_
        obtain ⟨a48_, hb48, hk48, hn48⟩ := hs47.row krm 12 71 5 (by decide) (by decide)
        refine r_getrN hC 12 (ci := 9) rfl u9_in (by decide) nF_12 dX10_readPeg_75 krm rfl rfl hb48 ?_
        refine r_aload_n hC dX10_readPeg_78 2 rfl ?_
        refine r_getr hC 4 (ci := 10) rfl u10_in (by decide) mT_4_239 dX10_readPeg_79 ka0 rfl rfl hbr ?_
        refine r_getiN hC 3 (ci := 9) rfl u9_in (by decide) nF_3 dX10_readPeg_82 krm rfl rfl (fun x49_ e49 => ?_)
        have r49 := hs47.rng krm rfl e49
        have f49 : x49_.toInt = (I47 rm 3).toInt := by rw [e49]
        have w49 : x49_ = x46_ := by rw [e49]; exact (Eq.trans (up2_kk eI47 hk45 krm (by decide)) e46.symm)
        have wt49 : x49_.toInt = x46_.toInt := by rw [w49]
        refine r_iload_n hC dX10_readPeg_85 0 rfl ?_
        refine x_iastore hC hk48 hn48 (by decide) rfl rfl dX10_readPeg_86 (by omega) (by omega) (fun I50 eI50 => ?_)
        have hs50 := hs47.put0 eI50 hk48 (rng_arr (by decide) _) rfl (xF_arr (by decide) _) (by decide)
        have hF50 := hF47.put eI50 hk48 (inS_arr rfl _)
        refine r_aload_n hC dX10_readPeg_87 2 rfl ?_
        refine r_getr hC 4 (ci := 10) rfl u10_in (by decide) mT_4_239 dX10_readPeg_88 ka0 rfl rfl hbr ?_
        refine r_dup hC dX10_readPeg_91 rfl ?_
        refine r_getiN hC 3 (ci := 9) rfl u9_in (by decide) nF_3 dX10_readPeg_92 krm rfl rfl (fun x51_ e51 => ?_)
        have r51 := hs50.rng krm rfl e51
        have f51 : x51_.toInt = (I50 rm 3).toInt := by rw [e51]
        have w51 : x51_ = x49_ := by rw [e51]; exact (Eq.trans (up2_kk eI50 hk48 krm (by decide)) e49.symm)
        have wt51 : x51_.toInt = x49_.toInt := by rw [w51]
        refine r_iconst hC (v := (1)) dX10_readPeg_95 (by decide) (by decide) (fun x52_ e52 t52 => ?_)
        refine r_iadd hC dX10_readPeg_96 (fun x53_ e53 => ?_)
        try have t53 : x53_.toInt = x51_.toInt + x52_.toInt := by rw [e53]; exact ti_add (by omega) (by omega)
        refine r_putiN hC 3 (ci := 9) rfl u9_in tyX9_ok nmX9 (by decide) nF_3 rfl rfl rfl dX10_readPeg_97 krm rfl rfl (fun I54 eI54 => ?_)
        have hs54 := hs50.put1 eI54 krm rfl (by omega) (by omega) rfl rfl (by decide)
        have hF54 := hF50.put eI54 krm rfl
        have hG3 : I54 rm 3 = x53_ := (by rw [eI54]; exact up2_self _ _ _ _)
        have hG3t : (I54 rm 3).toInt = x53_.toInt := congrArg Int32.toInt hG3
        have hG4 : I54 rm 4 = G4 := (Eq.trans (up2_at (Or.inr (by decide)) eI54) (Eq.trans (up2_kk eI50 hk48 krm (by decide)) (Eq.trans (up2_kk eI47 hk45 krm (by decide)) (Eq.trans (hf41.get krm rfl) (Eq.trans (hf37.get krm rfl) (Eq.trans (hf33.get krm rfl) (Eq.trans (hf4.get krm rfl) eG4.symm)))))))
        have hG4t : (I54 rm 4).toInt = G4.toInt := congrArg Int32.toInt hG4
        have hG7 : I54 rm 7 = G7 := (Eq.trans (up2_at (Or.inr (by decide)) eI54) (Eq.trans (up2_kk eI50 hk48 krm (by decide)) (Eq.trans (up2_kk eI47 hk45 krm (by decide)) (Eq.trans (hf41.get krm rfl) (Eq.trans (hf37.get krm rfl) (Eq.trans (hf33.get krm rfl) (Eq.trans (hf4.get krm rfl) eG7.symm)))))))
        have hG7t : (I54 rm 7).toInt = G7.toInt := congrArg Int32.toInt hG7
        have hG8 : I54 rm 8 = G8 := (Eq.trans (up2_at (Or.inr (by decide)) eI54) (Eq.trans (up2_kk eI50 hk48 krm (by decide)) (Eq.trans (up2_kk eI47 hk45 krm (by decide)) (Eq.trans (hf41.get krm rfl) (Eq.trans (hf37.get krm rfl) (Eq.trans (hf33.get krm rfl) (Eq.trans (hf4.get krm rfl) eG8.symm)))))))
        have hG8t : (I54 rm 8).toInt = G8.toInt := congrArg Int32.toInt hG8
        have hG9 : I54 rm 9 = G9 := (Eq.trans (up2_at (Or.inr (by decide)) eI54) (Eq.trans (up2_kk eI50 hk48 krm (by decide)) (Eq.trans (up2_kk eI47 hk45 krm (by decide)) (Eq.trans (hf41.get krm rfl) (Eq.trans (hf37.get krm rfl) (Eq.trans (hf33.get krm rfl) (Eq.trans (hf4.get krm rfl) eG9.symm)))))))
        have hG9t : (I54 rm 9).toInt = G9.toInt := congrArg Int32.toInt hG9
        have hGN : I54 rm 10 = N1 := (Eq.trans (up2_at (Or.inr (by decide)) eI54) (Eq.trans (up2_kk eI50 hk48 krm (by decide)) (Eq.trans (up2_kk eI47 hk45 krm (by decide)) (Eq.trans (hf41.get krm rfl) (Eq.trans (hf37.get krm rfl) eN1.symm)))))
        have hGNt : (I54 rm 10).toInt = N1.toInt := congrArg Int32.toInt hGN
        have hv8 : I54 a0 8 = A9 := (Eq.trans (up2_kk eI54 krm ka0 (by decide)) (Eq.trans (up2_kk eI50 hk48 ka0 (by decide)) (Eq.trans (up2_kk eI47 hk45 ka0 (by decide)) eA9.symm)))
        have hv8t : (I54 a0 8).toInt = A9.toInt := congrArg Int32.toInt hv8
        have hv9 : I54 a0 9 = x42_ := (Eq.trans (up2_kk eI54 krm ka0 (by decide)) (Eq.trans (up2_kk eI50 hk48 ka0 (by decide)) (Eq.trans (up2_kk eI47 hk45 ka0 (by decide)) e42.symm)))
        have hv9t : (I54 a0 9).toInt = x42_.toInt := congrArg Int32.toInt hv9
        exact r_vret hC hQ hlk hr (by decide) (by decide) dX10_readPeg_100 ⟨_, _, rfl, rfl, ⟨hs54, hF54, hFJ41, (by first | (left; omega) | (right; omega)), (by omega), (by omega), (by omega)⟩⟩
      · have hG3 : I41 rm 3 = x31_ := (Eq.trans (hf41.get krm rfl) (Eq.trans (hf37.get krm rfl) (Eq.trans (hf33.get krm rfl) e31.symm)))
        have hG3t : (I41 rm 3).toInt = x31_.toInt := congrArg Int32.toInt hG3
        have hG4 : I41 rm 4 = G4 := (Eq.trans (hf41.get krm rfl) (Eq.trans (hf37.get krm rfl) (Eq.trans (hf33.get krm rfl) (Eq.trans (hf4.get krm rfl) eG4.symm))))
        have hG4t : (I41 rm 4).toInt = G4.toInt := congrArg Int32.toInt hG4
        have hG7 : I41 rm 7 = G7 := (Eq.trans (hf41.get krm rfl) (Eq.trans (hf37.get krm rfl) (Eq.trans (hf33.get krm rfl) (Eq.trans (hf4.get krm rfl) eG7.symm))))
        have hG7t : (I41 rm 7).toInt = G7.toInt := congrArg Int32.toInt hG7
        have hG8 : I41 rm 8 = G8 := (Eq.trans (hf41.get krm rfl) (Eq.trans (hf37.get krm rfl) (Eq.trans (hf33.get krm rfl) (Eq.trans (hf4.get krm rfl) eG8.symm))))
        have hG8t : (I41 rm 8).toInt = G8.toInt := congrArg Int32.toInt hG8
        have hG9 : I41 rm 9 = G9 := (Eq.trans (hf41.get krm rfl) (Eq.trans (hf37.get krm rfl) (Eq.trans (hf33.get krm rfl) (Eq.trans (hf4.get krm rfl) eG9.symm))))
        have hG9t : (I41 rm 9).toInt = G9.toInt := congrArg Int32.toInt hG9
        have hGN : I41 rm 10 = N1 := (Eq.trans (hf41.get krm rfl) (Eq.trans (hf37.get krm rfl) eN1.symm))
        have hGNt : (I41 rm 10).toInt = N1.toInt := congrArg Int32.toInt hGN
        have hv8 : I41 a0 8 = A9 := eA9.symm
        have hv8t : (I41 a0 8).toInt = A9.toInt := congrArg Int32.toInt hv8
        have hv9 : I41 a0 9 = x42_ := e42.symm
        have hv9t : (I41 a0 9).toInt = x42_.toInt := congrArg Int32.toInt hv9
        exact r_vret hC hQ hlk hr (by decide) (by decide) dX10_readPeg_54 ⟨_, _, rfl, rfl, ⟨hs41, hF41, hFJ41, (by first | (left; omega) | (right; omega)), (by omega), (by omega), (by omega)⟩⟩
    · clear k33_0 md32 sf4
      obtain ⟨N1, eN1⟩ : ∃ z : Int32, z = I33 rm 10 := ⟨_, rfl⟩
      have fN1 : N1.toInt = (I33 rm 10).toInt := by rw [eN1]
      have rN1 := hs33.rng krm rfl eN1
      refine r_aload_n hC dX10_readPeg_24 0 rfl ?_
      refine r_ldcS hC (i := 41) (by decide) rfl rfl dX10_readPeg_25 ?_
      refine r_iconst hC (v := (0)) dX10_readPeg_27 (by decide) (by decide) (fun x55_ e55 t55 => ?_)
      refine r_sipush hC (v := (999)) dX10_readPeg_28 (by decide) (by decide) (fun x56_ e56 t56 => ?_)
      have md57 : (I33 a0 9).toInt ≠ 5 := by omega
      refine r_callV hC (As := [.ref (g.2.2.1 41), .int x55_, .int x56_]) (rest := []) (ci := 10) (c_X10_readPart g (xL X) K len I33 J33 R hs33 a0 ka0 41 (by decide) x55_ x56_) mT_6_1 mT_1_10 mT_5_238 mT_6_0 mP_56 okX10_readPart ⟨by decide, by decide⟩ rfl (by show kO (K a0) = _; rw [ka0]; rfl) rfl rfl (Nat.le_of_ble_eq_true rfl) ⟨by decide, by decide⟩ dX10_readPeg_31 (aI2 (F := fun st M => P g X 3 34 [(0, .ref a0)] st _ _ M) (M := (K, len, I33, J33, R)) fun x58_ I58 J58 h58 => ?_)
      obtain ⟨hs58, hf58, hfj58, k58_0, k58_1, k58_2, k58_3⟩ := h58
      show P g X 3 34 [(0, .ref a0)] [.int x58_] _ _ (K, len, I58, J58, R)
      have hF58 : Fr K [(10, 3), (10, 10), (11, 8), (11, 9), (11, 10), (11, 11), (11, 12), (11, 13), (70, 999), (71, 999), (83, 999), (84, 999)] I I58 := hF33.trans hf58 rfl rfl
      have hFJ58 : Fr K [(11, 14), (82, 999)] J J58 := hFJ33.trans hfj58 rfl rfl
      clear k33_2
      by_cases sf58 : (I58 a0 9).toInt = 5
      · clear k58_0 k58_1 k58_3 md57 sf33
        refine r_istore_n hC (lv' := [(1, .int x58_), (0, .ref a0)]) dX10_readPeg_34 (by decide) rfl ?_
        refine r_aload_n hC dX10_readPeg_35 1 rfl ?_
        refine r_ldcS hC (i := 42) (by decide) rfl rfl dX10_readPeg_36 ?_
        refine r_iconst hC (v := (0)) dX10_readPeg_38 (by decide) (by decide) (fun x59_ e59 t59 => ?_)
        refine r_sipush hC (v := (999)) dX10_readPeg_39 (by decide) (by decide) (fun x60_ e60 t60 => ?_)
        have md61 : (I58 a0 9).toInt = 5 := by omega
        refine r_callV hC (As := [.ref (g.2.2.1 42), .int x59_, .int x60_]) (rest := []) (ci := 10) (c_X10_readPart g (xL X) K len I58 J58 R hs58 a0 ka0 42 (by decide) x59_ x60_) mT_6_1 mT_1_10 mT_5_238 mT_6_0 mP_56 okX10_readPart ⟨by decide, by decide⟩ rfl (by show kO (K a0) = _; rw [ka0]; rfl) rfl rfl (Nat.le_of_ble_eq_true rfl) ⟨by decide, by decide⟩ dX10_readPeg_42 (aI2 (F := fun st M => P g X 3 45 [(1, .int x58_), (0, .ref a0)] st _ _ M) (M := (K, len, I58, J58, R)) fun x62_ I62 J62 h62 => ?_)
        obtain ⟨hs62, hf62, hfj62, k62_0, k62_1, k62_2, k62_3⟩ := h62
        show P g X 3 45 [(1, .int x58_), (0, .ref a0)] [.int x62_] _ _ (K, len, I62, J62, R)
        have hF62 : Fr K [(10, 3), (10, 10), (11, 8), (11, 9), (11, 10), (11, 11), (11, 12), (11, 13), (70, 999), (71, 999), (83, 999), (84, 999)] I I62 := hF58.trans hf62 rfl rfl
        have hFJ62 : Fr K [(11, 14), (82, 999)] J J62 := hFJ58.trans hfj62 rfl rfl
        have sf62 := k62_0 md61
        clear k62_0 k62_1 k62_3 md61 sf58
        refine r_istore_n hC (lv' := [(2, .int x62_), (1, .int x58_), (0, .ref a0)]) dX10_readPeg_45 (by decide) rfl ?_
        refine r_aload_n hC dX10_readPeg_46 2 rfl ?_
        obtain ⟨A9, eA9⟩ : ∃ z : Int32, z = I62 a0 8 := ⟨_, rfl⟩
        have fA9 : A9.toInt = (I62 a0 8).toInt := by rw [eA9]
        have rA9 := hs62.rng ka0 rfl eA9
        refine r_geti hC 9 (ci := 10) rfl u10_in (by decide) mT_5_4 dX10_readPeg_47 ka0 rfl rfl (fun x63_ e63 => ?_)
        have f63 : x63_.toInt = (I62 a0 9).toInt := by rw [e63]
        refine r_iconst hC (v := (5)) dX10_readPeg_50 (by decide) (by decide) (fun x64_ e64 t64 => ?_)
        refine r_icmp_ne hC (tgt := 55) dX10_readPeg_51 (by decide) (fun c65 => ?_) (fun c65 => ?_)
        · refine r_aload_n hC dX10_readPeg_55 2 rfl ?_
          refine r_getr hC 4 (ci := 10) rfl u10_in (by decide) mT_4_239 dX10_readPeg_56 ka0 rfl rfl hbr ?_
          obtain ⟨a66_, hb66, hk66, hn66⟩ := hs62.row krm 11 70 5 (by decide) (by decide)
          refine r_getrN hC 11 (ci := 9) rfl u9_in (by decide) nF_11 dX10_readPeg_59 krm rfl rfl hb66 ?_
          refine r_aload_n hC dX10_readPeg_62 2 rfl ?_
          refine r_getr hC 4 (ci := 10) rfl u10_in (by decide) mT_4_239 dX10_readPeg_63 ka0 rfl rfl hbr ?_
          refine r_getiN hC 3 (ci := 9) rfl u9_in (by decide) nF_3 dX10_readPeg_66 krm rfl rfl (fun x67_ e67 => ?_)
          have r67 := hs62.rng krm rfl e67
          have f67 : x67_.toInt = (I62 rm 3).toInt := by rw [e67]
          have w67 : x67_ = x31_ := by rw [e67]; exact (Eq.trans (hf62.get krm rfl) (Eq.trans (hf58.get krm rfl) (Eq.trans (hf33.get krm rfl) e31.symm)))
          have wt67 : x67_.toInt = x31_.toInt := by rw [w67]
          refine r_iload_n hC dX10_readPeg_69 1 rfl ?_
          refine x_iastore hC hk66 hn66 (by decide) rfl rfl dX10_readPeg_70 (by omega) (by omega) (fun I68 eI68 => ?_)
          have hs68 := hs62.put0 eI68 hk66 (rng_arr (by decide) _) rfl (xF_arr (by decide) _) (by decide)
          have hF68 := hF62.put eI68 hk66 (inS_arr rfl _)
          refine r_aload_n hC dX10_readPeg_71 2 rfl ?_
          refine r_getr hC 4 (ci := 10) rfl u10_in (by decide) mT_4_239 dX10_readPeg_72 ka0 rfl rfl hbr ?_
          obtain ⟨a69_, hb69, hk69, hn69⟩ := hs68.row krm 12 71 5 (by decide) (by decide)
          refine r_getrN hC 12 (ci := 9) rfl u9_in (by decide) nF_12 dX10_readPeg_75 krm rfl rfl hb69 ?_
          refine r_aload_n hC dX10_readPeg_78 2 rfl ?_
          refine r_getr hC 4 (ci := 10) rfl u10_in (by decide) mT_4_239 dX10_readPeg_79 ka0 rfl rfl hbr ?_
          refine r_getiN hC 3 (ci := 9) rfl u9_in (by decide) nF_3 dX10_readPeg_82 krm rfl rfl (fun x70_ e70 => ?_)
          have r70 := hs68.rng krm rfl e70
          have f70 : x70_.toInt = (I68 rm 3).toInt := by rw [e70]
          have w70 : x70_ = x67_ := by rw [e70]; exact (Eq.trans (up2_kk eI68 hk66 krm (by decide)) e67.symm)
          have wt70 : x70_.toInt = x67_.toInt := by rw [w70]
          refine r_iload_n hC dX10_readPeg_85 0 rfl ?_
          refine x_iastore hC hk69 hn69 (by decide) rfl rfl dX10_readPeg_86 (by omega) (by omega) (fun I71 eI71 => ?_)
          have hs71 := hs68.put0 eI71 hk69 (rng_arr (by decide) _) rfl (xF_arr (by decide) _) (by decide)
          have hF71 := hF68.put eI71 hk69 (inS_arr rfl _)
          refine r_aload_n hC dX10_readPeg_87 2 rfl ?_
          refine r_getr hC 4 (ci := 10) rfl u10_in (by decide) mT_4_239 dX10_readPeg_88 ka0 rfl rfl hbr ?_
          refine r_dup hC dX10_readPeg_91 rfl ?_
          refine r_getiN hC 3 (ci := 9) rfl u9_in (by decide) nF_3 dX10_readPeg_92 krm rfl rfl (fun x72_ e72 => ?_)
          have r72 := hs71.rng krm rfl e72
          have f72 : x72_.toInt = (I71 rm 3).toInt := by rw [e72]
          have w72 : x72_ = x70_ := by rw [e72]; exact (Eq.trans (up2_kk eI71 hk69 krm (by decide)) e70.symm)
          have wt72 : x72_.toInt = x70_.toInt := by rw [w72]
          refine r_iconst hC (v := (1)) dX10_readPeg_95 (by decide) (by decide) (fun x73_ e73 t73 => ?_)
          refine r_iadd hC dX10_readPeg_96 (fun x74_ e74 => ?_)
          try have t74 : x74_.toInt = x72_.toInt + x73_.toInt := by rw [e74]; exact ti_add (by omega) (by omega)
          refine r_putiN hC 3 (ci := 9) rfl u9_in tyX9_ok nmX9 (by decide) nF_3 rfl rfl rfl dX10_readPeg_97 krm rfl rfl (fun I75 eI75 => ?_)
          have hs75 := hs71.put1 eI75 krm rfl (by omega) (by omega) rfl rfl (by decide)
          have hF75 := hF71.put eI75 krm rfl
          have hG3 : I75 rm 3 = x74_ := (by rw [eI75]; exact up2_self _ _ _ _)
          have hG3t : (I75 rm 3).toInt = x74_.toInt := congrArg Int32.toInt hG3
          have hG4 : I75 rm 4 = G4 := (Eq.trans (up2_at (Or.inr (by decide)) eI75) (Eq.trans (up2_kk eI71 hk69 krm (by decide)) (Eq.trans (up2_kk eI68 hk66 krm (by decide)) (Eq.trans (hf62.get krm rfl) (Eq.trans (hf58.get krm rfl) (Eq.trans (hf33.get krm rfl) (Eq.trans (hf4.get krm rfl) eG4.symm)))))))
          have hG4t : (I75 rm 4).toInt = G4.toInt := congrArg Int32.toInt hG4
          have hG7 : I75 rm 7 = G7 := (Eq.trans (up2_at (Or.inr (by decide)) eI75) (Eq.trans (up2_kk eI71 hk69 krm (by decide)) (Eq.trans (up2_kk eI68 hk66 krm (by decide)) (Eq.trans (hf62.get krm rfl) (Eq.trans (hf58.get krm rfl) (Eq.trans (hf33.get krm rfl) (Eq.trans (hf4.get krm rfl) eG7.symm)))))))
          have hG7t : (I75 rm 7).toInt = G7.toInt := congrArg Int32.toInt hG7
          have hG8 : I75 rm 8 = G8 := (Eq.trans (up2_at (Or.inr (by decide)) eI75) (Eq.trans (up2_kk eI71 hk69 krm (by decide)) (Eq.trans (up2_kk eI68 hk66 krm (by decide)) (Eq.trans (hf62.get krm rfl) (Eq.trans (hf58.get krm rfl) (Eq.trans (hf33.get krm rfl) (Eq.trans (hf4.get krm rfl) eG8.symm)))))))
          have hG8t : (I75 rm 8).toInt = G8.toInt := congrArg Int32.toInt hG8
          have hG9 : I75 rm 9 = G9 := (Eq.trans (up2_at (Or.inr (by decide)) eI75) (Eq.trans (up2_kk eI71 hk69 krm (by decide)) (Eq.trans (up2_kk eI68 hk66 krm (by decide)) (Eq.trans (hf62.get krm rfl) (Eq.trans (hf58.get krm rfl) (Eq.trans (hf33.get krm rfl) (Eq.trans (hf4.get krm rfl) eG9.symm)))))))
          have hG9t : (I75 rm 9).toInt = G9.toInt := congrArg Int32.toInt hG9
          have hGN : I75 rm 10 = N1 := (Eq.trans (up2_at (Or.inr (by decide)) eI75) (Eq.trans (up2_kk eI71 hk69 krm (by decide)) (Eq.trans (up2_kk eI68 hk66 krm (by decide)) (Eq.trans (hf62.get krm rfl) (Eq.trans (hf58.get krm rfl) eN1.symm)))))
          have hGNt : (I75 rm 10).toInt = N1.toInt := congrArg Int32.toInt hGN
          have hv8 : I75 a0 8 = A9 := (Eq.trans (up2_kk eI75 krm ka0 (by decide)) (Eq.trans (up2_kk eI71 hk69 ka0 (by decide)) (Eq.trans (up2_kk eI68 hk66 ka0 (by decide)) eA9.symm)))
          have hv8t : (I75 a0 8).toInt = A9.toInt := congrArg Int32.toInt hv8
          have hv9 : I75 a0 9 = x63_ := (Eq.trans (up2_kk eI75 krm ka0 (by decide)) (Eq.trans (up2_kk eI71 hk69 ka0 (by decide)) (Eq.trans (up2_kk eI68 hk66 ka0 (by decide)) e63.symm)))
          have hv9t : (I75 a0 9).toInt = x63_.toInt := congrArg Int32.toInt hv9
          exact r_vret hC hQ hlk hr (by decide) (by decide) dX10_readPeg_100 ⟨_, _, rfl, rfl, ⟨hs75, hF75, hFJ62, (by first | (left; omega) | (right; omega)), (by omega), (by omega), (by omega)⟩⟩
        · have hG3 : I62 rm 3 = x31_ := (Eq.trans (hf62.get krm rfl) (Eq.trans (hf58.get krm rfl) (Eq.trans (hf33.get krm rfl) e31.symm)))
          have hG3t : (I62 rm 3).toInt = x31_.toInt := congrArg Int32.toInt hG3
          have hG4 : I62 rm 4 = G4 := (Eq.trans (hf62.get krm rfl) (Eq.trans (hf58.get krm rfl) (Eq.trans (hf33.get krm rfl) (Eq.trans (hf4.get krm rfl) eG4.symm))))
          have hG4t : (I62 rm 4).toInt = G4.toInt := congrArg Int32.toInt hG4
          have hG7 : I62 rm 7 = G7 := (Eq.trans (hf62.get krm rfl) (Eq.trans (hf58.get krm rfl) (Eq.trans (hf33.get krm rfl) (Eq.trans (hf4.get krm rfl) eG7.symm))))
          have hG7t : (I62 rm 7).toInt = G7.toInt := congrArg Int32.toInt hG7
          have hG8 : I62 rm 8 = G8 := (Eq.trans (hf62.get krm rfl) (Eq.trans (hf58.get krm rfl) (Eq.trans (hf33.get krm rfl) (Eq.trans (hf4.get krm rfl) eG8.symm))))
          have hG8t : (I62 rm 8).toInt = G8.toInt := congrArg Int32.toInt hG8
          have hG9 : I62 rm 9 = G9 := (Eq.trans (hf62.get krm rfl) (Eq.trans (hf58.get krm rfl) (Eq.trans (hf33.get krm rfl) (Eq.trans (hf4.get krm rfl) eG9.symm))))
          have hG9t : (I62 rm 9).toInt = G9.toInt := congrArg Int32.toInt hG9
          have hGN : I62 rm 10 = N1 := (Eq.trans (hf62.get krm rfl) (Eq.trans (hf58.get krm rfl) eN1.symm))
          have hGNt : (I62 rm 10).toInt = N1.toInt := congrArg Int32.toInt hGN
          have hv8 : I62 a0 8 = A9 := eA9.symm
          have hv8t : (I62 a0 8).toInt = A9.toInt := congrArg Int32.toInt hv8
          have hv9 : I62 a0 9 = x63_ := e63.symm
          have hv9t : (I62 a0 9).toInt = x63_.toInt := congrArg Int32.toInt hv9
          exact r_vret hC hQ hlk hr (by decide) (by decide) dX10_readPeg_54 ⟨_, _, rfl, rfl, ⟨hs62, hF62, hFJ62, (by first | (left; omega) | (right; omega)), (by omega), (by omega), (by omega)⟩⟩
      · replace k58_1 := k58_1 sf58
        clear k58_0 md57 sf33
        refine r_istore_n hC (lv' := [(1, .int x58_), (0, .ref a0)]) dX10_readPeg_34 (by decide) rfl ?_
        refine r_aload_n hC dX10_readPeg_35 1 rfl ?_
        refine r_ldcS hC (i := 42) (by decide) rfl rfl dX10_readPeg_36 ?_
        refine r_iconst hC (v := (0)) dX10_readPeg_38 (by decide) (by decide) (fun x76_ e76 t76 => ?_)
        refine r_sipush hC (v := (999)) dX10_readPeg_39 (by decide) (by decide) (fun x77_ e77 t77 => ?_)
        have md78 : (I58 a0 9).toInt ≠ 5 := by omega
        refine r_callV hC (As := [.ref (g.2.2.1 42), .int x76_, .int x77_]) (rest := []) (ci := 10) (c_X10_readPart g (xL X) K len I58 J58 R hs58 a0 ka0 42 (by decide) x76_ x77_) mT_6_1 mT_1_10 mT_5_238 mT_6_0 mP_56 okX10_readPart ⟨by decide, by decide⟩ rfl (by show kO (K a0) = _; rw [ka0]; rfl) rfl rfl (Nat.le_of_ble_eq_true rfl) ⟨by decide, by decide⟩ dX10_readPeg_42 (aI2 (F := fun st M => P g X 3 45 [(1, .int x58_), (0, .ref a0)] st _ _ M) (M := (K, len, I58, J58, R)) fun x79_ I79 J79 h79 => ?_)
        obtain ⟨hs79, hf79, hfj79, k79_0, k79_1, k79_2, k79_3⟩ := h79
        show P g X 3 45 [(1, .int x58_), (0, .ref a0)] [.int x79_] _ _ (K, len, I79, J79, R)
        have hF79 : Fr K [(10, 3), (10, 10), (11, 8), (11, 9), (11, 10), (11, 11), (11, 12), (11, 13), (70, 999), (71, 999), (83, 999), (84, 999)] I I79 := hF58.trans hf79 rfl rfl
        have hFJ79 : Fr K [(11, 14), (82, 999)] J J79 := hFJ58.trans hfj79 rfl rfl
        clear k58_3
        by_cases sf79 : (I79 a0 9).toInt = 5
        · clear k79_0 k79_1 k79_3 md78 sf58
          refine r_istore_n hC (lv' := [(2, .int x79_), (1, .int x58_), (0, .ref a0)]) dX10_readPeg_45 (by decide) rfl ?_
          refine r_aload_n hC dX10_readPeg_46 2 rfl ?_
          obtain ⟨A9, eA9⟩ : ∃ z : Int32, z = I79 a0 8 := ⟨_, rfl⟩
          have fA9 : A9.toInt = (I79 a0 8).toInt := by rw [eA9]
          have rA9 := hs79.rng ka0 rfl eA9
          refine r_geti hC 9 (ci := 10) rfl u10_in (by decide) mT_5_4 dX10_readPeg_47 ka0 rfl rfl (fun x80_ e80 => ?_)
          have f80 : x80_.toInt = (I79 a0 9).toInt := by rw [e80]
          refine r_iconst hC (v := (5)) dX10_readPeg_50 (by decide) (by decide) (fun x81_ e81 t81 => ?_)
          refine r_icmp_ne hC (tgt := 55) dX10_readPeg_51 (by decide) (fun c82 => ?_) (fun c82 => ?_)
          · refine r_aload_n hC dX10_readPeg_55 2 rfl ?_
            refine r_getr hC 4 (ci := 10) rfl u10_in (by decide) mT_4_239 dX10_readPeg_56 ka0 rfl rfl hbr ?_
            obtain ⟨a83_, hb83, hk83, hn83⟩ := hs79.row krm 11 70 5 (by decide) (by decide)
            refine r_getrN hC 11 (ci := 9) rfl u9_in (by decide) nF_11 dX10_readPeg_59 krm rfl rfl hb83 ?_
            refine r_aload_n hC dX10_readPeg_62 2 rfl ?_
            refine r_getr hC 4 (ci := 10) rfl u10_in (by decide) mT_4_239 dX10_readPeg_63 ka0 rfl rfl hbr ?_
            refine r_getiN hC 3 (ci := 9) rfl u9_in (by decide) nF_3 dX10_readPeg_66 krm rfl rfl (fun x84_ e84 => ?_)
            have r84 := hs79.rng krm rfl e84
            have f84 : x84_.toInt = (I79 rm 3).toInt := by rw [e84]
            have w84 : x84_ = x31_ := by rw [e84]; exact (Eq.trans (hf79.get krm rfl) (Eq.trans (hf58.get krm rfl) (Eq.trans (hf33.get krm rfl) e31.symm)))
            have wt84 : x84_.toInt = x31_.toInt := by rw [w84]
            refine r_iload_n hC dX10_readPeg_69 1 rfl ?_
            refine x_iastore hC hk83 hn83 (by decide) rfl rfl dX10_readPeg_70 (by omega) (by omega) (fun I85 eI85 => ?_)
            have hs85 := hs79.put0 eI85 hk83 (rng_arr (by decide) _) rfl (xF_arr (by decide) _) (by decide)
            have hF85 := hF79.put eI85 hk83 (inS_arr rfl _)
            refine r_aload_n hC dX10_readPeg_71 2 rfl ?_
            refine r_getr hC 4 (ci := 10) rfl u10_in (by decide) mT_4_239 dX10_readPeg_72 ka0 rfl rfl hbr ?_
            obtain ⟨a86_, hb86, hk86, hn86⟩ := hs85.row krm 12 71 5 (by decide) (by decide)
            refine r_getrN hC 12 (ci := 9) rfl u9_in (by decide) nF_12 dX10_readPeg_75 krm rfl rfl hb86 ?_
            refine r_aload_n hC dX10_readPeg_78 2 rfl ?_
            refine r_getr hC 4 (ci := 10) rfl u10_in (by decide) mT_4_239 dX10_readPeg_79 ka0 rfl rfl hbr ?_
            refine r_getiN hC 3 (ci := 9) rfl u9_in (by decide) nF_3 dX10_readPeg_82 krm rfl rfl (fun x87_ e87 => ?_)
            have r87 := hs85.rng krm rfl e87
            have f87 : x87_.toInt = (I85 rm 3).toInt := by rw [e87]
            have w87 : x87_ = x84_ := by rw [e87]; exact (Eq.trans (up2_kk eI85 hk83 krm (by decide)) e84.symm)
            have wt87 : x87_.toInt = x84_.toInt := by rw [w87]
            refine r_iload_n hC dX10_readPeg_85 0 rfl ?_
            refine x_iastore hC hk86 hn86 (by decide) rfl rfl dX10_readPeg_86 (by omega) (by omega) (fun I88 eI88 => ?_)
            have hs88 := hs85.put0 eI88 hk86 (rng_arr (by decide) _) rfl (xF_arr (by decide) _) (by decide)
            have hF88 := hF85.put eI88 hk86 (inS_arr rfl _)
            refine r_aload_n hC dX10_readPeg_87 2 rfl ?_
            refine r_getr hC 4 (ci := 10) rfl u10_in (by decide) mT_4_239 dX10_readPeg_88 ka0 rfl rfl hbr ?_
            refine r_dup hC dX10_readPeg_91 rfl ?_
            refine r_getiN hC 3 (ci := 9) rfl u9_in (by decide) nF_3 dX10_readPeg_92 krm rfl rfl (fun x89_ e89 => ?_)
            have r89 := hs88.rng krm rfl e89
            have f89 : x89_.toInt = (I88 rm 3).toInt := by rw [e89]
            have w89 : x89_ = x87_ := by rw [e89]; exact (Eq.trans (up2_kk eI88 hk86 krm (by decide)) e87.symm)
            have wt89 : x89_.toInt = x87_.toInt := by rw [w89]
            refine r_iconst hC (v := (1)) dX10_readPeg_95 (by decide) (by decide) (fun x90_ e90 t90 => ?_)
            refine r_iadd hC dX10_readPeg_96 (fun x91_ e91 => ?_)
            try have t91 : x91_.toInt = x89_.toInt + x90_.toInt := by rw [e91]; exact ti_add (by omega) (by omega)
            refine r_putiN hC 3 (ci := 9) rfl u9_in tyX9_ok nmX9 (by decide) nF_3 rfl rfl rfl dX10_readPeg_97 krm rfl rfl (fun I92 eI92 => ?_)
            have hs92 := hs88.put1 eI92 krm rfl (by omega) (by omega) rfl rfl (by decide)
            have hF92 := hF88.put eI92 krm rfl
            have hG3 : I92 rm 3 = x91_ := (by rw [eI92]; exact up2_self _ _ _ _)
            have hG3t : (I92 rm 3).toInt = x91_.toInt := congrArg Int32.toInt hG3
            have hG4 : I92 rm 4 = G4 := (Eq.trans (up2_at (Or.inr (by decide)) eI92) (Eq.trans (up2_kk eI88 hk86 krm (by decide)) (Eq.trans (up2_kk eI85 hk83 krm (by decide)) (Eq.trans (hf79.get krm rfl) (Eq.trans (hf58.get krm rfl) (Eq.trans (hf33.get krm rfl) (Eq.trans (hf4.get krm rfl) eG4.symm)))))))
            have hG4t : (I92 rm 4).toInt = G4.toInt := congrArg Int32.toInt hG4
            have hG7 : I92 rm 7 = G7 := (Eq.trans (up2_at (Or.inr (by decide)) eI92) (Eq.trans (up2_kk eI88 hk86 krm (by decide)) (Eq.trans (up2_kk eI85 hk83 krm (by decide)) (Eq.trans (hf79.get krm rfl) (Eq.trans (hf58.get krm rfl) (Eq.trans (hf33.get krm rfl) (Eq.trans (hf4.get krm rfl) eG7.symm)))))))
            have hG7t : (I92 rm 7).toInt = G7.toInt := congrArg Int32.toInt hG7
            have hG8 : I92 rm 8 = G8 := (Eq.trans (up2_at (Or.inr (by decide)) eI92) (Eq.trans (up2_kk eI88 hk86 krm (by decide)) (Eq.trans (up2_kk eI85 hk83 krm (by decide)) (Eq.trans (hf79.get krm rfl) (Eq.trans (hf58.get krm rfl) (Eq.trans (hf33.get krm rfl) (Eq.trans (hf4.get krm rfl) eG8.symm)))))))
            have hG8t : (I92 rm 8).toInt = G8.toInt := congrArg Int32.toInt hG8
            have hG9 : I92 rm 9 = G9 := (Eq.trans (up2_at (Or.inr (by decide)) eI92) (Eq.trans (up2_kk eI88 hk86 krm (by decide)) (Eq.trans (up2_kk eI85 hk83 krm (by decide)) (Eq.trans (hf79.get krm rfl) (Eq.trans (hf58.get krm rfl) (Eq.trans (hf33.get krm rfl) (Eq.trans (hf4.get krm rfl) eG9.symm)))))))
            have hG9t : (I92 rm 9).toInt = G9.toInt := congrArg Int32.toInt hG9
            have hGN : I92 rm 10 = N1 := (Eq.trans (up2_at (Or.inr (by decide)) eI92) (Eq.trans (up2_kk eI88 hk86 krm (by decide)) (Eq.trans (up2_kk eI85 hk83 krm (by decide)) (Eq.trans (hf79.get krm rfl) (Eq.trans (hf58.get krm rfl) eN1.symm)))))
            have hGNt : (I92 rm 10).toInt = N1.toInt := congrArg Int32.toInt hGN
            have hv8 : I92 a0 8 = A9 := (Eq.trans (up2_kk eI92 krm ka0 (by decide)) (Eq.trans (up2_kk eI88 hk86 ka0 (by decide)) (Eq.trans (up2_kk eI85 hk83 ka0 (by decide)) eA9.symm)))
            have hv8t : (I92 a0 8).toInt = A9.toInt := congrArg Int32.toInt hv8
            have hv9 : I92 a0 9 = x80_ := (Eq.trans (up2_kk eI92 krm ka0 (by decide)) (Eq.trans (up2_kk eI88 hk86 ka0 (by decide)) (Eq.trans (up2_kk eI85 hk83 ka0 (by decide)) e80.symm)))
            have hv9t : (I92 a0 9).toInt = x80_.toInt := congrArg Int32.toInt hv9
            exact r_vret hC hQ hlk hr (by decide) (by decide) dX10_readPeg_100 ⟨_, _, rfl, rfl, ⟨hs92, hF92, hFJ79, (by first | (left; omega) | (right; omega)), (by omega), (by omega), (by omega)⟩⟩
          · have hG3 : I79 rm 3 = x31_ := (Eq.trans (hf79.get krm rfl) (Eq.trans (hf58.get krm rfl) (Eq.trans (hf33.get krm rfl) e31.symm)))
            have hG3t : (I79 rm 3).toInt = x31_.toInt := congrArg Int32.toInt hG3
            have hG4 : I79 rm 4 = G4 := (Eq.trans (hf79.get krm rfl) (Eq.trans (hf58.get krm rfl) (Eq.trans (hf33.get krm rfl) (Eq.trans (hf4.get krm rfl) eG4.symm))))
            have hG4t : (I79 rm 4).toInt = G4.toInt := congrArg Int32.toInt hG4
            have hG7 : I79 rm 7 = G7 := (Eq.trans (hf79.get krm rfl) (Eq.trans (hf58.get krm rfl) (Eq.trans (hf33.get krm rfl) (Eq.trans (hf4.get krm rfl) eG7.symm))))
            have hG7t : (I79 rm 7).toInt = G7.toInt := congrArg Int32.toInt hG7
            have hG8 : I79 rm 8 = G8 := (Eq.trans (hf79.get krm rfl) (Eq.trans (hf58.get krm rfl) (Eq.trans (hf33.get krm rfl) (Eq.trans (hf4.get krm rfl) eG8.symm))))
            have hG8t : (I79 rm 8).toInt = G8.toInt := congrArg Int32.toInt hG8
            have hG9 : I79 rm 9 = G9 := (Eq.trans (hf79.get krm rfl) (Eq.trans (hf58.get krm rfl) (Eq.trans (hf33.get krm rfl) (Eq.trans (hf4.get krm rfl) eG9.symm))))
            have hG9t : (I79 rm 9).toInt = G9.toInt := congrArg Int32.toInt hG9
            have hGN : I79 rm 10 = N1 := (Eq.trans (hf79.get krm rfl) (Eq.trans (hf58.get krm rfl) eN1.symm))
            have hGNt : (I79 rm 10).toInt = N1.toInt := congrArg Int32.toInt hGN
            have hv8 : I79 a0 8 = A9 := eA9.symm
            have hv8t : (I79 a0 8).toInt = A9.toInt := congrArg Int32.toInt hv8
            have hv9 : I79 a0 9 = x80_ := e80.symm
            have hv9t : (I79 a0 9).toInt = x80_.toInt := congrArg Int32.toInt hv9
            exact r_vret hC hQ hlk hr (by decide) (by decide) dX10_readPeg_54 ⟨_, _, rfl, rfl, ⟨hs79, hF79, hFJ79, (by first | (left; omega) | (right; omega)), (by omega), (by omega), (by omega)⟩⟩
        · replace k79_1 := k79_1 sf79
          clear k79_0 md78 sf58
          refine r_istore_n hC (lv' := [(2, .int x79_), (1, .int x58_), (0, .ref a0)]) dX10_readPeg_45 (by decide) rfl ?_
          refine r_aload_n hC dX10_readPeg_46 2 rfl ?_
          obtain ⟨A9, eA9⟩ : ∃ z : Int32, z = I79 a0 8 := ⟨_, rfl⟩
          have fA9 : A9.toInt = (I79 a0 8).toInt := by rw [eA9]
          have rA9 := hs79.rng ka0 rfl eA9
          refine r_geti hC 9 (ci := 10) rfl u10_in (by decide) mT_5_4 dX10_readPeg_47 ka0 rfl rfl (fun x93_ e93 => ?_)
          have f93 : x93_.toInt = (I79 a0 9).toInt := by rw [e93]
          refine r_iconst hC (v := (5)) dX10_readPeg_50 (by decide) (by decide) (fun x94_ e94 t94 => ?_)
          refine r_icmp_ne hC (tgt := 55) dX10_readPeg_51 (by decide) (fun c95 => ?_) (fun c95 => ?_)
          · refine r_aload_n hC dX10_readPeg_55 2 rfl ?_
            refine r_getr hC 4 (ci := 10) rfl u10_in (by decide) mT_4_239 dX10_readPeg_56 ka0 rfl rfl hbr ?_
            obtain ⟨a96_, hb96, hk96, hn96⟩ := hs79.row krm 11 70 5 (by decide) (by decide)
            refine r_getrN hC 11 (ci := 9) rfl u9_in (by decide) nF_11 dX10_readPeg_59 krm rfl rfl hb96 ?_
            refine r_aload_n hC dX10_readPeg_62 2 rfl ?_
            refine r_getr hC 4 (ci := 10) rfl u10_in (by decide) mT_4_239 dX10_readPeg_63 ka0 rfl rfl hbr ?_
            refine r_getiN hC 3 (ci := 9) rfl u9_in (by decide) nF_3 dX10_readPeg_66 krm rfl rfl (fun x97_ e97 => ?_)
            have r97 := hs79.rng krm rfl e97
            have f97 : x97_.toInt = (I79 rm 3).toInt := by rw [e97]
            have w97 : x97_ = x31_ := by rw [e97]; exact (Eq.trans (hf79.get krm rfl) (Eq.trans (hf58.get krm rfl) (Eq.trans (hf33.get krm rfl) e31.symm)))
            have wt97 : x97_.toInt = x31_.toInt := by rw [w97]
            refine r_iload_n hC dX10_readPeg_69 1 rfl ?_
            refine x_iastore hC hk96 hn96 (by decide) rfl rfl dX10_readPeg_70 (by omega) (by omega) (fun I98 eI98 => ?_)
            have hs98 := hs79.put0 eI98 hk96 (rng_arr (by decide) _) rfl (xF_arr (by decide) _) (by decide)
            have hF98 := hF79.put eI98 hk96 (inS_arr rfl _)
            refine r_aload_n hC dX10_readPeg_71 2 rfl ?_
            refine r_getr hC 4 (ci := 10) rfl u10_in (by decide) mT_4_239 dX10_readPeg_72 ka0 rfl rfl hbr ?_
            obtain ⟨a99_, hb99, hk99, hn99⟩ := hs98.row krm 12 71 5 (by decide) (by decide)
            refine r_getrN hC 12 (ci := 9) rfl u9_in (by decide) nF_12 dX10_readPeg_75 krm rfl rfl hb99 ?_
            refine r_aload_n hC dX10_readPeg_78 2 rfl ?_
            refine r_getr hC 4 (ci := 10) rfl u10_in (by decide) mT_4_239 dX10_readPeg_79 ka0 rfl rfl hbr ?_
            refine r_getiN hC 3 (ci := 9) rfl u9_in (by decide) nF_3 dX10_readPeg_82 krm rfl rfl (fun x100_ e100 => ?_)
            have r100 := hs98.rng krm rfl e100
            have f100 : x100_.toInt = (I98 rm 3).toInt := by rw [e100]
            have w100 : x100_ = x97_ := by rw [e100]; exact (Eq.trans (up2_kk eI98 hk96 krm (by decide)) e97.symm)
            have wt100 : x100_.toInt = x97_.toInt := by rw [w100]
            refine r_iload_n hC dX10_readPeg_85 0 rfl ?_
            refine x_iastore hC hk99 hn99 (by decide) rfl rfl dX10_readPeg_86 (by omega) (by omega) (fun I101 eI101 => ?_)
            have hs101 := hs98.put0 eI101 hk99 (rng_arr (by decide) _) rfl (xF_arr (by decide) _) (by decide)
            have hF101 := hF98.put eI101 hk99 (inS_arr rfl _)
            refine r_aload_n hC dX10_readPeg_87 2 rfl ?_
            refine r_getr hC 4 (ci := 10) rfl u10_in (by decide) mT_4_239 dX10_readPeg_88 ka0 rfl rfl hbr ?_
            refine r_dup hC dX10_readPeg_91 rfl ?_
            refine r_getiN hC 3 (ci := 9) rfl u9_in (by decide) nF_3 dX10_readPeg_92 krm rfl rfl (fun x102_ e102 => ?_)
            have r102 := hs101.rng krm rfl e102
            have f102 : x102_.toInt = (I101 rm 3).toInt := by rw [e102]
            have w102 : x102_ = x100_ := by rw [e102]; exact (Eq.trans (up2_kk eI101 hk99 krm (by decide)) e100.symm)
            have wt102 : x102_.toInt = x100_.toInt := by rw [w102]
            refine r_iconst hC (v := (1)) dX10_readPeg_95 (by decide) (by decide) (fun x103_ e103 t103 => ?_)
            refine r_iadd hC dX10_readPeg_96 (fun x104_ e104 => ?_)
            try have t104 : x104_.toInt = x102_.toInt + x103_.toInt := by rw [e104]; exact ti_add (by omega) (by omega)
            refine r_putiN hC 3 (ci := 9) rfl u9_in tyX9_ok nmX9 (by decide) nF_3 rfl rfl rfl dX10_readPeg_97 krm rfl rfl (fun I105 eI105 => ?_)
            have hs105 := hs101.put1 eI105 krm rfl (by omega) (by omega) rfl rfl (by decide)
            have hF105 := hF101.put eI105 krm rfl
            have hG3 : I105 rm 3 = x104_ := (by rw [eI105]; exact up2_self _ _ _ _)
            have hG3t : (I105 rm 3).toInt = x104_.toInt := congrArg Int32.toInt hG3
            have hG4 : I105 rm 4 = G4 := (Eq.trans (up2_at (Or.inr (by decide)) eI105) (Eq.trans (up2_kk eI101 hk99 krm (by decide)) (Eq.trans (up2_kk eI98 hk96 krm (by decide)) (Eq.trans (hf79.get krm rfl) (Eq.trans (hf58.get krm rfl) (Eq.trans (hf33.get krm rfl) (Eq.trans (hf4.get krm rfl) eG4.symm)))))))
            have hG4t : (I105 rm 4).toInt = G4.toInt := congrArg Int32.toInt hG4
            have hG7 : I105 rm 7 = G7 := (Eq.trans (up2_at (Or.inr (by decide)) eI105) (Eq.trans (up2_kk eI101 hk99 krm (by decide)) (Eq.trans (up2_kk eI98 hk96 krm (by decide)) (Eq.trans (hf79.get krm rfl) (Eq.trans (hf58.get krm rfl) (Eq.trans (hf33.get krm rfl) (Eq.trans (hf4.get krm rfl) eG7.symm)))))))
            have hG7t : (I105 rm 7).toInt = G7.toInt := congrArg Int32.toInt hG7
            have hG8 : I105 rm 8 = G8 := (Eq.trans (up2_at (Or.inr (by decide)) eI105) (Eq.trans (up2_kk eI101 hk99 krm (by decide)) (Eq.trans (up2_kk eI98 hk96 krm (by decide)) (Eq.trans (hf79.get krm rfl) (Eq.trans (hf58.get krm rfl) (Eq.trans (hf33.get krm rfl) (Eq.trans (hf4.get krm rfl) eG8.symm)))))))
            have hG8t : (I105 rm 8).toInt = G8.toInt := congrArg Int32.toInt hG8
            have hG9 : I105 rm 9 = G9 := (Eq.trans (up2_at (Or.inr (by decide)) eI105) (Eq.trans (up2_kk eI101 hk99 krm (by decide)) (Eq.trans (up2_kk eI98 hk96 krm (by decide)) (Eq.trans (hf79.get krm rfl) (Eq.trans (hf58.get krm rfl) (Eq.trans (hf33.get krm rfl) (Eq.trans (hf4.get krm rfl) eG9.symm)))))))
            have hG9t : (I105 rm 9).toInt = G9.toInt := congrArg Int32.toInt hG9
            have hGN : I105 rm 10 = N1 := (Eq.trans (up2_at (Or.inr (by decide)) eI105) (Eq.trans (up2_kk eI101 hk99 krm (by decide)) (Eq.trans (up2_kk eI98 hk96 krm (by decide)) (Eq.trans (hf79.get krm rfl) (Eq.trans (hf58.get krm rfl) eN1.symm)))))
            have hGNt : (I105 rm 10).toInt = N1.toInt := congrArg Int32.toInt hGN
            have hv8 : I105 a0 8 = A9 := (Eq.trans (up2_kk eI105 krm ka0 (by decide)) (Eq.trans (up2_kk eI101 hk99 ka0 (by decide)) (Eq.trans (up2_kk eI98 hk96 ka0 (by decide)) eA9.symm)))
            have hv8t : (I105 a0 8).toInt = A9.toInt := congrArg Int32.toInt hv8
            have hv9 : I105 a0 9 = x93_ := (Eq.trans (up2_kk eI105 krm ka0 (by decide)) (Eq.trans (up2_kk eI101 hk99 ka0 (by decide)) (Eq.trans (up2_kk eI98 hk96 ka0 (by decide)) e93.symm)))
            have hv9t : (I105 a0 9).toInt = x93_.toInt := congrArg Int32.toInt hv9
            exact r_vret hC hQ hlk hr (by decide) (by decide) dX10_readPeg_100 ⟨_, _, rfl, rfl, ⟨hs105, hF105, hFJ79, (by first | (left; omega) | (right; omega)), (by omega), (by omega), (by omega)⟩⟩
          · have hG3 : I79 rm 3 = x31_ := (Eq.trans (hf79.get krm rfl) (Eq.trans (hf58.get krm rfl) (Eq.trans (hf33.get krm rfl) e31.symm)))
            have hG3t : (I79 rm 3).toInt = x31_.toInt := congrArg Int32.toInt hG3
            have hG4 : I79 rm 4 = G4 := (Eq.trans (hf79.get krm rfl) (Eq.trans (hf58.get krm rfl) (Eq.trans (hf33.get krm rfl) (Eq.trans (hf4.get krm rfl) eG4.symm))))
            have hG4t : (I79 rm 4).toInt = G4.toInt := congrArg Int32.toInt hG4
            have hG7 : I79 rm 7 = G7 := (Eq.trans (hf79.get krm rfl) (Eq.trans (hf58.get krm rfl) (Eq.trans (hf33.get krm rfl) (Eq.trans (hf4.get krm rfl) eG7.symm))))
            have hG7t : (I79 rm 7).toInt = G7.toInt := congrArg Int32.toInt hG7
            have hG8 : I79 rm 8 = G8 := (Eq.trans (hf79.get krm rfl) (Eq.trans (hf58.get krm rfl) (Eq.trans (hf33.get krm rfl) (Eq.trans (hf4.get krm rfl) eG8.symm))))
            have hG8t : (I79 rm 8).toInt = G8.toInt := congrArg Int32.toInt hG8
            have hG9 : I79 rm 9 = G9 := (Eq.trans (hf79.get krm rfl) (Eq.trans (hf58.get krm rfl) (Eq.trans (hf33.get krm rfl) (Eq.trans (hf4.get krm rfl) eG9.symm))))
            have hG9t : (I79 rm 9).toInt = G9.toInt := congrArg Int32.toInt hG9
            have hGN : I79 rm 10 = N1 := (Eq.trans (hf79.get krm rfl) (Eq.trans (hf58.get krm rfl) eN1.symm))
            have hGNt : (I79 rm 10).toInt = N1.toInt := congrArg Int32.toInt hGN
            have hv8 : I79 a0 8 = A9 := eA9.symm
            have hv8t : (I79 a0 8).toInt = A9.toInt := congrArg Int32.toInt hv8
            have hv9 : I79 a0 9 = x93_ := e93.symm
            have hv9t : (I79 a0 9).toInt = x93_.toInt := congrArg Int32.toInt hv9
            exact r_vret hC hQ hlk hr (by decide) (by decide) dX10_readPeg_54 ⟨_, _, rfl, rfl, ⟨hs79, hF79, hFJ79, (by first | (left; omega) | (right; omega)), (by omega), (by omega), (by omega)⟩⟩
set_option maxHeartbeats 4000000 in
set_option maxRecDepth 100000 in
theorem c_X10_readFrom (g : GG) (l : Launch) (K len : Nat → Nat) (I : Nat → Nat → Int32) (J : Nat → Nat → Int64) (R : Nat → Nat → Option Nat) (hs : Sf K len I R) (a0 : Nat) (ka0 : K a0 = 11) (rm : Nat) (hbr : R a0 4 = some rm) (krm : K rm = 10) (p0 : (I a0 9).toInt = 2) (p1 : (I rm 10).toInt ≤ (I rm 3).toInt + (I rm 7).toInt + (I rm 8).toInt + (I rm 9).toInt) (p2 : (I rm 4).toInt ≤ 8) : Ct g l yX10_readFrom cX10_readFrom 3 (Option.none : Option Jvm.ClassFile.FieldType) rmX10_readFrom [.ref a0] (K, len, I, J, R) (pV2 (K, len, I, J, R) (fun I' J' => Sf K len I' R ∧ Fr K [(10, 4), (10, 5), (11, 8), (11, 9), (11, 10), (11, 11), (11, 12), (11, 13), (72, 999), (73, 999)] I I' ∧ Fr K [(11, 14)] J J' ∧ ((I' a0 9).toInt = 5 ∨ (I' rm 10).toInt ≤ (I' rm 3).toInt + (I' rm 7).toInt + (I' rm 8).toInt + (I' rm 9).toInt) ∧ ((I' rm 4).toInt ≤ 8) ∧ ((I a0 8).toInt ≤ (I' a0 8).toInt) ∧ ((I' a0 9).toInt = 4 → (I a0 8).toInt < (I' a0 8).toInt))) := by
  refine Ct_intro (by decide +kernel) (Nat.le_of_ble_eq_true rfl) (fun X hC hL hKK hNm hr hlk hQ => ?_)
  subst hL
  have hC : Cx g X cX10_readFrom "HillTapModel" 3 rmX10_readFrom := hC
  show P g X 3 0 [(0, .ref a0)] [] 0 0 (K, len, I, J, R)
  have hF : Fr K [(10, 4), (10, 5), (11, 8), (11, 9), (11, 10), (11, 11), (11, 12), (11, 13), (72, 999), (73, 999)] I I := Fr.refl
  have hFJ : Fr K [(11, 14)] J J := Fr.refl
  obtain ⟨G3, eG3⟩ : ∃ z : Int32, z = I rm 3 := ⟨_, rfl⟩
  have fG3 : G3.toInt = (I rm 3).toInt := by rw [eG3]
  have rG3 := hs.rng krm rfl eG3
  obtain ⟨G4, eG4⟩ : ∃ z : Int32, z = I rm 4 := ⟨_, rfl⟩
  have fG4 : G4.toInt = (I rm 4).toInt := by rw [eG4]
  have rG4 := hs.rng krm rfl eG4
  obtain ⟨G7, eG7⟩ : ∃ z : Int32, z = I rm 7 := ⟨_, rfl⟩
  have fG7 : G7.toInt = (I rm 7).toInt := by rw [eG7]
  have rG7 := hs.rng krm rfl eG7
  obtain ⟨G8, eG8⟩ : ∃ z : Int32, z = I rm 8 := ⟨_, rfl⟩
  have fG8 : G8.toInt = (I rm 8).toInt := by rw [eG8]
  have rG8 := hs.rng krm rfl eG8
  obtain ⟨G9, eG9⟩ : ∃ z : Int32, z = I rm 9 := ⟨_, rfl⟩
  have fG9 : G9.toInt = (I rm 9).toInt := by rw [eG9]
  have rG9 := hs.rng krm rfl eG9
  obtain ⟨GN, eGN⟩ : ∃ z : Int32, z = I rm 10 := ⟨_, rfl⟩
  have fGN : GN.toInt = (I rm 10).toInt := by rw [eGN]
  have rGN := hs.rng krm rfl eGN
  obtain ⟨A0, eA0⟩ : ∃ z : Int32, z = I a0 8 := ⟨_, rfl⟩
  have fA0 : A0.toInt = (I a0 8).toInt := by rw [eA0]
  have rA0 := hs.rng ka0 rfl eA0
  obtain ⟨T0, eT0⟩ : ∃ z : Int32, z = I a0 9 := ⟨_, rfl⟩
  have fT0 : T0.toInt = (I a0 9).toInt := by rw [eT0]
  refine r_aload_n hC dX10_readFrom_0 0 rfl ?_
  refine r_aload_n hC dX10_readFrom_1 0 rfl ?_
  refine r_getr hC 4 (ci := 10) rfl u10_in (by decide) mT_4_239 dX10_readFrom_2 ka0 rfl rfl hbr ?_
  refine r_getiN hC 4 (ci := 9) rfl u9_in (by decide) nF_4 dX10_readFrom_5 krm rfl rfl (fun x1_ e1 => ?_)
  have r1 := hs.rng krm rfl e1
  have f1 : x1_.toInt = (I rm 4).toInt := by rw [e1]
  have w1 : x1_ = G4 := by rw [e1]; exact eG4.symm
  have wt1 : x1_.toInt = G4.toInt := by rw [w1]
  refine r_bipush hC (v := (8)) dX10_readFrom_8 (by decide) (by decide) (fun x2_ e2 t2 => ?_)
  have md3 : (I a0 9).toInt ≠ 5 := by omega
  refine r_callV hC (As := [.int x1_, .int x2_]) (rest := []) (ci := 10) (c_X10_begins g (xL X) K len I J R hs a0 ka0 x1_ x2_) mT_6_19 mT_1_10 mT_6_16 mT_6_18 mP_59 okX10_begins ⟨by decide, by decide⟩ rfl (by show kO (K a0) = _; rw [ka0]; rfl) rfl rfl (Nat.le_of_ble_eq_true rfl) ⟨by decide, by decide⟩ dX10_readFrom_10 (aV2 (F := fun st M => P g X 3 13 [(0, .ref a0)] st _ _ M) (M := (K, len, I, J, R)) fun I4 J4 h4 => ?_)
  obtain ⟨hs4, hf4, hfj4, k4_0, k4_1, k4_2, k4_3⟩ := h4
  show P g X 3 13 [(0, .ref a0)] [] _ _ (K, len, I4, J4, R)
  have hF4 : Fr K [(10, 4), (10, 5), (11, 8), (11, 9), (11, 10), (11, 11), (11, 12), (11, 13), (72, 999), (73, 999)] I I4 := hF.trans hf4 rfl rfl
  have hFJ4 : Fr K [(11, 14)] J J4 := hFJ.trans hfj4 rfl rfl
  by_cases sf4 : (I4 a0 9).toInt = 5
  · clear k4_0 k4_1 k4_3 md3
    refine r_aload_n hC dX10_readFrom_13 0 rfl ?_
    refine r_iconst hC (v := (0)) dX10_readFrom_14 (by decide) (by decide) (fun x5_ e5 t5 => ?_)
    refine r_bipush hC (v := (59)) dX10_readFrom_15 (by decide) (by decide) (fun x6_ e6 t6 => ?_)
    have md7 : (I4 a0 9).toInt = 5 := by omega
    refine r_callV hC (As := [.int x5_, .int x6_]) (rest := []) (ci := 10) (c_X10_readWhole g (xL X) K len I4 J4 R hs4 a0 ka0 x5_ x6_) mT_6_5 mT_1_10 mT_6_2 mT_6_4 mP_57 okX10_readWhole ⟨by decide, by decide⟩ rfl (by show kO (K a0) = _; rw [ka0]; rfl) rfl rfl (Nat.le_of_ble_eq_true rfl) ⟨by decide, by decide⟩ dX10_readFrom_17 (aI2 (F := fun st M => P g X 3 20 [(0, .ref a0)] st _ _ M) (M := (K, len, I4, J4, R)) fun x8_ I8 J8 h8 => ?_)
    obtain ⟨hs8, hf8, hfj8, k8_0, k8_1, k8_2, k8_3⟩ := h8
    show P g X 3 20 [(0, .ref a0)] [.int x8_] _ _ (K, len, I8, J8, R)
    have hF8 : Fr K [(10, 4), (10, 5), (11, 8), (11, 9), (11, 10), (11, 11), (11, 12), (11, 13), (72, 999), (73, 999)] I I8 := hF4.trans hf8 rfl rfl
    have hFJ8 : Fr K [(11, 14)] J J8 := hFJ4.trans hfj8 rfl rfl
    have sf8 := k8_0 md7
    clear k8_0 k8_1 k8_3 md7 sf4
    refine r_istore_n hC (lv' := [(1, .int x8_), (0, .ref a0)]) dX10_readFrom_20 (by decide) rfl ?_
    refine r_aload_n hC dX10_readFrom_21 1 rfl ?_
    refine r_ldcS hC (i := 43) (by decide) rfl rfl dX10_readFrom_22 ?_
    refine r_iconst hC (v := (0)) dX10_readFrom_24 (by decide) (by decide) (fun x9_ e9 t9 => ?_)
    refine r_sipush hC (v := (999)) dX10_readFrom_25 (by decide) (by decide) (fun x10_ e10 t10 => ?_)
    have md11 : (I8 a0 9).toInt = 5 := by omega
    refine r_callV hC (As := [.ref (g.2.2.1 43), .int x9_, .int x10_]) (rest := []) (ci := 10) (c_X10_readPart g (xL X) K len I8 J8 R hs8 a0 ka0 43 (by decide) x9_ x10_) mT_6_1 mT_1_10 mT_5_238 mT_6_0 mP_56 okX10_readPart ⟨by decide, by decide⟩ rfl (by show kO (K a0) = _; rw [ka0]; rfl) rfl rfl (Nat.le_of_ble_eq_true rfl) ⟨by decide, by decide⟩ dX10_readFrom_28 (aI2 (F := fun st M => P g X 3 31 [(1, .int x8_), (0, .ref a0)] st _ _ M) (M := (K, len, I8, J8, R)) fun x12_ I12 J12 h12 => ?_)
    obtain ⟨hs12, hf12, hfj12, k12_0, k12_1, k12_2, k12_3⟩ := h12
    show P g X 3 31 [(1, .int x8_), (0, .ref a0)] [.int x12_] _ _ (K, len, I12, J12, R)
    have hF12 : Fr K [(10, 4), (10, 5), (11, 8), (11, 9), (11, 10), (11, 11), (11, 12), (11, 13), (72, 999), (73, 999)] I I12 := hF8.trans hf12 rfl rfl
    have hFJ12 : Fr K [(11, 14)] J J12 := hFJ8.trans hfj12 rfl rfl
    have sf12 := k12_0 md11
    clear k12_0 k12_1 k12_3 md11 sf8
    refine r_istore_n hC (lv' := [(2, .int x12_), (1, .int x8_), (0, .ref a0)]) dX10_readFrom_31 (by decide) rfl ?_
    refine r_aload_n hC dX10_readFrom_32 2 rfl ?_
    obtain ⟨A9, eA9⟩ : ∃ z : Int32, z = I12 a0 8 := ⟨_, rfl⟩
    have fA9 : A9.toInt = (I12 a0 8).toInt := by rw [eA9]
    have rA9 := hs12.rng ka0 rfl eA9
    refine r_geti hC 9 (ci := 10) rfl u10_in (by decide) mT_5_4 dX10_readFrom_33 ka0 rfl rfl (fun x13_ e13 => ?_)
    have f13 : x13_.toInt = (I12 a0 9).toInt := by rw [e13]
    refine r_iconst hC (v := (5)) dX10_readFrom_36 (by decide) (by decide) (fun x14_ e14 t14 => ?_)
    refine r_icmp_ne hC (tgt := 41) dX10_readFrom_37 (by decide) (fun c15 => ?_) (fun c15 => ?_)
    · refine r_aload_n hC dX10_readFrom_41 2 rfl ?_
      refine r_getr hC 4 (ci := 10) rfl u10_in (by decide) mT_4_239 dX10_readFrom_42 ka0 rfl rfl hbr ?_
      obtain ⟨a16_, hb16, hk16, hn16⟩ := hs12.row krm 13 72 16 (by decide) (by decide)
      refine r_getrN hC 13 (ci := 9) rfl u9_in (by decide) nF_13 dX10_readFrom_45 krm rfl rfl hb16 ?_
      refine r_aload_n hC dX10_readFrom_48 2 rfl ?_
      refine r_getr hC 4 (ci := 10) rfl u10_in (by decide) mT_4_239 dX10_readFrom_49 ka0 rfl rfl hbr ?_
      refine r_getiN hC 4 (ci := 9) rfl u9_in (by decide) nF_4 dX10_readFrom_52 krm rfl rfl (fun x17_ e17 => ?_)
      have r17 := hs12.rng krm rfl e17
      have f17 : x17_.toInt = (I12 rm 4).toInt := by rw [e17]
      have w17 : x17_ = x1_ := by rw [e17]; exact (Eq.trans (hf12.get krm rfl) (Eq.trans (hf8.get krm rfl) (Eq.trans (hf4.get krm rfl) e1.symm)))
      have wt17 : x17_.toInt = x1_.toInt := by rw [w17]
      refine r_iload_n hC dX10_readFrom_55 1 rfl ?_
      refine x_iastore hC hk16 hn16 (by decide) rfl rfl dX10_readFrom_56 (by omega) (by omega) (fun I18 eI18 => ?_)
      have hs18 := hs12.put0 eI18 hk16 (rng_arr (by decide) _) rfl (xF_arr (by decide) _) (by decide)
      have hF18 := hF12.put eI18 hk16 (inS_arr rfl _)
      refine r_aload_n hC dX10_readFrom_57 2 rfl ?_
      refine r_getr hC 4 (ci := 10) rfl u10_in (by decide) mT_4_239 dX10_readFrom_58 ka0 rfl rfl hbr ?_
      obtain ⟨a19_, hb19, hk19, hn19⟩ := hs18.row krm 14 73 16 (by decide) (by decide)
      refine r_getrN hC 14 (ci := 9) rfl u9_in (by decide) nF_14 dX10_readFrom_61 krm rfl rfl hb19 ?_
      refine r_aload_n hC dX10_readFrom_64 2 rfl ?_
      refine r_getr hC 4 (ci := 10) rfl u10_in (by decide) mT_4_239 dX10_readFrom_65 ka0 rfl rfl hbr ?_
      refine r_getiN hC 4 (ci := 9) rfl u9_in (by decide) nF_4 dX10_readFrom_68 krm rfl rfl (fun x20_ e20 => ?_)
      have r20 := hs18.rng krm rfl e20
      have f20 : x20_.toInt = (I18 rm 4).toInt := by rw [e20]
      have w20 : x20_ = x17_ := by rw [e20]; exact (Eq.trans (up2_kk eI18 hk16 krm (by decide)) e17.symm)
      have wt20 : x20_.toInt = x17_.toInt := by rw [w20]
      refine r_iload_n hC dX10_readFrom_71 0 rfl ?_
      refine x_iastore hC hk19 hn19 (by decide) rfl rfl dX10_readFrom_72 (by omega) (by omega) (fun I21 eI21 => ?_)
      have hs21 := hs18.put0 eI21 hk19 (rng_arr (by decide) _) rfl (xF_arr (by decide) _) (by decide)
      have hF21 := hF18.put eI21 hk19 (inS_arr rfl _)
      refine r_aload_n hC dX10_readFrom_73 2 rfl ?_
      refine r_getr hC 4 (ci := 10) rfl u10_in (by decide) mT_4_239 dX10_readFrom_74 ka0 rfl rfl hbr ?_
      refine r_dup hC dX10_readFrom_77 rfl ?_
      refine r_getiN hC 4 (ci := 9) rfl u9_in (by decide) nF_4 dX10_readFrom_78 krm rfl rfl (fun x22_ e22 => ?_)
      have r22 := hs21.rng krm rfl e22
      have f22 : x22_.toInt = (I21 rm 4).toInt := by rw [e22]
      have w22 : x22_ = x20_ := by rw [e22]; exact (Eq.trans (up2_kk eI21 hk19 krm (by decide)) e20.symm)
      have wt22 : x22_.toInt = x20_.toInt := by rw [w22]
      refine r_iconst hC (v := (1)) dX10_readFrom_81 (by decide) (by decide) (fun x23_ e23 t23 => ?_)
      refine r_iadd hC dX10_readFrom_82 (fun x24_ e24 => ?_)
      try have t24 : x24_.toInt = x22_.toInt + x23_.toInt := by rw [e24]; exact ti_add (by omega) (by omega)
      refine r_putiN hC 4 (ci := 9) rfl u9_in tyX9_ok nmX9 (by decide) nF_4 rfl rfl rfl dX10_readFrom_83 krm rfl rfl (fun I25 eI25 => ?_)
      have hs25 : Sf K len I25 R := hs21.putA4 eI25 krm (by omega) (by omega) (by have h9 := hs21.told krm; omega)
      have hF25 := hF21.put eI25 krm rfl
      refine r_aload_n hC dX10_readFrom_86 2 rfl ?_
      refine r_getr hC 4 (ci := 10) rfl u10_in (by decide) mT_4_239 dX10_readFrom_87 ka0 rfl rfl hbr ?_
      refine r_aload_n hC dX10_readFrom_90 2 rfl ?_
      refine r_getr hC 4 (ci := 10) rfl u10_in (by decide) mT_4_239 dX10_readFrom_91 ka0 rfl rfl hbr ?_
      refine r_getiN hC 4 (ci := 9) rfl u9_in (by decide) nF_4 dX10_readFrom_94 krm rfl rfl (fun x26_ e26 => ?_)
      have r26 := hs25.rng krm rfl e26
      have f26 : x26_.toInt = (I25 rm 4).toInt := by rw [e26]
      have w26 : x26_ = x24_ := by rw [e26]; exact (by rw [eI25]; exact up2_self _ _ _ _)
      have wt26 : x26_.toInt = x24_.toInt := by rw [w26]
      refine r_putiN hC 5 (ci := 9) rfl u9_in tyX9_ok nmX9 (by decide) nF_5 rfl rfl rfl dX10_readFrom_97 krm rfl rfl (fun I27 eI27 => ?_)
      have hs27 : Sf K len I27 R := hs25.putA5 eI27 krm (by omega) (by omega) (by omega)
      have hF27 := hF25.put eI27 krm rfl
      have hG3 : I27 rm 3 = G3 := (Eq.trans (up2_at (Or.inr (by decide)) eI27) (Eq.trans (up2_at (Or.inr (by decide)) eI25) (Eq.trans (up2_kk eI21 hk19 krm (by decide)) (Eq.trans (up2_kk eI18 hk16 krm (by decide)) (Eq.trans (hf12.get krm rfl) (Eq.trans (hf8.get krm rfl) (Eq.trans (hf4.get krm rfl) eG3.symm)))))))
      have hG3t : (I27 rm 3).toInt = G3.toInt := congrArg Int32.toInt hG3
      have hG4 : I27 rm 4 = x26_ := (Eq.trans (up2_at (Or.inr (by decide)) eI27) e26.symm)
      have hG4t : (I27 rm 4).toInt = x26_.toInt := congrArg Int32.toInt hG4
      have hG7 : I27 rm 7 = G7 := (Eq.trans (up2_at (Or.inr (by decide)) eI27) (Eq.trans (up2_at (Or.inr (by decide)) eI25) (Eq.trans (up2_kk eI21 hk19 krm (by decide)) (Eq.trans (up2_kk eI18 hk16 krm (by decide)) (Eq.trans (hf12.get krm rfl) (Eq.trans (hf8.get krm rfl) (Eq.trans (hf4.get krm rfl) eG7.symm)))))))
      have hG7t : (I27 rm 7).toInt = G7.toInt := congrArg Int32.toInt hG7
      have hG8 : I27 rm 8 = G8 := (Eq.trans (up2_at (Or.inr (by decide)) eI27) (Eq.trans (up2_at (Or.inr (by decide)) eI25) (Eq.trans (up2_kk eI21 hk19 krm (by decide)) (Eq.trans (up2_kk eI18 hk16 krm (by decide)) (Eq.trans (hf12.get krm rfl) (Eq.trans (hf8.get krm rfl) (Eq.trans (hf4.get krm rfl) eG8.symm)))))))
      have hG8t : (I27 rm 8).toInt = G8.toInt := congrArg Int32.toInt hG8
      have hG9 : I27 rm 9 = G9 := (Eq.trans (up2_at (Or.inr (by decide)) eI27) (Eq.trans (up2_at (Or.inr (by decide)) eI25) (Eq.trans (up2_kk eI21 hk19 krm (by decide)) (Eq.trans (up2_kk eI18 hk16 krm (by decide)) (Eq.trans (hf12.get krm rfl) (Eq.trans (hf8.get krm rfl) (Eq.trans (hf4.get krm rfl) eG9.symm)))))))
      have hG9t : (I27 rm 9).toInt = G9.toInt := congrArg Int32.toInt hG9
      have hGN : I27 rm 10 = GN := (Eq.trans (up2_at (Or.inr (by decide)) eI27) (Eq.trans (up2_at (Or.inr (by decide)) eI25) (Eq.trans (up2_kk eI21 hk19 krm (by decide)) (Eq.trans (up2_kk eI18 hk16 krm (by decide)) (Eq.trans (hf12.get krm rfl) (Eq.trans (hf8.get krm rfl) (Eq.trans (hf4.get krm rfl) eGN.symm)))))))
      have hGNt : (I27 rm 10).toInt = GN.toInt := congrArg Int32.toInt hGN
      have hv8 : I27 a0 8 = A9 := (Eq.trans (up2_kk eI27 krm ka0 (by decide)) (Eq.trans (up2_kk eI25 krm ka0 (by decide)) (Eq.trans (up2_kk eI21 hk19 ka0 (by decide)) (Eq.trans (up2_kk eI18 hk16 ka0 (by decide)) eA9.symm))))
      have hv8t : (I27 a0 8).toInt = A9.toInt := congrArg Int32.toInt hv8
      have hv9 : I27 a0 9 = x13_ := (Eq.trans (up2_kk eI27 krm ka0 (by decide)) (Eq.trans (up2_kk eI25 krm ka0 (by decide)) (Eq.trans (up2_kk eI21 hk19 ka0 (by decide)) (Eq.trans (up2_kk eI18 hk16 ka0 (by decide)) e13.symm))))
      have hv9t : (I27 a0 9).toInt = x13_.toInt := congrArg Int32.toInt hv9
      exact r_vret hC hQ hlk hr (by decide) (by decide) dX10_readFrom_100 ⟨_, _, rfl, rfl, ⟨hs27, hF27, hFJ12, (by first | (left; omega) | (right; omega)), (by omega), (by omega), (by omega)⟩⟩
    · have hG3 : I12 rm 3 = G3 := (Eq.trans (hf12.get krm rfl) (Eq.trans (hf8.get krm rfl) (Eq.trans (hf4.get krm rfl) eG3.symm)))
      have hG3t : (I12 rm 3).toInt = G3.toInt := congrArg Int32.toInt hG3
      have hG4 : I12 rm 4 = x1_ := (Eq.trans (hf12.get krm rfl) (Eq.trans (hf8.get krm rfl) (Eq.trans (hf4.get krm rfl) e1.symm)))
      have hG4t : (I12 rm 4).toInt = x1_.toInt := congrArg Int32.toInt hG4
      have hG7 : I12 rm 7 = G7 := (Eq.trans (hf12.get krm rfl) (Eq.trans (hf8.get krm rfl) (Eq.trans (hf4.get krm rfl) eG7.symm)))
      have hG7t : (I12 rm 7).toInt = G7.toInt := congrArg Int32.toInt hG7
      have hG8 : I12 rm 8 = G8 := (Eq.trans (hf12.get krm rfl) (Eq.trans (hf8.get krm rfl) (Eq.trans (hf4.get krm rfl) eG8.symm)))
      have hG8t : (I12 rm 8).toInt = G8.toInt := congrArg Int32.toInt hG8
      have hG9 : I12 rm 9 = G9 := (Eq.trans (hf12.get krm rfl) (Eq.trans (hf8.get krm rfl) (Eq.trans (hf4.get krm rfl) eG9.symm)))
      have hG9t : (I12 rm 9).toInt = G9.toInt := congrArg Int32.toInt hG9
      have hGN : I12 rm 10 = GN := (Eq.trans (hf12.get krm rfl) (Eq.trans (hf8.get krm rfl) (Eq.trans (hf4.get krm rfl) eGN.symm)))
      have hGNt : (I12 rm 10).toInt = GN.toInt := congrArg Int32.toInt hGN
      have hv8 : I12 a0 8 = A9 := eA9.symm
      have hv8t : (I12 a0 8).toInt = A9.toInt := congrArg Int32.toInt hv8
      have hv9 : I12 a0 9 = x13_ := e13.symm
      have hv9t : (I12 a0 9).toInt = x13_.toInt := congrArg Int32.toInt hv9
      exact r_vret hC hQ hlk hr (by decide) (by decide) dX10_readFrom_40 ⟨_, _, rfl, rfl, ⟨hs12, hF12, hFJ12, (by first | (left; omega) | (right; omega)), (by omega), (by omega), (by omega)⟩⟩
  · replace k4_1 := mt k4_1 sf4
    clear k4_0 md3
    refine r_aload_n hC dX10_readFrom_13 0 rfl ?_
    refine r_iconst hC (v := (0)) dX10_readFrom_14 (by decide) (by decide) (fun x28_ e28 t28 => ?_)
    refine r_bipush hC (v := (59)) dX10_readFrom_15 (by decide) (by decide) (fun x29_ e29 t29 => ?_)
    have md30 : (I4 a0 9).toInt ≠ 5 := by omega
    refine r_callV hC (As := [.int x28_, .int x29_]) (rest := []) (ci := 10) (c_X10_readWhole g (xL X) K len I4 J4 R hs4 a0 ka0 x28_ x29_) mT_6_5 mT_1_10 mT_6_2 mT_6_4 mP_57 okX10_readWhole ⟨by decide, by decide⟩ rfl (by show kO (K a0) = _; rw [ka0]; rfl) rfl rfl (Nat.le_of_ble_eq_true rfl) ⟨by decide, by decide⟩ dX10_readFrom_17 (aI2 (F := fun st M => P g X 3 20 [(0, .ref a0)] st _ _ M) (M := (K, len, I4, J4, R)) fun x31_ I31 J31 h31 => ?_)
    obtain ⟨hs31, hf31, hfj31, k31_0, k31_1, k31_2, k31_3⟩ := h31
    show P g X 3 20 [(0, .ref a0)] [.int x31_] _ _ (K, len, I31, J31, R)
    have hF31 : Fr K [(10, 4), (10, 5), (11, 8), (11, 9), (11, 10), (11, 11), (11, 12), (11, 13), (72, 999), (73, 999)] I I31 := hF4.trans hf31 rfl rfl
    have hFJ31 : Fr K [(11, 14)] J J31 := hFJ4.trans hfj31 rfl rfl
    clear k4_3
    by_cases sf31 : (I31 a0 9).toInt = 5
    · clear k31_0 k31_1 k31_3 md30 sf4
      refine r_istore_n hC (lv' := [(1, .int x31_), (0, .ref a0)]) dX10_readFrom_20 (by decide) rfl ?_
      refine r_aload_n hC dX10_readFrom_21 1 rfl ?_
      refine r_ldcS hC (i := 43) (by decide) rfl rfl dX10_readFrom_22 ?_
      refine r_iconst hC (v := (0)) dX10_readFrom_24 (by decide) (by decide) (fun x32_ e32 t32 => ?_)
      refine r_sipush hC (v := (999)) dX10_readFrom_25 (by decide) (by decide) (fun x33_ e33 t33 => ?_)
      have md34 : (I31 a0 9).toInt = 5 := by omega
      refine r_callV hC (As := [.ref (g.2.2.1 43), .int x32_, .int x33_]) (rest := []) (ci := 10) (c_X10_readPart g (xL X) K len I31 J31 R hs31 a0 ka0 43 (by decide) x32_ x33_) mT_6_1 mT_1_10 mT_5_238 mT_6_0 mP_56 okX10_readPart ⟨by decide, by decide⟩ rfl (by show kO (K a0) = _; rw [ka0]; rfl) rfl rfl (Nat.le_of_ble_eq_true rfl) ⟨by decide, by decide⟩ dX10_readFrom_28 (aI2 (F := fun st M => P g X 3 31 [(1, .int x31_), (0, .ref a0)] st _ _ M) (M := (K, len, I31, J31, R)) fun x35_ I35 J35 h35 => ?_)
      obtain ⟨hs35, hf35, hfj35, k35_0, k35_1, k35_2, k35_3⟩ := h35
      show P g X 3 31 [(1, .int x31_), (0, .ref a0)] [.int x35_] _ _ (K, len, I35, J35, R)
      have hF35 : Fr K [(10, 4), (10, 5), (11, 8), (11, 9), (11, 10), (11, 11), (11, 12), (11, 13), (72, 999), (73, 999)] I I35 := hF31.trans hf35 rfl rfl
      have hFJ35 : Fr K [(11, 14)] J J35 := hFJ31.trans hfj35 rfl rfl
      have sf35 := k35_0 md34
      clear k35_0 k35_1 k35_3 md34 sf31
      refine r_istore_n hC (lv' := [(2, .int x35_), (1, .int x31_), (0, .ref a0)]) dX10_readFrom_31 (by decide) rfl ?_
      refine r_aload_n hC dX10_readFrom_32 2 rfl ?_
      obtain ⟨A9, eA9⟩ : ∃ z : Int32, z = I35 a0 8 := ⟨_, rfl⟩
      have fA9 : A9.toInt = (I35 a0 8).toInt := by rw [eA9]
      have rA9 := hs35.rng ka0 rfl eA9
      refine r_geti hC 9 (ci := 10) rfl u10_in (by decide) mT_5_4 dX10_readFrom_33 ka0 rfl rfl (fun x36_ e36 => ?_)
      have f36 : x36_.toInt = (I35 a0 9).toInt := by rw [e36]
      refine r_iconst hC (v := (5)) dX10_readFrom_36 (by decide) (by decide) (fun x37_ e37 t37 => ?_)
      refine r_icmp_ne hC (tgt := 41) dX10_readFrom_37 (by decide) (fun c38 => ?_) (fun c38 => ?_)
      · refine r_aload_n hC dX10_readFrom_41 2 rfl ?_
        refine r_getr hC 4 (ci := 10) rfl u10_in (by decide) mT_4_239 dX10_readFrom_42 ka0 rfl rfl hbr ?_
        obtain ⟨a39_, hb39, hk39, hn39⟩ := hs35.row krm 13 72 16 (by decide) (by decide)
        refine r_getrN hC 13 (ci := 9) rfl u9_in (by decide) nF_13 dX10_readFrom_45 krm rfl rfl hb39 ?_
        refine r_aload_n hC dX10_readFrom_48 2 rfl ?_
        refine r_getr hC 4 (ci := 10) rfl u10_in (by decide) mT_4_239 dX10_readFrom_49 ka0 rfl rfl hbr ?_
        refine r_getiN hC 4 (ci := 9) rfl u9_in (by decide) nF_4 dX10_readFrom_52 krm rfl rfl (fun x40_ e40 => ?_)
        have r40 := hs35.rng krm rfl e40
        have f40 : x40_.toInt = (I35 rm 4).toInt := by rw [e40]
        have w40 : x40_ = x1_ := by rw [e40]; exact (Eq.trans (hf35.get krm rfl) (Eq.trans (hf31.get krm rfl) (Eq.trans (hf4.get krm rfl) e1.symm)))
        have wt40 : x40_.toInt = x1_.toInt := by rw [w40]
        refine r_iload_n hC dX10_readFrom_55 1 rfl ?_
        refine x_iastore hC hk39 hn39 (by decide) rfl rfl dX10_readFrom_56 (by omega) (by omega) (fun I41 eI41 => ?_)
        have hs41 := hs35.put0 eI41 hk39 (rng_arr (by decide) _) rfl (xF_arr (by decide) _) (by decide)
        have hF41 := hF35.put eI41 hk39 (inS_arr rfl _)
        refine r_aload_n hC dX10_readFrom_57 2 rfl ?_
        refine r_getr hC 4 (ci := 10) rfl u10_in (by decide) mT_4_239 dX10_readFrom_58 ka0 rfl rfl hbr ?_
        obtain ⟨a42_, hb42, hk42, hn42⟩ := hs41.row krm 14 73 16 (by decide) (by decide)
        refine r_getrN hC 14 (ci := 9) rfl u9_in (by decide) nF_14 dX10_readFrom_61 krm rfl rfl hb42 ?_
        refine r_aload_n hC dX10_readFrom_64 2 rfl ?_
        refine r_getr hC 4 (ci := 10) rfl u10_in (by decide) mT_4_239 dX10_readFrom_65 ka0 rfl rfl hbr ?_
        refine r_getiN hC 4 (ci := 9) rfl u9_in (by decide) nF_4 dX10_readFrom_68 krm rfl rfl (fun x43_ e43 => ?_)
        have r43 := hs41.rng krm rfl e43
        have f43 : x43_.toInt = (I41 rm 4).toInt := by rw [e43]
        have w43 : x43_ = x40_ := by rw [e43]; exact (Eq.trans (up2_kk eI41 hk39 krm (by decide)) e40.symm)
        have wt43 : x43_.toInt = x40_.toInt := by rw [w43]
        refine r_iload_n hC dX10_readFrom_71 0 rfl ?_
        refine x_iastore hC hk42 hn42 (by decide) rfl rfl dX10_readFrom_72 (by omega) (by omega) (fun I44 eI44 => ?_)
        have hs44 := hs41.put0 eI44 hk42 (rng_arr (by decide) _) rfl (xF_arr (by decide) _) (by decide)
        have hF44 := hF41.put eI44 hk42 (inS_arr rfl _)
        refine r_aload_n hC dX10_readFrom_73 2 rfl ?_
        refine r_getr hC 4 (ci := 10) rfl u10_in (by decide) mT_4_239 dX10_readFrom_74 ka0 rfl rfl hbr ?_
        refine r_dup hC dX10_readFrom_77 rfl ?_
        refine r_getiN hC 4 (ci := 9) rfl u9_in (by decide) nF_4 dX10_readFrom_78 krm rfl rfl (fun x45_ e45 => ?_)
        have r45 := hs44.rng krm rfl e45
        have f45 : x45_.toInt = (I44 rm 4).toInt := by rw [e45]
        have w45 : x45_ = x43_ := by rw [e45]; exact (Eq.trans (up2_kk eI44 hk42 krm (by decide)) e43.symm)
        have wt45 : x45_.toInt = x43_.toInt := by rw [w45]
        refine r_iconst hC (v := (1)) dX10_readFrom_81 (by decide) (by decide) (fun x46_ e46 t46 => ?_)
        refine r_iadd hC dX10_readFrom_82 (fun x47_ e47 => ?_)
        try have t47 : x47_.toInt = x45_.toInt + x46_.toInt := by rw [e47]; exact ti_add (by omega) (by omega)
        refine r_putiN hC 4 (ci := 9) rfl u9_in tyX9_ok nmX9 (by decide) nF_4 rfl rfl rfl dX10_readFrom_83 krm rfl rfl (fun I48 eI48 => ?_)
        have hs48 : Sf K len I48 R := hs44.putA4 eI48 krm (by omega) (by omega) (by have h9 := hs44.told krm; omega)
        have hF48 := hF44.put eI48 krm rfl
        refine r_aload_n hC dX10_readFrom_86 2 rfl ?_
        refine r_getr hC 4 (ci := 10) rfl u10_in (by decide) mT_4_239 dX10_readFrom_87 ka0 rfl rfl hbr ?_
        refine r_aload_n hC dX10_readFrom_90 2 rfl ?_
        refine r_getr hC 4 (ci := 10) rfl u10_in (by decide) mT_4_239 dX10_readFrom_91 ka0 rfl rfl hbr ?_
        refine r_getiN hC 4 (ci := 9) rfl u9_in (by decide) nF_4 dX10_readFrom_94 krm rfl rfl (fun x49_ e49 => ?_)
        have r49 := hs48.rng krm rfl e49
        have f49 : x49_.toInt = (I48 rm 4).toInt := by rw [e49]
        have w49 : x49_ = x47_ := by rw [e49]; exact (by rw [eI48]; exact up2_self _ _ _ _)
        have wt49 : x49_.toInt = x47_.toInt := by rw [w49]
        refine r_putiN hC 5 (ci := 9) rfl u9_in tyX9_ok nmX9 (by decide) nF_5 rfl rfl rfl dX10_readFrom_97 krm rfl rfl (fun I50 eI50 => ?_)
        have hs50 : Sf K len I50 R := hs48.putA5 eI50 krm (by omega) (by omega) (by omega)
        have hF50 := hF48.put eI50 krm rfl
        have hG3 : I50 rm 3 = G3 := (Eq.trans (up2_at (Or.inr (by decide)) eI50) (Eq.trans (up2_at (Or.inr (by decide)) eI48) (Eq.trans (up2_kk eI44 hk42 krm (by decide)) (Eq.trans (up2_kk eI41 hk39 krm (by decide)) (Eq.trans (hf35.get krm rfl) (Eq.trans (hf31.get krm rfl) (Eq.trans (hf4.get krm rfl) eG3.symm)))))))
        have hG3t : (I50 rm 3).toInt = G3.toInt := congrArg Int32.toInt hG3
        have hG4 : I50 rm 4 = x49_ := (Eq.trans (up2_at (Or.inr (by decide)) eI50) e49.symm)
        have hG4t : (I50 rm 4).toInt = x49_.toInt := congrArg Int32.toInt hG4
        have hG7 : I50 rm 7 = G7 := (Eq.trans (up2_at (Or.inr (by decide)) eI50) (Eq.trans (up2_at (Or.inr (by decide)) eI48) (Eq.trans (up2_kk eI44 hk42 krm (by decide)) (Eq.trans (up2_kk eI41 hk39 krm (by decide)) (Eq.trans (hf35.get krm rfl) (Eq.trans (hf31.get krm rfl) (Eq.trans (hf4.get krm rfl) eG7.symm)))))))
        have hG7t : (I50 rm 7).toInt = G7.toInt := congrArg Int32.toInt hG7
        have hG8 : I50 rm 8 = G8 := (Eq.trans (up2_at (Or.inr (by decide)) eI50) (Eq.trans (up2_at (Or.inr (by decide)) eI48) (Eq.trans (up2_kk eI44 hk42 krm (by decide)) (Eq.trans (up2_kk eI41 hk39 krm (by decide)) (Eq.trans (hf35.get krm rfl) (Eq.trans (hf31.get krm rfl) (Eq.trans (hf4.get krm rfl) eG8.symm)))))))
        have hG8t : (I50 rm 8).toInt = G8.toInt := congrArg Int32.toInt hG8
        have hG9 : I50 rm 9 = G9 := (Eq.trans (up2_at (Or.inr (by decide)) eI50) (Eq.trans (up2_at (Or.inr (by decide)) eI48) (Eq.trans (up2_kk eI44 hk42 krm (by decide)) (Eq.trans (up2_kk eI41 hk39 krm (by decide)) (Eq.trans (hf35.get krm rfl) (Eq.trans (hf31.get krm rfl) (Eq.trans (hf4.get krm rfl) eG9.symm)))))))
        have hG9t : (I50 rm 9).toInt = G9.toInt := congrArg Int32.toInt hG9
        have hGN : I50 rm 10 = GN := (Eq.trans (up2_at (Or.inr (by decide)) eI50) (Eq.trans (up2_at (Or.inr (by decide)) eI48) (Eq.trans (up2_kk eI44 hk42 krm (by decide)) (Eq.trans (up2_kk eI41 hk39 krm (by decide)) (Eq.trans (hf35.get krm rfl) (Eq.trans (hf31.get krm rfl) (Eq.trans (hf4.get krm rfl) eGN.symm)))))))
        have hGNt : (I50 rm 10).toInt = GN.toInt := congrArg Int32.toInt hGN
        have hv8 : I50 a0 8 = A9 := (Eq.trans (up2_kk eI50 krm ka0 (by decide)) (Eq.trans (up2_kk eI48 krm ka0 (by decide)) (Eq.trans (up2_kk eI44 hk42 ka0 (by decide)) (Eq.trans (up2_kk eI41 hk39 ka0 (by decide)) eA9.symm))))
        have hv8t : (I50 a0 8).toInt = A9.toInt := congrArg Int32.toInt hv8
        have hv9 : I50 a0 9 = x36_ := (Eq.trans (up2_kk eI50 krm ka0 (by decide)) (Eq.trans (up2_kk eI48 krm ka0 (by decide)) (Eq.trans (up2_kk eI44 hk42 ka0 (by decide)) (Eq.trans (up2_kk eI41 hk39 ka0 (by decide)) e36.symm))))
        have hv9t : (I50 a0 9).toInt = x36_.toInt := congrArg Int32.toInt hv9
        exact r_vret hC hQ hlk hr (by decide) (by decide) dX10_readFrom_100 ⟨_, _, rfl, rfl, ⟨hs50, hF50, hFJ35, (by first | (left; omega) | (right; omega)), (by omega), (by omega), (by omega)⟩⟩
      · have hG3 : I35 rm 3 = G3 := (Eq.trans (hf35.get krm rfl) (Eq.trans (hf31.get krm rfl) (Eq.trans (hf4.get krm rfl) eG3.symm)))
        have hG3t : (I35 rm 3).toInt = G3.toInt := congrArg Int32.toInt hG3
        have hG4 : I35 rm 4 = x1_ := (Eq.trans (hf35.get krm rfl) (Eq.trans (hf31.get krm rfl) (Eq.trans (hf4.get krm rfl) e1.symm)))
        have hG4t : (I35 rm 4).toInt = x1_.toInt := congrArg Int32.toInt hG4
        have hG7 : I35 rm 7 = G7 := (Eq.trans (hf35.get krm rfl) (Eq.trans (hf31.get krm rfl) (Eq.trans (hf4.get krm rfl) eG7.symm)))
        have hG7t : (I35 rm 7).toInt = G7.toInt := congrArg Int32.toInt hG7
        have hG8 : I35 rm 8 = G8 := (Eq.trans (hf35.get krm rfl) (Eq.trans (hf31.get krm rfl) (Eq.trans (hf4.get krm rfl) eG8.symm)))
        have hG8t : (I35 rm 8).toInt = G8.toInt := congrArg Int32.toInt hG8
        have hG9 : I35 rm 9 = G9 := (Eq.trans (hf35.get krm rfl) (Eq.trans (hf31.get krm rfl) (Eq.trans (hf4.get krm rfl) eG9.symm)))
        have hG9t : (I35 rm 9).toInt = G9.toInt := congrArg Int32.toInt hG9
        have hGN : I35 rm 10 = GN := (Eq.trans (hf35.get krm rfl) (Eq.trans (hf31.get krm rfl) (Eq.trans (hf4.get krm rfl) eGN.symm)))
        have hGNt : (I35 rm 10).toInt = GN.toInt := congrArg Int32.toInt hGN
        have hv8 : I35 a0 8 = A9 := eA9.symm
        have hv8t : (I35 a0 8).toInt = A9.toInt := congrArg Int32.toInt hv8
        have hv9 : I35 a0 9 = x36_ := e36.symm
        have hv9t : (I35 a0 9).toInt = x36_.toInt := congrArg Int32.toInt hv9
        exact r_vret hC hQ hlk hr (by decide) (by decide) dX10_readFrom_40 ⟨_, _, rfl, rfl, ⟨hs35, hF35, hFJ35, (by first | (left; omega) | (right; omega)), (by omega), (by omega), (by omega)⟩⟩
    · replace k31_1 := k31_1 sf31
      clear k31_0 md30 sf4
      refine r_istore_n hC (lv' := [(1, .int x31_), (0, .ref a0)]) dX10_readFrom_20 (by decide) rfl ?_
      refine r_aload_n hC dX10_readFrom_21 1 rfl ?_
      refine r_ldcS hC (i := 43) (by decide) rfl rfl dX10_readFrom_22 ?_
      refine r_iconst hC (v := (0)) dX10_readFrom_24 (by decide) (by decide) (fun x51_ e51 t51 => ?_)
      refine r_sipush hC (v := (999)) dX10_readFrom_25 (by decide) (by decide) (fun x52_ e52 t52 => ?_)
      have md53 : (I31 a0 9).toInt ≠ 5 := by omega
      refine r_callV hC (As := [.ref (g.2.2.1 43), .int x51_, .int x52_]) (rest := []) (ci := 10) (c_X10_readPart g (xL X) K len I31 J31 R hs31 a0 ka0 43 (by decide) x51_ x52_) mT_6_1 mT_1_10 mT_5_238 mT_6_0 mP_56 okX10_readPart ⟨by decide, by decide⟩ rfl (by show kO (K a0) = _; rw [ka0]; rfl) rfl rfl (Nat.le_of_ble_eq_true rfl) ⟨by decide, by decide⟩ dX10_readFrom_28 (aI2 (F := fun st M => P g X 3 31 [(1, .int x31_), (0, .ref a0)] st _ _ M) (M := (K, len, I31, J31, R)) fun x54_ I54 J54 h54 => ?_)
      obtain ⟨hs54, hf54, hfj54, k54_0, k54_1, k54_2, k54_3⟩ := h54
      show P g X 3 31 [(1, .int x31_), (0, .ref a0)] [.int x54_] _ _ (K, len, I54, J54, R)
      have hF54 : Fr K [(10, 4), (10, 5), (11, 8), (11, 9), (11, 10), (11, 11), (11, 12), (11, 13), (72, 999), (73, 999)] I I54 := hF31.trans hf54 rfl rfl
      have hFJ54 : Fr K [(11, 14)] J J54 := hFJ31.trans hfj54 rfl rfl
      clear k31_3
      by_cases sf54 : (I54 a0 9).toInt = 5
      · clear k54_0 k54_1 k54_3 md53 sf31
        refine r_istore_n hC (lv' := [(2, .int x54_), (1, .int x31_), (0, .ref a0)]) dX10_readFrom_31 (by decide) rfl ?_
        refine r_aload_n hC dX10_readFrom_32 2 rfl ?_
        obtain ⟨A9, eA9⟩ : ∃ z : Int32, z = I54 a0 8 := ⟨_, rfl⟩
        have fA9 : A9.toInt = (I54 a0 8).toInt := by rw [eA9]
        have rA9 := hs54.rng ka0 rfl eA9
        refine r_geti hC 9 (ci := 10) rfl u10_in (by decide) mT_5_4 dX10_readFrom_33 ka0 rfl rfl (fun x55_ e55 => ?_)
        have f55 : x55_.toInt = (I54 a0 9).toInt := by rw [e55]
        refine r_iconst hC (v := (5)) dX10_readFrom_36 (by decide) (by decide) (fun x56_ e56 t56 => ?_)
        refine r_icmp_ne hC (tgt := 41) dX10_readFrom_37 (by decide) (fun c57 => ?_) (fun c57 => ?_)
        · refine r_aload_n hC dX10_readFrom_41 2 rfl ?_
          refine r_getr hC 4 (ci := 10) rfl u10_in (by decide) mT_4_239 dX10_readFrom_42 ka0 rfl rfl hbr ?_
          obtain ⟨a58_, hb58, hk58, hn58⟩ := hs54.row krm 13 72 16 (by decide) (by decide)
          refine r_getrN hC 13 (ci := 9) rfl u9_in (by decide) nF_13 dX10_readFrom_45 krm rfl rfl hb58 ?_
          refine r_aload_n hC dX10_readFrom_48 2 rfl ?_
          refine r_getr hC 4 (ci := 10) rfl u10_in (by decide) mT_4_239 dX10_readFrom_49 ka0 rfl rfl hbr ?_
          refine r_getiN hC 4 (ci := 9) rfl u9_in (by decide) nF_4 dX10_readFrom_52 krm rfl rfl (fun x59_ e59 => ?_)
          have r59 := hs54.rng krm rfl e59
          have f59 : x59_.toInt = (I54 rm 4).toInt := by rw [e59]
          have w59 : x59_ = x1_ := by rw [e59]; exact (Eq.trans (hf54.get krm rfl) (Eq.trans (hf31.get krm rfl) (Eq.trans (hf4.get krm rfl) e1.symm)))
          have wt59 : x59_.toInt = x1_.toInt := by rw [w59]
          refine r_iload_n hC dX10_readFrom_55 1 rfl ?_
          refine x_iastore hC hk58 hn58 (by decide) rfl rfl dX10_readFrom_56 (by omega) (by omega) (fun I60 eI60 => ?_)
          have hs60 := hs54.put0 eI60 hk58 (rng_arr (by decide) _) rfl (xF_arr (by decide) _) (by decide)
          have hF60 := hF54.put eI60 hk58 (inS_arr rfl _)
          refine r_aload_n hC dX10_readFrom_57 2 rfl ?_
          refine r_getr hC 4 (ci := 10) rfl u10_in (by decide) mT_4_239 dX10_readFrom_58 ka0 rfl rfl hbr ?_
          obtain ⟨a61_, hb61, hk61, hn61⟩ := hs60.row krm 14 73 16 (by decide) (by decide)
          refine r_getrN hC 14 (ci := 9) rfl u9_in (by decide) nF_14 dX10_readFrom_61 krm rfl rfl hb61 ?_
          refine r_aload_n hC dX10_readFrom_64 2 rfl ?_
          refine r_getr hC 4 (ci := 10) rfl u10_in (by decide) mT_4_239 dX10_readFrom_65 ka0 rfl rfl hbr ?_
          refine r_getiN hC 4 (ci := 9) rfl u9_in (by decide) nF_4 dX10_readFrom_68 krm rfl rfl (fun x62_ e62 => ?_)
          have r62 := hs60.rng krm rfl e62
          have f62 : x62_.toInt = (I60 rm 4).toInt := by rw [e62]
          have w62 : x62_ = x59_ := by rw [e62]; exact (Eq.trans (up2_kk eI60 hk58 krm (by decide)) e59.symm)
          have wt62 : x62_.toInt = x59_.toInt := by rw [w62]
          refine r_iload_n hC dX10_readFrom_71 0 rfl ?_
          refine x_iastore hC hk61 hn61 (by decide) rfl rfl dX10_readFrom_72 (by omega) (by omega) (fun I63 eI63 => ?_)
          have hs63 := hs60.put0 eI63 hk61 (rng_arr (by decide) _) rfl (xF_arr (by decide) _) (by decide)
          have hF63 := hF60.put eI63 hk61 (inS_arr rfl _)
          refine r_aload_n hC dX10_readFrom_73 2 rfl ?_
          refine r_getr hC 4 (ci := 10) rfl u10_in (by decide) mT_4_239 dX10_readFrom_74 ka0 rfl rfl hbr ?_
          refine r_dup hC dX10_readFrom_77 rfl ?_
          refine r_getiN hC 4 (ci := 9) rfl u9_in (by decide) nF_4 dX10_readFrom_78 krm rfl rfl (fun x64_ e64 => ?_)
          have r64 := hs63.rng krm rfl e64
          have f64 : x64_.toInt = (I63 rm 4).toInt := by rw [e64]
          have w64 : x64_ = x62_ := by rw [e64]; exact (Eq.trans (up2_kk eI63 hk61 krm (by decide)) e62.symm)
          have wt64 : x64_.toInt = x62_.toInt := by rw [w64]
          refine r_iconst hC (v := (1)) dX10_readFrom_81 (by decide) (by decide) (fun x65_ e65 t65 => ?_)
          refine r_iadd hC dX10_readFrom_82 (fun x66_ e66 => ?_)
          try have t66 : x66_.toInt = x64_.toInt + x65_.toInt := by rw [e66]; exact ti_add (by omega) (by omega)
          refine r_putiN hC 4 (ci := 9) rfl u9_in tyX9_ok nmX9 (by decide) nF_4 rfl rfl rfl dX10_readFrom_83 krm rfl rfl (fun I67 eI67 => ?_)
          have hs67 : Sf K len I67 R := hs63.putA4 eI67 krm (by omega) (by omega) (by have h9 := hs63.told krm; omega)
          have hF67 := hF63.put eI67 krm rfl
          refine r_aload_n hC dX10_readFrom_86 2 rfl ?_
          refine r_getr hC 4 (ci := 10) rfl u10_in (by decide) mT_4_239 dX10_readFrom_87 ka0 rfl rfl hbr ?_
          refine r_aload_n hC dX10_readFrom_90 2 rfl ?_
          refine r_getr hC 4 (ci := 10) rfl u10_in (by decide) mT_4_239 dX10_readFrom_91 ka0 rfl rfl hbr ?_
          refine r_getiN hC 4 (ci := 9) rfl u9_in (by decide) nF_4 dX10_readFrom_94 krm rfl rfl (fun x68_ e68 => ?_)
          have r68 := hs67.rng krm rfl e68
          have f68 : x68_.toInt = (I67 rm 4).toInt := by rw [e68]
          have w68 : x68_ = x66_ := by rw [e68]; exact (by rw [eI67]; exact up2_self _ _ _ _)
          have wt68 : x68_.toInt = x66_.toInt := by rw [w68]
          refine r_putiN hC 5 (ci := 9) rfl u9_in tyX9_ok nmX9 (by decide) nF_5 rfl rfl rfl dX10_readFrom_97 krm rfl rfl (fun I69 eI69 => ?_)
          have hs69 : Sf K len I69 R := hs67.putA5 eI69 krm (by omega) (by omega) (by omega)
          have hF69 := hF67.put eI69 krm rfl
          have hG3 : I69 rm 3 = G3 := (Eq.trans (up2_at (Or.inr (by decide)) eI69) (Eq.trans (up2_at (Or.inr (by decide)) eI67) (Eq.trans (up2_kk eI63 hk61 krm (by decide)) (Eq.trans (up2_kk eI60 hk58 krm (by decide)) (Eq.trans (hf54.get krm rfl) (Eq.trans (hf31.get krm rfl) (Eq.trans (hf4.get krm rfl) eG3.symm)))))))
          have hG3t : (I69 rm 3).toInt = G3.toInt := congrArg Int32.toInt hG3
          have hG4 : I69 rm 4 = x68_ := (Eq.trans (up2_at (Or.inr (by decide)) eI69) e68.symm)
          have hG4t : (I69 rm 4).toInt = x68_.toInt := congrArg Int32.toInt hG4
          have hG7 : I69 rm 7 = G7 := (Eq.trans (up2_at (Or.inr (by decide)) eI69) (Eq.trans (up2_at (Or.inr (by decide)) eI67) (Eq.trans (up2_kk eI63 hk61 krm (by decide)) (Eq.trans (up2_kk eI60 hk58 krm (by decide)) (Eq.trans (hf54.get krm rfl) (Eq.trans (hf31.get krm rfl) (Eq.trans (hf4.get krm rfl) eG7.symm)))))))
          have hG7t : (I69 rm 7).toInt = G7.toInt := congrArg Int32.toInt hG7
          have hG8 : I69 rm 8 = G8 := (Eq.trans (up2_at (Or.inr (by decide)) eI69) (Eq.trans (up2_at (Or.inr (by decide)) eI67) (Eq.trans (up2_kk eI63 hk61 krm (by decide)) (Eq.trans (up2_kk eI60 hk58 krm (by decide)) (Eq.trans (hf54.get krm rfl) (Eq.trans (hf31.get krm rfl) (Eq.trans (hf4.get krm rfl) eG8.symm)))))))
          have hG8t : (I69 rm 8).toInt = G8.toInt := congrArg Int32.toInt hG8
          have hG9 : I69 rm 9 = G9 := (Eq.trans (up2_at (Or.inr (by decide)) eI69) (Eq.trans (up2_at (Or.inr (by decide)) eI67) (Eq.trans (up2_kk eI63 hk61 krm (by decide)) (Eq.trans (up2_kk eI60 hk58 krm (by decide)) (Eq.trans (hf54.get krm rfl) (Eq.trans (hf31.get krm rfl) (Eq.trans (hf4.get krm rfl) eG9.symm)))))))
          have hG9t : (I69 rm 9).toInt = G9.toInt := congrArg Int32.toInt hG9
          have hGN : I69 rm 10 = GN := (Eq.trans (up2_at (Or.inr (by decide)) eI69) (Eq.trans (up2_at (Or.inr (by decide)) eI67) (Eq.trans (up2_kk eI63 hk61 krm (by decide)) (Eq.trans (up2_kk eI60 hk58 krm (by decide)) (Eq.trans (hf54.get krm rfl) (Eq.trans (hf31.get krm rfl) (Eq.trans (hf4.get krm rfl) eGN.symm)))))))
          have hGNt : (I69 rm 10).toInt = GN.toInt := congrArg Int32.toInt hGN
          have hv8 : I69 a0 8 = A9 := (Eq.trans (up2_kk eI69 krm ka0 (by decide)) (Eq.trans (up2_kk eI67 krm ka0 (by decide)) (Eq.trans (up2_kk eI63 hk61 ka0 (by decide)) (Eq.trans (up2_kk eI60 hk58 ka0 (by decide)) eA9.symm))))
          have hv8t : (I69 a0 8).toInt = A9.toInt := congrArg Int32.toInt hv8
          have hv9 : I69 a0 9 = x55_ := (Eq.trans (up2_kk eI69 krm ka0 (by decide)) (Eq.trans (up2_kk eI67 krm ka0 (by decide)) (Eq.trans (up2_kk eI63 hk61 ka0 (by decide)) (Eq.trans (up2_kk eI60 hk58 ka0 (by decide)) e55.symm))))
          have hv9t : (I69 a0 9).toInt = x55_.toInt := congrArg Int32.toInt hv9
          exact r_vret hC hQ hlk hr (by decide) (by decide) dX10_readFrom_100 ⟨_, _, rfl, rfl, ⟨hs69, hF69, hFJ54, (by first | (left; omega) | (right; omega)), (by omega), (by omega), (by omega)⟩⟩
        · have hG3 : I54 rm 3 = G3 := (Eq.trans (hf54.get krm rfl) (Eq.trans (hf31.get krm rfl) (Eq.trans (hf4.get krm rfl) eG3.symm)))
          have hG3t : (I54 rm 3).toInt = G3.toInt := congrArg Int32.toInt hG3
          have hG4 : I54 rm 4 = x1_ := (Eq.trans (hf54.get krm rfl) (Eq.trans (hf31.get krm rfl) (Eq.trans (hf4.get krm rfl) e1.symm)))
          have hG4t : (I54 rm 4).toInt = x1_.toInt := congrArg Int32.toInt hG4
          have hG7 : I54 rm 7 = G7 := (Eq.trans (hf54.get krm rfl) (Eq.trans (hf31.get krm rfl) (Eq.trans (hf4.get krm rfl) eG7.symm)))
          have hG7t : (I54 rm 7).toInt = G7.toInt := congrArg Int32.toInt hG7
          have hG8 : I54 rm 8 = G8 := (Eq.trans (hf54.get krm rfl) (Eq.trans (hf31.get krm rfl) (Eq.trans (hf4.get krm rfl) eG8.symm)))
          have hG8t : (I54 rm 8).toInt = G8.toInt := congrArg Int32.toInt hG8
          have hG9 : I54 rm 9 = G9 := (Eq.trans (hf54.get krm rfl) (Eq.trans (hf31.get krm rfl) (Eq.trans (hf4.get krm rfl) eG9.symm)))
          have hG9t : (I54 rm 9).toInt = G9.toInt := congrArg Int32.toInt hG9
          have hGN : I54 rm 10 = GN := (Eq.trans (hf54.get krm rfl) (Eq.trans (hf31.get krm rfl) (Eq.trans (hf4.get krm rfl) eGN.symm)))
          have hGNt : (I54 rm 10).toInt = GN.toInt := congrArg Int32.toInt hGN
          have hv8 : I54 a0 8 = A9 := eA9.symm
          have hv8t : (I54 a0 8).toInt = A9.toInt := congrArg Int32.toInt hv8
          have hv9 : I54 a0 9 = x55_ := e55.symm
          have hv9t : (I54 a0 9).toInt = x55_.toInt := congrArg Int32.toInt hv9
          exact r_vret hC hQ hlk hr (by decide) (by decide) dX10_readFrom_40 ⟨_, _, rfl, rfl, ⟨hs54, hF54, hFJ54, (by first | (left; omega) | (right; omega)), (by omega), (by omega), (by omega)⟩⟩
      · replace k54_1 := k54_1 sf54
        clear k54_0 md53 sf31
        refine r_istore_n hC (lv' := [(2, .int x54_), (1, .int x31_), (0, .ref a0)]) dX10_readFrom_31 (by decide) rfl ?_
        refine r_aload_n hC dX10_readFrom_32 2 rfl ?_
        obtain ⟨A9, eA9⟩ : ∃ z : Int32, z = I54 a0 8 := ⟨_, rfl⟩
        have fA9 : A9.toInt = (I54 a0 8).toInt := by rw [eA9]
        have rA9 := hs54.rng ka0 rfl eA9
        refine r_geti hC 9 (ci := 10) rfl u10_in (by decide) mT_5_4 dX10_readFrom_33 ka0 rfl rfl (fun x70_ e70 => ?_)
        have f70 : x70_.toInt = (I54 a0 9).toInt := by rw [e70]
        refine r_iconst hC (v := (5)) dX10_readFrom_36 (by decide) (by decide) (fun x71_ e71 t71 => ?_)
        refine r_icmp_ne hC (tgt := 41) dX10_readFrom_37 (by decide) (fun c72 => ?_) (fun c72 => ?_)
        · refine r_aload_n hC dX10_readFrom_41 2 rfl ?_
          refine r_getr hC 4 (ci := 10) rfl u10_in (by decide) mT_4_239 dX10_readFrom_42 ka0 rfl rfl hbr ?_
          obtain ⟨a73_, hb73, hk73, hn73⟩ := hs54.row krm 13 72 16 (by decide) (by decide)
          refine r_getrN hC 13 (ci := 9) rfl u9_in (by decide) nF_13 dX10_readFrom_45 krm rfl rfl hb73 ?_
          refine r_aload_n hC dX10_readFrom_48 2 rfl ?_
          refine r_getr hC 4 (ci := 10) rfl u10_in (by decide) mT_4_239 dX10_readFrom_49 ka0 rfl rfl hbr ?_
          refine r_getiN hC 4 (ci := 9) rfl u9_in (by decide) nF_4 dX10_readFrom_52 krm rfl rfl (fun x74_ e74 => ?_)
          have r74 := hs54.rng krm rfl e74
          have f74 : x74_.toInt = (I54 rm 4).toInt := by rw [e74]
          have w74 : x74_ = x1_ := by rw [e74]; exact (Eq.trans (hf54.get krm rfl) (Eq.trans (hf31.get krm rfl) (Eq.trans (hf4.get krm rfl) e1.symm)))
          have wt74 : x74_.toInt = x1_.toInt := by rw [w74]
          refine r_iload_n hC dX10_readFrom_55 1 rfl ?_
          refine x_iastore hC hk73 hn73 (by decide) rfl rfl dX10_readFrom_56 (by omega) (by omega) (fun I75 eI75 => ?_)
          have hs75 := hs54.put0 eI75 hk73 (rng_arr (by decide) _) rfl (xF_arr (by decide) _) (by decide)
          have hF75 := hF54.put eI75 hk73 (inS_arr rfl _)
          refine r_aload_n hC dX10_readFrom_57 2 rfl ?_
          refine r_getr hC 4 (ci := 10) rfl u10_in (by decide) mT_4_239 dX10_readFrom_58 ka0 rfl rfl hbr ?_
          obtain ⟨a76_, hb76, hk76, hn76⟩ := hs75.row krm 14 73 16 (by decide) (by decide)
          refine r_getrN hC 14 (ci := 9) rfl u9_in (by decide) nF_14 dX10_readFrom_61 krm rfl rfl hb76 ?_
          refine r_aload_n hC dX10_readFrom_64 2 rfl ?_
          refine r_getr hC 4 (ci := 10) rfl u10_in (by decide) mT_4_239 dX10_readFrom_65 ka0 rfl rfl hbr ?_
          refine r_getiN hC 4 (ci := 9) rfl u9_in (by decide) nF_4 dX10_readFrom_68 krm rfl rfl (fun x77_ e77 => ?_)
          have r77 := hs75.rng krm rfl e77
          have f77 : x77_.toInt = (I75 rm 4).toInt := by rw [e77]
          have w77 : x77_ = x74_ := by rw [e77]; exact (Eq.trans (up2_kk eI75 hk73 krm (by decide)) e74.symm)
          have wt77 : x77_.toInt = x74_.toInt := by rw [w77]
          refine r_iload_n hC dX10_readFrom_71 0 rfl ?_
          refine x_iastore hC hk76 hn76 (by decide) rfl rfl dX10_readFrom_72 (by omega) (by omega) (fun I78 eI78 => ?_)
          have hs78 := hs75.put0 eI78 hk76 (rng_arr (by decide) _) rfl (xF_arr (by decide) _) (by decide)
          have hF78 := hF75.put eI78 hk76 (inS_arr rfl _)
          refine r_aload_n hC dX10_readFrom_73 2 rfl ?_
          refine r_getr hC 4 (ci := 10) rfl u10_in (by decide) mT_4_239 dX10_readFrom_74 ka0 rfl rfl hbr ?_
          refine r_dup hC dX10_readFrom_77 rfl ?_
          refine r_getiN hC 4 (ci := 9) rfl u9_in (by decide) nF_4 dX10_readFrom_78 krm rfl rfl (fun x79_ e79 => ?_)
          have r79 := hs78.rng krm rfl e79
          have f79 : x79_.toInt = (I78 rm 4).toInt := by rw [e79]
          have w79 : x79_ = x77_ := by rw [e79]; exact (Eq.trans (up2_kk eI78 hk76 krm (by decide)) e77.symm)
          have wt79 : x79_.toInt = x77_.toInt := by rw [w79]
          refine r_iconst hC (v := (1)) dX10_readFrom_81 (by decide) (by decide) (fun x80_ e80 t80 => ?_)
          refine r_iadd hC dX10_readFrom_82 (fun x81_ e81 => ?_)
          try have t81 : x81_.toInt = x79_.toInt + x80_.toInt := by rw [e81]; exact ti_add (by omega) (by omega)
          refine r_putiN hC 4 (ci := 9) rfl u9_in tyX9_ok nmX9 (by decide) nF_4 rfl rfl rfl dX10_readFrom_83 krm rfl rfl (fun I82 eI82 => ?_)
          have hs82 : Sf K len I82 R := hs78.putA4 eI82 krm (by omega) (by omega) (by have h9 := hs78.told krm; omega)
          have hF82 := hF78.put eI82 krm rfl
          refine r_aload_n hC dX10_readFrom_86 2 rfl ?_
          refine r_getr hC 4 (ci := 10) rfl u10_in (by decide) mT_4_239 dX10_readFrom_87 ka0 rfl rfl hbr ?_
          refine r_aload_n hC dX10_readFrom_90 2 rfl ?_
          refine r_getr hC 4 (ci := 10) rfl u10_in (by decide) mT_4_239 dX10_readFrom_91 ka0 rfl rfl hbr ?_
          refine r_getiN hC 4 (ci := 9) rfl u9_in (by decide) nF_4 dX10_readFrom_94 krm rfl rfl (fun x83_ e83 => ?_)
          have r83 := hs82.rng krm rfl e83
          have f83 : x83_.toInt = (I82 rm 4).toInt := by rw [e83]
          have w83 : x83_ = x81_ := by rw [e83]; exact (by rw [eI82]; exact up2_self _ _ _ _)
          have wt83 : x83_.toInt = x81_.toInt := by rw [w83]
          refine r_putiN hC 5 (ci := 9) rfl u9_in tyX9_ok nmX9 (by decide) nF_5 rfl rfl rfl dX10_readFrom_97 krm rfl rfl (fun I84 eI84 => ?_)
          have hs84 : Sf K len I84 R := hs82.putA5 eI84 krm (by omega) (by omega) (by omega)
          have hF84 := hF82.put eI84 krm rfl
          have hG3 : I84 rm 3 = G3 := (Eq.trans (up2_at (Or.inr (by decide)) eI84) (Eq.trans (up2_at (Or.inr (by decide)) eI82) (Eq.trans (up2_kk eI78 hk76 krm (by decide)) (Eq.trans (up2_kk eI75 hk73 krm (by decide)) (Eq.trans (hf54.get krm rfl) (Eq.trans (hf31.get krm rfl) (Eq.trans (hf4.get krm rfl) eG3.symm)))))))
          have hG3t : (I84 rm 3).toInt = G3.toInt := congrArg Int32.toInt hG3
          have hG4 : I84 rm 4 = x83_ := (Eq.trans (up2_at (Or.inr (by decide)) eI84) e83.symm)
          have hG4t : (I84 rm 4).toInt = x83_.toInt := congrArg Int32.toInt hG4
          have hG7 : I84 rm 7 = G7 := (Eq.trans (up2_at (Or.inr (by decide)) eI84) (Eq.trans (up2_at (Or.inr (by decide)) eI82) (Eq.trans (up2_kk eI78 hk76 krm (by decide)) (Eq.trans (up2_kk eI75 hk73 krm (by decide)) (Eq.trans (hf54.get krm rfl) (Eq.trans (hf31.get krm rfl) (Eq.trans (hf4.get krm rfl) eG7.symm)))))))
          have hG7t : (I84 rm 7).toInt = G7.toInt := congrArg Int32.toInt hG7
          have hG8 : I84 rm 8 = G8 := (Eq.trans (up2_at (Or.inr (by decide)) eI84) (Eq.trans (up2_at (Or.inr (by decide)) eI82) (Eq.trans (up2_kk eI78 hk76 krm (by decide)) (Eq.trans (up2_kk eI75 hk73 krm (by decide)) (Eq.trans (hf54.get krm rfl) (Eq.trans (hf31.get krm rfl) (Eq.trans (hf4.get krm rfl) eG8.symm)))))))
          have hG8t : (I84 rm 8).toInt = G8.toInt := congrArg Int32.toInt hG8
          have hG9 : I84 rm 9 = G9 := (Eq.trans (up2_at (Or.inr (by decide)) eI84) (Eq.trans (up2_at (Or.inr (by decide)) eI82) (Eq.trans (up2_kk eI78 hk76 krm (by decide)) (Eq.trans (up2_kk eI75 hk73 krm (by decide)) (Eq.trans (hf54.get krm rfl) (Eq.trans (hf31.get krm rfl) (Eq.trans (hf4.get krm rfl) eG9.symm)))))))
          have hG9t : (I84 rm 9).toInt = G9.toInt := congrArg Int32.toInt hG9
          have hGN : I84 rm 10 = GN := (Eq.trans (up2_at (Or.inr (by decide)) eI84) (Eq.trans (up2_at (Or.inr (by decide)) eI82) (Eq.trans (up2_kk eI78 hk76 krm (by decide)) (Eq.trans (up2_kk eI75 hk73 krm (by decide)) (Eq.trans (hf54.get krm rfl) (Eq.trans (hf31.get krm rfl) (Eq.trans (hf4.get krm rfl) eGN.symm)))))))
          have hGNt : (I84 rm 10).toInt = GN.toInt := congrArg Int32.toInt hGN
          have hv8 : I84 a0 8 = A9 := (Eq.trans (up2_kk eI84 krm ka0 (by decide)) (Eq.trans (up2_kk eI82 krm ka0 (by decide)) (Eq.trans (up2_kk eI78 hk76 ka0 (by decide)) (Eq.trans (up2_kk eI75 hk73 ka0 (by decide)) eA9.symm))))
          have hv8t : (I84 a0 8).toInt = A9.toInt := congrArg Int32.toInt hv8
          have hv9 : I84 a0 9 = x70_ := (Eq.trans (up2_kk eI84 krm ka0 (by decide)) (Eq.trans (up2_kk eI82 krm ka0 (by decide)) (Eq.trans (up2_kk eI78 hk76 ka0 (by decide)) (Eq.trans (up2_kk eI75 hk73 ka0 (by decide)) e70.symm))))
          have hv9t : (I84 a0 9).toInt = x70_.toInt := congrArg Int32.toInt hv9
          exact r_vret hC hQ hlk hr (by decide) (by decide) dX10_readFrom_100 ⟨_, _, rfl, rfl, ⟨hs84, hF84, hFJ54, (by first | (left; omega) | (right; omega)), (by omega), (by omega), (by omega)⟩⟩
        · have hG3 : I54 rm 3 = G3 := (Eq.trans (hf54.get krm rfl) (Eq.trans (hf31.get krm rfl) (Eq.trans (hf4.get krm rfl) eG3.symm)))
          have hG3t : (I54 rm 3).toInt = G3.toInt := congrArg Int32.toInt hG3
          have hG4 : I54 rm 4 = x1_ := (Eq.trans (hf54.get krm rfl) (Eq.trans (hf31.get krm rfl) (Eq.trans (hf4.get krm rfl) e1.symm)))
          have hG4t : (I54 rm 4).toInt = x1_.toInt := congrArg Int32.toInt hG4
          have hG7 : I54 rm 7 = G7 := (Eq.trans (hf54.get krm rfl) (Eq.trans (hf31.get krm rfl) (Eq.trans (hf4.get krm rfl) eG7.symm)))
          have hG7t : (I54 rm 7).toInt = G7.toInt := congrArg Int32.toInt hG7
          have hG8 : I54 rm 8 = G8 := (Eq.trans (hf54.get krm rfl) (Eq.trans (hf31.get krm rfl) (Eq.trans (hf4.get krm rfl) eG8.symm)))
          have hG8t : (I54 rm 8).toInt = G8.toInt := congrArg Int32.toInt hG8
          have hG9 : I54 rm 9 = G9 := (Eq.trans (hf54.get krm rfl) (Eq.trans (hf31.get krm rfl) (Eq.trans (hf4.get krm rfl) eG9.symm)))
          have hG9t : (I54 rm 9).toInt = G9.toInt := congrArg Int32.toInt hG9
          have hGN : I54 rm 10 = GN := (Eq.trans (hf54.get krm rfl) (Eq.trans (hf31.get krm rfl) (Eq.trans (hf4.get krm rfl) eGN.symm)))
          have hGNt : (I54 rm 10).toInt = GN.toInt := congrArg Int32.toInt hGN
          have hv8 : I54 a0 8 = A9 := eA9.symm
          have hv8t : (I54 a0 8).toInt = A9.toInt := congrArg Int32.toInt hv8
          have hv9 : I54 a0 9 = x70_ := e70.symm
          have hv9t : (I54 a0 9).toInt = x70_.toInt := congrArg Int32.toInt hv9
          exact r_vret hC hQ hlk hr (by decide) (by decide) dX10_readFrom_40 ⟨_, _, rfl, rfl, ⟨hs54, hF54, hFJ54, (by first | (left; omega) | (right; omega)), (by omega), (by omega), (by omega)⟩⟩
set_option maxHeartbeats 4000000 in
set_option maxRecDepth 100000 in
theorem c_X10_readRain (g : GG) (l : Launch) (K len : Nat → Nat) (I : Nat → Nat → Int32) (J : Nat → Nat → Int64) (R : Nat → Nat → Option Nat) (hs : Sf K len I R) (a0 : Nat) (ka0 : K a0 = 11) (rm : Nat) (hbr : R a0 4 = some rm) (krm : K rm = 10) (p0 : (I a0 9).toInt = 2) (p1 : (I rm 10).toInt ≤ (I rm 3).toInt + (I rm 7).toInt + (I rm 8).toInt + (I rm 9).toInt) (p2 : (I rm 4).toInt ≤ 8) : Ct g l yX10_readRain cX10_readRain 3 (Option.none : Option Jvm.ClassFile.FieldType) rmX10_readRain [.ref a0] (K, len, I, J, R) (pV2 (K, len, I, J, R) (fun I' J' => Sf K len I' R ∧ Fr K [(10, 6), (11, 8), (11, 9), (11, 10), (11, 11), (11, 12), (11, 13), (74, 999)] I I' ∧ Fr K [(11, 14)] J J' ∧ ((I' a0 9).toInt = 5 ∨ (I' rm 10).toInt ≤ (I' rm 3).toInt + (I' rm 7).toInt + (I' rm 8).toInt + (I' rm 9).toInt) ∧ ((I' rm 4).toInt ≤ 8) ∧ ((I a0 8).toInt ≤ (I' a0 8).toInt) ∧ ((I' a0 9).toInt = 4 → (I a0 8).toInt < (I' a0 8).toInt))) := by
  refine Ct_intro (by decide +kernel) (Nat.le_of_ble_eq_true rfl) (fun X hC hL hKK hNm hr hlk hQ => ?_)
  subst hL
  have hC : Cx g X cX10_readRain "HillTapModel" 3 rmX10_readRain := hC
  show P g X 3 0 [(0, .ref a0)] [] 0 0 (K, len, I, J, R)
  have hF : Fr K [(10, 6), (11, 8), (11, 9), (11, 10), (11, 11), (11, 12), (11, 13), (74, 999)] I I := Fr.refl
  have hFJ : Fr K [(11, 14)] J J := Fr.refl
  obtain ⟨G3, eG3⟩ : ∃ z : Int32, z = I rm 3 := ⟨_, rfl⟩
  have fG3 : G3.toInt = (I rm 3).toInt := by rw [eG3]
  have rG3 := hs.rng krm rfl eG3
  obtain ⟨G4, eG4⟩ : ∃ z : Int32, z = I rm 4 := ⟨_, rfl⟩
  have fG4 : G4.toInt = (I rm 4).toInt := by rw [eG4]
  have rG4 := hs.rng krm rfl eG4
  obtain ⟨G7, eG7⟩ : ∃ z : Int32, z = I rm 7 := ⟨_, rfl⟩
  have fG7 : G7.toInt = (I rm 7).toInt := by rw [eG7]
  have rG7 := hs.rng krm rfl eG7
  obtain ⟨G8, eG8⟩ : ∃ z : Int32, z = I rm 8 := ⟨_, rfl⟩
  have fG8 : G8.toInt = (I rm 8).toInt := by rw [eG8]
  have rG8 := hs.rng krm rfl eG8
  obtain ⟨G9, eG9⟩ : ∃ z : Int32, z = I rm 9 := ⟨_, rfl⟩
  have fG9 : G9.toInt = (I rm 9).toInt := by rw [eG9]
  have rG9 := hs.rng krm rfl eG9
  obtain ⟨GN, eGN⟩ : ∃ z : Int32, z = I rm 10 := ⟨_, rfl⟩
  have fGN : GN.toInt = (I rm 10).toInt := by rw [eGN]
  have rGN := hs.rng krm rfl eGN
  obtain ⟨A0, eA0⟩ : ∃ z : Int32, z = I a0 8 := ⟨_, rfl⟩
  have fA0 : A0.toInt = (I a0 8).toInt := by rw [eA0]
  have rA0 := hs.rng ka0 rfl eA0
  obtain ⟨T0, eT0⟩ : ∃ z : Int32, z = I a0 9 := ⟨_, rfl⟩
  have fT0 : T0.toInt = (I a0 9).toInt := by rw [eT0]
  refine r_aload_n hC dX10_readRain_0 0 rfl ?_
  refine r_aload_n hC dX10_readRain_1 0 rfl ?_
  refine r_getr hC 4 (ci := 10) rfl u10_in (by decide) mT_4_239 dX10_readRain_2 ka0 rfl rfl hbr ?_
  refine r_getiN hC 6 (ci := 9) rfl u9_in (by decide) nF_6 dX10_readRain_5 krm rfl rfl (fun x1_ e1 => ?_)
  have r1 := hs.rng krm rfl e1
  have f1 : x1_.toInt = (I rm 6).toInt := by rw [e1]
  refine r_bipush hC (v := (6)) dX10_readRain_8 (by decide) (by decide) (fun x2_ e2 t2 => ?_)
  have md3 : (I a0 9).toInt ≠ 5 := by omega
  refine r_callV hC (As := [.int x1_, .int x2_]) (rest := []) (ci := 10) (c_X10_begins g (xL X) K len I J R hs a0 ka0 x1_ x2_) mT_6_19 mT_1_10 mT_6_16 mT_6_18 mP_59 okX10_begins ⟨by decide, by decide⟩ rfl (by show kO (K a0) = _; rw [ka0]; rfl) rfl rfl (Nat.le_of_ble_eq_true rfl) ⟨by decide, by decide⟩ dX10_readRain_10 (aV2 (F := fun st M => P g X 3 13 [(0, .ref a0)] st _ _ M) (M := (K, len, I, J, R)) fun I4 J4 h4 => ?_)
  obtain ⟨hs4, hf4, hfj4, k4_0, k4_1, k4_2, k4_3⟩ := h4
  show P g X 3 13 [(0, .ref a0)] [] _ _ (K, len, I4, J4, R)
  have hF4 : Fr K [(10, 6), (11, 8), (11, 9), (11, 10), (11, 11), (11, 12), (11, 13), (74, 999)] I I4 := hF.trans hf4 rfl rfl
  have hFJ4 : Fr K [(11, 14)] J J4 := hFJ.trans hfj4 rfl rfl
  by_cases sf4 : (I4 a0 9).toInt = 5
  · clear k4_0 k4_1 k4_3 md3
    refine r_aload_n hC dX10_readRain_13 0 rfl ?_
    refine r_iconst hC (v := (0)) dX10_readRain_14 (by decide) (by decide) (fun x5_ e5 t5 => ?_)
    refine r_bipush hC (v := (59)) dX10_readRain_15 (by decide) (by decide) (fun x6_ e6 t6 => ?_)
    have md7 : (I4 a0 9).toInt = 5 := by omega
    refine r_callV hC (As := [.int x5_, .int x6_]) (rest := []) (ci := 10) (c_X10_readWhole g (xL X) K len I4 J4 R hs4 a0 ka0 x5_ x6_) mT_6_5 mT_1_10 mT_6_2 mT_6_4 mP_57 okX10_readWhole ⟨by decide, by decide⟩ rfl (by show kO (K a0) = _; rw [ka0]; rfl) rfl rfl (Nat.le_of_ble_eq_true rfl) ⟨by decide, by decide⟩ dX10_readRain_17 (aI2 (F := fun st M => P g X 3 20 [(0, .ref a0)] st _ _ M) (M := (K, len, I4, J4, R)) fun x8_ I8 J8 h8 => ?_)
    obtain ⟨hs8, hf8, hfj8, k8_0, k8_1, k8_2, k8_3⟩ := h8
    show P g X 3 20 [(0, .ref a0)] [.int x8_] _ _ (K, len, I8, J8, R)
    have hF8 : Fr K [(10, 6), (11, 8), (11, 9), (11, 10), (11, 11), (11, 12), (11, 13), (74, 999)] I I8 := hF4.trans hf8 rfl rfl
    have hFJ8 : Fr K [(11, 14)] J J8 := hFJ4.trans hfj8 rfl rfl
    have sf8 := k8_0 md7
    clear k8_0 k8_1 k8_3 md7 sf4
    refine r_istore_n hC (lv' := [(1, .int x8_), (0, .ref a0)]) dX10_readRain_20 (by decide) rfl ?_
    refine r_aload_n hC dX10_readRain_21 1 rfl ?_
    refine r_ldcS hC (i := 44) (by decide) rfl rfl dX10_readRain_22 ?_
    refine r_iconst hC (v := (1)) dX10_readRain_24 (by decide) (by decide) (fun x9_ e9 t9 => ?_)
    refine r_bipush hC (v := (99)) dX10_readRain_25 (by decide) (by decide) (fun x10_ e10 t10 => ?_)
    have md11 : (I8 a0 9).toInt = 5 := by omega
    refine r_callV hC (As := [.ref (g.2.2.1 44), .int x9_, .int x10_]) (rest := []) (ci := 10) (c_X10_readPart g (xL X) K len I8 J8 R hs8 a0 ka0 44 (by decide) x9_ x10_) mT_6_1 mT_1_10 mT_5_238 mT_6_0 mP_56 okX10_readPart ⟨by decide, by decide⟩ rfl (by show kO (K a0) = _; rw [ka0]; rfl) rfl rfl (Nat.le_of_ble_eq_true rfl) ⟨by decide, by decide⟩ dX10_readRain_27 (aI2 (F := fun st M => P g X 3 30 [(1, .int x8_), (0, .ref a0)] st _ _ M) (M := (K, len, I8, J8, R)) fun x12_ I12 J12 h12 => ?_)
    obtain ⟨hs12, hf12, hfj12, k12_0, k12_1, k12_2, k12_3⟩ := h12
    show P g X 3 30 [(1, .int x8_), (0, .ref a0)] [.int x12_] _ _ (K, len, I12, J12, R)
    have hF12 : Fr K [(10, 6), (11, 8), (11, 9), (11, 10), (11, 11), (11, 12), (11, 13), (74, 999)] I I12 := hF8.trans hf12 rfl rfl
    have hFJ12 : Fr K [(11, 14)] J J12 := hFJ8.trans hfj12 rfl rfl
    have sf12 := k12_0 md11
    clear k12_0 k12_1 k12_3 md11 sf8
    refine r_istore_n hC (lv' := [(2, .int x12_), (1, .int x8_), (0, .ref a0)]) dX10_readRain_30 (by decide) rfl ?_
    refine r_aload_n hC dX10_readRain_31 2 rfl ?_
    obtain ⟨A9, eA9⟩ : ∃ z : Int32, z = I12 a0 8 := ⟨_, rfl⟩
    have fA9 : A9.toInt = (I12 a0 8).toInt := by rw [eA9]
    have rA9 := hs12.rng ka0 rfl eA9
    refine r_geti hC 9 (ci := 10) rfl u10_in (by decide) mT_5_4 dX10_readRain_32 ka0 rfl rfl (fun x13_ e13 => ?_)
    have f13 : x13_.toInt = (I12 a0 9).toInt := by rw [e13]
    refine r_iconst hC (v := (5)) dX10_readRain_35 (by decide) (by decide) (fun x14_ e14 t14 => ?_)
    refine r_icmp_ne hC (tgt := 40) dX10_readRain_36 (by decide) (fun c15 => ?_) (fun c15 => ?_)
    · refine r_aload_n hC dX10_readRain_40 2 rfl ?_
      refine r_getr hC 4 (ci := 10) rfl u10_in (by decide) mT_4_239 dX10_readRain_41 ka0 rfl rfl hbr ?_
      obtain ⟨a16_, hb16, hk16, hn16⟩ := hs12.row krm 15 74 60 (by decide) (by decide)
      refine r_getrN hC 15 (ci := 9) rfl u9_in (by decide) nF_15 dX10_readRain_44 krm rfl rfl hb16 ?_
      refine r_iload_n hC dX10_readRain_47 1 rfl ?_
      refine r_dup2 hC dX10_readRain_48 rfl rfl ?_
      refine x_iaload hC hk16 hn16 (by decide) rfl rfl dX10_readRain_49 (by omega) (by omega) (fun x17_ e17 => ?_)
      refine r_iload_n hC dX10_readRain_50 0 rfl ?_
      refine r_iadd hC dX10_readRain_51 (fun x18_ e18 => ?_)
      try have t18 : x18_.toInt = x17_.toInt + x12_.toInt := by rw [e18]; exact ti_add (by omega) (by omega)
      refine x_iastore hC hk16 hn16 (by decide) rfl rfl dX10_readRain_52 (by omega) (by omega) (fun I19 eI19 => ?_)
      have hs19 := hs12.put0 eI19 hk16 (rng_arr (by decide) _) rfl (xF_arr (by decide) _) (by decide)
      have hF19 := hF12.put eI19 hk16 (inS_arr rfl _)
      refine r_aload_n hC dX10_readRain_53 2 rfl ?_
      refine r_getr hC 4 (ci := 10) rfl u10_in (by decide) mT_4_239 dX10_readRain_54 ka0 rfl rfl hbr ?_
      refine r_dup hC dX10_readRain_57 rfl ?_
      refine r_getiN hC 6 (ci := 9) rfl u9_in (by decide) nF_6 dX10_readRain_58 krm rfl rfl (fun x20_ e20 => ?_)
      have r20 := hs19.rng krm rfl e20
      have f20 : x20_.toInt = (I19 rm 6).toInt := by rw [e20]
      have w20 : x20_ = x1_ := by rw [e20]; exact (Eq.trans (up2_kk eI19 hk16 krm (by decide)) (Eq.trans (hf12.get krm rfl) (Eq.trans (hf8.get krm rfl) (Eq.trans (hf4.get krm rfl) e1.symm))))
      have wt20 : x20_.toInt = x1_.toInt := by rw [w20]
      refine r_iconst hC (v := (1)) dX10_readRain_61 (by decide) (by decide) (fun x21_ e21 t21 => ?_)
      refine r_iadd hC dX10_readRain_62 (fun x22_ e22 => ?_)
      try have t22 : x22_.toInt = x20_.toInt + x21_.toInt := by rw [e22]; exact ti_add (by omega) (by omega)
      refine r_putiN hC 6 (ci := 9) rfl u9_in tyX9_ok nmX9 (by decide) nF_6 rfl rfl rfl dX10_readRain_63 krm rfl rfl (fun I23 eI23 => ?_)
      have hs23 := hs19.put1 eI23 krm rfl (by omega) (by omega) rfl rfl (by decide)
      have hF23 := hF19.put eI23 krm rfl
      have hG3 : I23 rm 3 = G3 := (Eq.trans (up2_at (Or.inr (by decide)) eI23) (Eq.trans (up2_kk eI19 hk16 krm (by decide)) (Eq.trans (hf12.get krm rfl) (Eq.trans (hf8.get krm rfl) (Eq.trans (hf4.get krm rfl) eG3.symm)))))
      have hG3t : (I23 rm 3).toInt = G3.toInt := congrArg Int32.toInt hG3
      have hG4 : I23 rm 4 = G4 := (Eq.trans (up2_at (Or.inr (by decide)) eI23) (Eq.trans (up2_kk eI19 hk16 krm (by decide)) (Eq.trans (hf12.get krm rfl) (Eq.trans (hf8.get krm rfl) (Eq.trans (hf4.get krm rfl) eG4.symm)))))
      have hG4t : (I23 rm 4).toInt = G4.toInt := congrArg Int32.toInt hG4
      have hG7 : I23 rm 7 = G7 := (Eq.trans (up2_at (Or.inr (by decide)) eI23) (Eq.trans (up2_kk eI19 hk16 krm (by decide)) (Eq.trans (hf12.get krm rfl) (Eq.trans (hf8.get krm rfl) (Eq.trans (hf4.get krm rfl) eG7.symm)))))
      have hG7t : (I23 rm 7).toInt = G7.toInt := congrArg Int32.toInt hG7
      have hG8 : I23 rm 8 = G8 := (Eq.trans (up2_at (Or.inr (by decide)) eI23) (Eq.trans (up2_kk eI19 hk16 krm (by decide)) (Eq.trans (hf12.get krm rfl) (Eq.trans (hf8.get krm rfl) (Eq.trans (hf4.get krm rfl) eG8.symm)))))
      have hG8t : (I23 rm 8).toInt = G8.toInt := congrArg Int32.toInt hG8
      have hG9 : I23 rm 9 = G9 := (Eq.trans (up2_at (Or.inr (by decide)) eI23) (Eq.trans (up2_kk eI19 hk16 krm (by decide)) (Eq.trans (hf12.get krm rfl) (Eq.trans (hf8.get krm rfl) (Eq.trans (hf4.get krm rfl) eG9.symm)))))
      have hG9t : (I23 rm 9).toInt = G9.toInt := congrArg Int32.toInt hG9
      have hGN : I23 rm 10 = GN := (Eq.trans (up2_at (Or.inr (by decide)) eI23) (Eq.trans (up2_kk eI19 hk16 krm (by decide)) (Eq.trans (hf12.get krm rfl) (Eq.trans (hf8.get krm rfl) (Eq.trans (hf4.get krm rfl) eGN.symm)))))
      have hGNt : (I23 rm 10).toInt = GN.toInt := congrArg Int32.toInt hGN
      have hv8 : I23 a0 8 = A9 := (Eq.trans (up2_kk eI23 krm ka0 (by decide)) (Eq.trans (up2_kk eI19 hk16 ka0 (by decide)) eA9.symm))
      have hv8t : (I23 a0 8).toInt = A9.toInt := congrArg Int32.toInt hv8
      have hv9 : I23 a0 9 = x13_ := (Eq.trans (up2_kk eI23 krm ka0 (by decide)) (Eq.trans (up2_kk eI19 hk16 ka0 (by decide)) e13.symm))
      have hv9t : (I23 a0 9).toInt = x13_.toInt := congrArg Int32.toInt hv9
      exact r_vret hC hQ hlk hr (by decide) (by decide) dX10_readRain_66 ⟨_, _, rfl, rfl, ⟨hs23, hF23, hFJ12, (by first | (left; omega) | (right; omega)), (by omega), (by omega), (by omega)⟩⟩
    · have hG3 : I12 rm 3 = G3 := (Eq.trans (hf12.get krm rfl) (Eq.trans (hf8.get krm rfl) (Eq.trans (hf4.get krm rfl) eG3.symm)))
      have hG3t : (I12 rm 3).toInt = G3.toInt := congrArg Int32.toInt hG3
      have hG4 : I12 rm 4 = G4 := (Eq.trans (hf12.get krm rfl) (Eq.trans (hf8.get krm rfl) (Eq.trans (hf4.get krm rfl) eG4.symm)))
      have hG4t : (I12 rm 4).toInt = G4.toInt := congrArg Int32.toInt hG4
      have hG7 : I12 rm 7 = G7 := (Eq.trans (hf12.get krm rfl) (Eq.trans (hf8.get krm rfl) (Eq.trans (hf4.get krm rfl) eG7.symm)))
      have hG7t : (I12 rm 7).toInt = G7.toInt := congrArg Int32.toInt hG7
      have hG8 : I12 rm 8 = G8 := (Eq.trans (hf12.get krm rfl) (Eq.trans (hf8.get krm rfl) (Eq.trans (hf4.get krm rfl) eG8.symm)))
      have hG8t : (I12 rm 8).toInt = G8.toInt := congrArg Int32.toInt hG8
      have hG9 : I12 rm 9 = G9 := (Eq.trans (hf12.get krm rfl) (Eq.trans (hf8.get krm rfl) (Eq.trans (hf4.get krm rfl) eG9.symm)))
      have hG9t : (I12 rm 9).toInt = G9.toInt := congrArg Int32.toInt hG9
      have hGN : I12 rm 10 = GN := (Eq.trans (hf12.get krm rfl) (Eq.trans (hf8.get krm rfl) (Eq.trans (hf4.get krm rfl) eGN.symm)))
      have hGNt : (I12 rm 10).toInt = GN.toInt := congrArg Int32.toInt hGN
      have hv8 : I12 a0 8 = A9 := eA9.symm
      have hv8t : (I12 a0 8).toInt = A9.toInt := congrArg Int32.toInt hv8
      have hv9 : I12 a0 9 = x13_ := e13.symm
      have hv9t : (I12 a0 9).toInt = x13_.toInt := congrArg Int32.toInt hv9
      exact r_vret hC hQ hlk hr (by decide) (by decide) dX10_readRain_39 ⟨_, _, rfl, rfl, ⟨hs12, hF12, hFJ12, (by first | (left; omega) | (right; omega)), (by omega), (by omega), (by omega)⟩⟩
  · replace k4_1 := mt k4_1 sf4
    clear k4_0 md3
    refine r_aload_n hC dX10_readRain_13 0 rfl ?_
    refine r_iconst hC (v := (0)) dX10_readRain_14 (by decide) (by decide) (fun x24_ e24 t24 => ?_)
    refine r_bipush hC (v := (59)) dX10_readRain_15 (by decide) (by decide) (fun x25_ e25 t25 => ?_)
    have md26 : (I4 a0 9).toInt ≠ 5 := by omega
    refine r_callV hC (As := [.int x24_, .int x25_]) (rest := []) (ci := 10) (c_X10_readWhole g (xL X) K len I4 J4 R hs4 a0 ka0 x24_ x25_) mT_6_5 mT_1_10 mT_6_2 mT_6_4 mP_57 okX10_readWhole ⟨by decide, by decide⟩ rfl (by show kO (K a0) = _; rw [ka0]; rfl) rfl rfl (Nat.le_of_ble_eq_true rfl) ⟨by decide, by decide⟩ dX10_readRain_17 (aI2 (F := fun st M => P g X 3 20 [(0, .ref a0)] st _ _ M) (M := (K, len, I4, J4, R)) fun x27_ I27 J27 h27 => ?_)
    obtain ⟨hs27, hf27, hfj27, k27_0, k27_1, k27_2, k27_3⟩ := h27
    show P g X 3 20 [(0, .ref a0)] [.int x27_] _ _ (K, len, I27, J27, R)
    have hF27 : Fr K [(10, 6), (11, 8), (11, 9), (11, 10), (11, 11), (11, 12), (11, 13), (74, 999)] I I27 := hF4.trans hf27 rfl rfl
    have hFJ27 : Fr K [(11, 14)] J J27 := hFJ4.trans hfj27 rfl rfl
    clear k4_3
    by_cases sf27 : (I27 a0 9).toInt = 5
    · clear k27_0 k27_1 k27_3 md26 sf4
      refine r_istore_n hC (lv' := [(1, .int x27_), (0, .ref a0)]) dX10_readRain_20 (by decide) rfl ?_
      refine r_aload_n hC dX10_readRain_21 1 rfl ?_
      refine r_ldcS hC (i := 44) (by decide) rfl rfl dX10_readRain_22 ?_
      refine r_iconst hC (v := (1)) dX10_readRain_24 (by decide) (by decide) (fun x28_ e28 t28 => ?_)
      refine r_bipush hC (v := (99)) dX10_readRain_25 (by decide) (by decide) (fun x29_ e29 t29 => ?_)
      have md30 : (I27 a0 9).toInt = 5 := by omega
      refine r_callV hC (As := [.ref (g.2.2.1 44), .int x28_, .int x29_]) (rest := []) (ci := 10) (c_X10_readPart g (xL X) K len I27 J27 R hs27 a0 ka0 44 (by decide) x28_ x29_) mT_6_1 mT_1_10 mT_5_238 mT_6_0 mP_56 okX10_readPart ⟨by decide, by decide⟩ rfl (by show kO (K a0) = _; rw [ka0]; rfl) rfl rfl (Nat.le_of_ble_eq_true rfl) ⟨by decide, by decide⟩ dX10_readRain_27 (aI2 (F := fun st M => P g X 3 30 [(1, .int x27_), (0, .ref a0)] st _ _ M) (M := (K, len, I27, J27, R)) fun x31_ I31 J31 h31 => ?_)
      obtain ⟨hs31, hf31, hfj31, k31_0, k31_1, k31_2, k31_3⟩ := h31
      show P g X 3 30 [(1, .int x27_), (0, .ref a0)] [.int x31_] _ _ (K, len, I31, J31, R)
      have hF31 : Fr K [(10, 6), (11, 8), (11, 9), (11, 10), (11, 11), (11, 12), (11, 13), (74, 999)] I I31 := hF27.trans hf31 rfl rfl
      have hFJ31 : Fr K [(11, 14)] J J31 := hFJ27.trans hfj31 rfl rfl
      have sf31 := k31_0 md30
      clear k31_0 k31_1 k31_3 md30 sf27
      refine r_istore_n hC (lv' := [(2, .int x31_), (1, .int x27_), (0, .ref a0)]) dX10_readRain_30 (by decide) rfl ?_
      refine r_aload_n hC dX10_readRain_31 2 rfl ?_
      obtain ⟨A9, eA9⟩ : ∃ z : Int32, z = I31 a0 8 := ⟨_, rfl⟩
      have fA9 : A9.toInt = (I31 a0 8).toInt := by rw [eA9]
      have rA9 := hs31.rng ka0 rfl eA9
      refine r_geti hC 9 (ci := 10) rfl u10_in (by decide) mT_5_4 dX10_readRain_32 ka0 rfl rfl (fun x32_ e32 => ?_)
      have f32 : x32_.toInt = (I31 a0 9).toInt := by rw [e32]
      refine r_iconst hC (v := (5)) dX10_readRain_35 (by decide) (by decide) (fun x33_ e33 t33 => ?_)
      refine r_icmp_ne hC (tgt := 40) dX10_readRain_36 (by decide) (fun c34 => ?_) (fun c34 => ?_)
      · refine r_aload_n hC dX10_readRain_40 2 rfl ?_
        refine r_getr hC 4 (ci := 10) rfl u10_in (by decide) mT_4_239 dX10_readRain_41 ka0 rfl rfl hbr ?_
        obtain ⟨a35_, hb35, hk35, hn35⟩ := hs31.row krm 15 74 60 (by decide) (by decide)
        refine r_getrN hC 15 (ci := 9) rfl u9_in (by decide) nF_15 dX10_readRain_44 krm rfl rfl hb35 ?_
        refine r_iload_n hC dX10_readRain_47 1 rfl ?_
        refine r_dup2 hC dX10_readRain_48 rfl rfl ?_
        refine x_iaload hC hk35 hn35 (by decide) rfl rfl dX10_readRain_49 (by omega) (by omega) (fun x36_ e36 => ?_)
        refine r_iload_n hC dX10_readRain_50 0 rfl ?_
        refine r_iadd hC dX10_readRain_51 (fun x37_ e37 => ?_)
        try have t37 : x37_.toInt = x36_.toInt + x31_.toInt := by rw [e37]; exact ti_add (by omega) (by omega)
        refine x_iastore hC hk35 hn35 (by decide) rfl rfl dX10_readRain_52 (by omega) (by omega) (fun I38 eI38 => ?_)
        have hs38 := hs31.put0 eI38 hk35 (rng_arr (by decide) _) rfl (xF_arr (by decide) _) (by decide)
        have hF38 := hF31.put eI38 hk35 (inS_arr rfl _)
        refine r_aload_n hC dX10_readRain_53 2 rfl ?_
        refine r_getr hC 4 (ci := 10) rfl u10_in (by decide) mT_4_239 dX10_readRain_54 ka0 rfl rfl hbr ?_
        refine r_dup hC dX10_readRain_57 rfl ?_
        refine r_getiN hC 6 (ci := 9) rfl u9_in (by decide) nF_6 dX10_readRain_58 krm rfl rfl (fun x39_ e39 => ?_)
        have r39 := hs38.rng krm rfl e39
        have f39 : x39_.toInt = (I38 rm 6).toInt := by rw [e39]
        have w39 : x39_ = x1_ := by rw [e39]; exact (Eq.trans (up2_kk eI38 hk35 krm (by decide)) (Eq.trans (hf31.get krm rfl) (Eq.trans (hf27.get krm rfl) (Eq.trans (hf4.get krm rfl) e1.symm))))
        have wt39 : x39_.toInt = x1_.toInt := by rw [w39]
        refine r_iconst hC (v := (1)) dX10_readRain_61 (by decide) (by decide) (fun x40_ e40 t40 => ?_)
        refine r_iadd hC dX10_readRain_62 (fun x41_ e41 => ?_)
        try have t41 : x41_.toInt = x39_.toInt + x40_.toInt := by rw [e41]; exact ti_add (by omega) (by omega)
        refine r_putiN hC 6 (ci := 9) rfl u9_in tyX9_ok nmX9 (by decide) nF_6 rfl rfl rfl dX10_readRain_63 krm rfl rfl (fun I42 eI42 => ?_)
        have hs42 := hs38.put1 eI42 krm rfl (by omega) (by omega) rfl rfl (by decide)
        have hF42 := hF38.put eI42 krm rfl
        have hG3 : I42 rm 3 = G3 := (Eq.trans (up2_at (Or.inr (by decide)) eI42) (Eq.trans (up2_kk eI38 hk35 krm (by decide)) (Eq.trans (hf31.get krm rfl) (Eq.trans (hf27.get krm rfl) (Eq.trans (hf4.get krm rfl) eG3.symm)))))
        have hG3t : (I42 rm 3).toInt = G3.toInt := congrArg Int32.toInt hG3
        have hG4 : I42 rm 4 = G4 := (Eq.trans (up2_at (Or.inr (by decide)) eI42) (Eq.trans (up2_kk eI38 hk35 krm (by decide)) (Eq.trans (hf31.get krm rfl) (Eq.trans (hf27.get krm rfl) (Eq.trans (hf4.get krm rfl) eG4.symm)))))
        have hG4t : (I42 rm 4).toInt = G4.toInt := congrArg Int32.toInt hG4
        have hG7 : I42 rm 7 = G7 := (Eq.trans (up2_at (Or.inr (by decide)) eI42) (Eq.trans (up2_kk eI38 hk35 krm (by decide)) (Eq.trans (hf31.get krm rfl) (Eq.trans (hf27.get krm rfl) (Eq.trans (hf4.get krm rfl) eG7.symm)))))
        have hG7t : (I42 rm 7).toInt = G7.toInt := congrArg Int32.toInt hG7
        have hG8 : I42 rm 8 = G8 := (Eq.trans (up2_at (Or.inr (by decide)) eI42) (Eq.trans (up2_kk eI38 hk35 krm (by decide)) (Eq.trans (hf31.get krm rfl) (Eq.trans (hf27.get krm rfl) (Eq.trans (hf4.get krm rfl) eG8.symm)))))
        have hG8t : (I42 rm 8).toInt = G8.toInt := congrArg Int32.toInt hG8
        have hG9 : I42 rm 9 = G9 := (Eq.trans (up2_at (Or.inr (by decide)) eI42) (Eq.trans (up2_kk eI38 hk35 krm (by decide)) (Eq.trans (hf31.get krm rfl) (Eq.trans (hf27.get krm rfl) (Eq.trans (hf4.get krm rfl) eG9.symm)))))
        have hG9t : (I42 rm 9).toInt = G9.toInt := congrArg Int32.toInt hG9
        have hGN : I42 rm 10 = GN := (Eq.trans (up2_at (Or.inr (by decide)) eI42) (Eq.trans (up2_kk eI38 hk35 krm (by decide)) (Eq.trans (hf31.get krm rfl) (Eq.trans (hf27.get krm rfl) (Eq.trans (hf4.get krm rfl) eGN.symm)))))
        have hGNt : (I42 rm 10).toInt = GN.toInt := congrArg Int32.toInt hGN
        have hv8 : I42 a0 8 = A9 := (Eq.trans (up2_kk eI42 krm ka0 (by decide)) (Eq.trans (up2_kk eI38 hk35 ka0 (by decide)) eA9.symm))
        have hv8t : (I42 a0 8).toInt = A9.toInt := congrArg Int32.toInt hv8
        have hv9 : I42 a0 9 = x32_ := (Eq.trans (up2_kk eI42 krm ka0 (by decide)) (Eq.trans (up2_kk eI38 hk35 ka0 (by decide)) e32.symm))
        have hv9t : (I42 a0 9).toInt = x32_.toInt := congrArg Int32.toInt hv9
        exact r_vret hC hQ hlk hr (by decide) (by decide) dX10_readRain_66 ⟨_, _, rfl, rfl, ⟨hs42, hF42, hFJ31, (by first | (left; omega) | (right; omega)), (by omega), (by omega), (by omega)⟩⟩
      · have hG3 : I31 rm 3 = G3 := (Eq.trans (hf31.get krm rfl) (Eq.trans (hf27.get krm rfl) (Eq.trans (hf4.get krm rfl) eG3.symm)))
        have hG3t : (I31 rm 3).toInt = G3.toInt := congrArg Int32.toInt hG3
        have hG4 : I31 rm 4 = G4 := (Eq.trans (hf31.get krm rfl) (Eq.trans (hf27.get krm rfl) (Eq.trans (hf4.get krm rfl) eG4.symm)))
        have hG4t : (I31 rm 4).toInt = G4.toInt := congrArg Int32.toInt hG4
        have hG7 : I31 rm 7 = G7 := (Eq.trans (hf31.get krm rfl) (Eq.trans (hf27.get krm rfl) (Eq.trans (hf4.get krm rfl) eG7.symm)))
        have hG7t : (I31 rm 7).toInt = G7.toInt := congrArg Int32.toInt hG7
        have hG8 : I31 rm 8 = G8 := (Eq.trans (hf31.get krm rfl) (Eq.trans (hf27.get krm rfl) (Eq.trans (hf4.get krm rfl) eG8.symm)))
        have hG8t : (I31 rm 8).toInt = G8.toInt := congrArg Int32.toInt hG8
        have hG9 : I31 rm 9 = G9 := (Eq.trans (hf31.get krm rfl) (Eq.trans (hf27.get krm rfl) (Eq.trans (hf4.get krm rfl) eG9.symm)))
        have hG9t : (I31 rm 9).toInt = G9.toInt := congrArg Int32.toInt hG9
        have hGN : I31 rm 10 = GN := (Eq.trans (hf31.get krm rfl) (Eq.trans (hf27.get krm rfl) (Eq.trans (hf4.get krm rfl) eGN.symm)))
        have hGNt : (I31 rm 10).toInt = GN.toInt := congrArg Int32.toInt hGN
        have hv8 : I31 a0 8 = A9 := eA9.symm
        have hv8t : (I31 a0 8).toInt = A9.toInt := congrArg Int32.toInt hv8
        have hv9 : I31 a0 9 = x32_ := e32.symm
        have hv9t : (I31 a0 9).toInt = x32_.toInt := congrArg Int32.toInt hv9
        exact r_vret hC hQ hlk hr (by decide) (by decide) dX10_readRain_39 ⟨_, _, rfl, rfl, ⟨hs31, hF31, hFJ31, (by first | (left; omega) | (right; omega)), (by omega), (by omega), (by omega)⟩⟩
    · replace k27_1 := k27_1 sf27
      clear k27_0 md26 sf4
      refine r_istore_n hC (lv' := [(1, .int x27_), (0, .ref a0)]) dX10_readRain_20 (by decide) rfl ?_
      refine r_aload_n hC dX10_readRain_21 1 rfl ?_
      refine r_ldcS hC (i := 44) (by decide) rfl rfl dX10_readRain_22 ?_
      refine r_iconst hC (v := (1)) dX10_readRain_24 (by decide) (by decide) (fun x43_ e43 t43 => ?_)
      refine r_bipush hC (v := (99)) dX10_readRain_25 (by decide) (by decide) (fun x44_ e44 t44 => ?_)
      have md45 : (I27 a0 9).toInt ≠ 5 := by omega
      refine r_callV hC (As := [.ref (g.2.2.1 44), .int x43_, .int x44_]) (rest := []) (ci := 10) (c_X10_readPart g (xL X) K len I27 J27 R hs27 a0 ka0 44 (by decide) x43_ x44_) mT_6_1 mT_1_10 mT_5_238 mT_6_0 mP_56 okX10_readPart ⟨by decide, by decide⟩ rfl (by show kO (K a0) = _; rw [ka0]; rfl) rfl rfl (Nat.le_of_ble_eq_true rfl) ⟨by decide, by decide⟩ dX10_readRain_27 (aI2 (F := fun st M => P g X 3 30 [(1, .int x27_), (0, .ref a0)] st _ _ M) (M := (K, len, I27, J27, R)) fun x46_ I46 J46 h46 => ?_)
      obtain ⟨hs46, hf46, hfj46, k46_0, k46_1, k46_2, k46_3⟩ := h46
      show P g X 3 30 [(1, .int x27_), (0, .ref a0)] [.int x46_] _ _ (K, len, I46, J46, R)
      have hF46 : Fr K [(10, 6), (11, 8), (11, 9), (11, 10), (11, 11), (11, 12), (11, 13), (74, 999)] I I46 := hF27.trans hf46 rfl rfl
      have hFJ46 : Fr K [(11, 14)] J J46 := hFJ27.trans hfj46 rfl rfl
      clear k27_3
      by_cases sf46 : (I46 a0 9).toInt = 5
      · clear k46_0 k46_1 k46_3 md45 sf27
        refine r_istore_n hC (lv' := [(2, .int x46_), (1, .int x27_), (0, .ref a0)]) dX10_readRain_30 (by decide) rfl ?_
        refine r_aload_n hC dX10_readRain_31 2 rfl ?_
        obtain ⟨A9, eA9⟩ : ∃ z : Int32, z = I46 a0 8 := ⟨_, rfl⟩
        have fA9 : A9.toInt = (I46 a0 8).toInt := by rw [eA9]
        have rA9 := hs46.rng ka0 rfl eA9
        refine r_geti hC 9 (ci := 10) rfl u10_in (by decide) mT_5_4 dX10_readRain_32 ka0 rfl rfl (fun x47_ e47 => ?_)
        have f47 : x47_.toInt = (I46 a0 9).toInt := by rw [e47]
        refine r_iconst hC (v := (5)) dX10_readRain_35 (by decide) (by decide) (fun x48_ e48 t48 => ?_)
        refine r_icmp_ne hC (tgt := 40) dX10_readRain_36 (by decide) (fun c49 => ?_) (fun c49 => ?_)
        · refine r_aload_n hC dX10_readRain_40 2 rfl ?_
          refine r_getr hC 4 (ci := 10) rfl u10_in (by decide) mT_4_239 dX10_readRain_41 ka0 rfl rfl hbr ?_
          obtain ⟨a50_, hb50, hk50, hn50⟩ := hs46.row krm 15 74 60 (by decide) (by decide)
          refine r_getrN hC 15 (ci := 9) rfl u9_in (by decide) nF_15 dX10_readRain_44 krm rfl rfl hb50 ?_
          refine r_iload_n hC dX10_readRain_47 1 rfl ?_
          refine r_dup2 hC dX10_readRain_48 rfl rfl ?_
          refine x_iaload hC hk50 hn50 (by decide) rfl rfl dX10_readRain_49 (by omega) (by omega) (fun x51_ e51 => ?_)
          refine r_iload_n hC dX10_readRain_50 0 rfl ?_
          refine r_iadd hC dX10_readRain_51 (fun x52_ e52 => ?_)
          try have t52 : x52_.toInt = x51_.toInt + x46_.toInt := by rw [e52]; exact ti_add (by omega) (by omega)
          refine x_iastore hC hk50 hn50 (by decide) rfl rfl dX10_readRain_52 (by omega) (by omega) (fun I53 eI53 => ?_)
          have hs53 := hs46.put0 eI53 hk50 (rng_arr (by decide) _) rfl (xF_arr (by decide) _) (by decide)
          have hF53 := hF46.put eI53 hk50 (inS_arr rfl _)
          refine r_aload_n hC dX10_readRain_53 2 rfl ?_
          refine r_getr hC 4 (ci := 10) rfl u10_in (by decide) mT_4_239 dX10_readRain_54 ka0 rfl rfl hbr ?_
          refine r_dup hC dX10_readRain_57 rfl ?_
          refine r_getiN hC 6 (ci := 9) rfl u9_in (by decide) nF_6 dX10_readRain_58 krm rfl rfl (fun x54_ e54 => ?_)
          have r54 := hs53.rng krm rfl e54
          have f54 : x54_.toInt = (I53 rm 6).toInt := by rw [e54]
          have w54 : x54_ = x1_ := by rw [e54]; exact (Eq.trans (up2_kk eI53 hk50 krm (by decide)) (Eq.trans (hf46.get krm rfl) (Eq.trans (hf27.get krm rfl) (Eq.trans (hf4.get krm rfl) e1.symm))))
          have wt54 : x54_.toInt = x1_.toInt := by rw [w54]
          refine r_iconst hC (v := (1)) dX10_readRain_61 (by decide) (by decide) (fun x55_ e55 t55 => ?_)
          refine r_iadd hC dX10_readRain_62 (fun x56_ e56 => ?_)
          try have t56 : x56_.toInt = x54_.toInt + x55_.toInt := by rw [e56]; exact ti_add (by omega) (by omega)
          refine r_putiN hC 6 (ci := 9) rfl u9_in tyX9_ok nmX9 (by decide) nF_6 rfl rfl rfl dX10_readRain_63 krm rfl rfl (fun I57 eI57 => ?_)
          have hs57 := hs53.put1 eI57 krm rfl (by omega) (by omega) rfl rfl (by decide)
          have hF57 := hF53.put eI57 krm rfl
          have hG3 : I57 rm 3 = G3 := (Eq.trans (up2_at (Or.inr (by decide)) eI57) (Eq.trans (up2_kk eI53 hk50 krm (by decide)) (Eq.trans (hf46.get krm rfl) (Eq.trans (hf27.get krm rfl) (Eq.trans (hf4.get krm rfl) eG3.symm)))))
          have hG3t : (I57 rm 3).toInt = G3.toInt := congrArg Int32.toInt hG3
          have hG4 : I57 rm 4 = G4 := (Eq.trans (up2_at (Or.inr (by decide)) eI57) (Eq.trans (up2_kk eI53 hk50 krm (by decide)) (Eq.trans (hf46.get krm rfl) (Eq.trans (hf27.get krm rfl) (Eq.trans (hf4.get krm rfl) eG4.symm)))))
          have hG4t : (I57 rm 4).toInt = G4.toInt := congrArg Int32.toInt hG4
          have hG7 : I57 rm 7 = G7 := (Eq.trans (up2_at (Or.inr (by decide)) eI57) (Eq.trans (up2_kk eI53 hk50 krm (by decide)) (Eq.trans (hf46.get krm rfl) (Eq.trans (hf27.get krm rfl) (Eq.trans (hf4.get krm rfl) eG7.symm)))))
          have hG7t : (I57 rm 7).toInt = G7.toInt := congrArg Int32.toInt hG7
          have hG8 : I57 rm 8 = G8 := (Eq.trans (up2_at (Or.inr (by decide)) eI57) (Eq.trans (up2_kk eI53 hk50 krm (by decide)) (Eq.trans (hf46.get krm rfl) (Eq.trans (hf27.get krm rfl) (Eq.trans (hf4.get krm rfl) eG8.symm)))))
          have hG8t : (I57 rm 8).toInt = G8.toInt := congrArg Int32.toInt hG8
          have hG9 : I57 rm 9 = G9 := (Eq.trans (up2_at (Or.inr (by decide)) eI57) (Eq.trans (up2_kk eI53 hk50 krm (by decide)) (Eq.trans (hf46.get krm rfl) (Eq.trans (hf27.get krm rfl) (Eq.trans (hf4.get krm rfl) eG9.symm)))))
          have hG9t : (I57 rm 9).toInt = G9.toInt := congrArg Int32.toInt hG9
          have hGN : I57 rm 10 = GN := (Eq.trans (up2_at (Or.inr (by decide)) eI57) (Eq.trans (up2_kk eI53 hk50 krm (by decide)) (Eq.trans (hf46.get krm rfl) (Eq.trans (hf27.get krm rfl) (Eq.trans (hf4.get krm rfl) eGN.symm)))))
          have hGNt : (I57 rm 10).toInt = GN.toInt := congrArg Int32.toInt hGN
          have hv8 : I57 a0 8 = A9 := (Eq.trans (up2_kk eI57 krm ka0 (by decide)) (Eq.trans (up2_kk eI53 hk50 ka0 (by decide)) eA9.symm))
          have hv8t : (I57 a0 8).toInt = A9.toInt := congrArg Int32.toInt hv8
          have hv9 : I57 a0 9 = x47_ := (Eq.trans (up2_kk eI57 krm ka0 (by decide)) (Eq.trans (up2_kk eI53 hk50 ka0 (by decide)) e47.symm))
          have hv9t : (I57 a0 9).toInt = x47_.toInt := congrArg Int32.toInt hv9
          exact r_vret hC hQ hlk hr (by decide) (by decide) dX10_readRain_66 ⟨_, _, rfl, rfl, ⟨hs57, hF57, hFJ46, (by first | (left; omega) | (right; omega)), (by omega), (by omega), (by omega)⟩⟩
        · have hG3 : I46 rm 3 = G3 := (Eq.trans (hf46.get krm rfl) (Eq.trans (hf27.get krm rfl) (Eq.trans (hf4.get krm rfl) eG3.symm)))
          have hG3t : (I46 rm 3).toInt = G3.toInt := congrArg Int32.toInt hG3
          have hG4 : I46 rm 4 = G4 := (Eq.trans (hf46.get krm rfl) (Eq.trans (hf27.get krm rfl) (Eq.trans (hf4.get krm rfl) eG4.symm)))
          have hG4t : (I46 rm 4).toInt = G4.toInt := congrArg Int32.toInt hG4
          have hG7 : I46 rm 7 = G7 := (Eq.trans (hf46.get krm rfl) (Eq.trans (hf27.get krm rfl) (Eq.trans (hf4.get krm rfl) eG7.symm)))
          have hG7t : (I46 rm 7).toInt = G7.toInt := congrArg Int32.toInt hG7
          have hG8 : I46 rm 8 = G8 := (Eq.trans (hf46.get krm rfl) (Eq.trans (hf27.get krm rfl) (Eq.trans (hf4.get krm rfl) eG8.symm)))
          have hG8t : (I46 rm 8).toInt = G8.toInt := congrArg Int32.toInt hG8
          have hG9 : I46 rm 9 = G9 := (Eq.trans (hf46.get krm rfl) (Eq.trans (hf27.get krm rfl) (Eq.trans (hf4.get krm rfl) eG9.symm)))
          have hG9t : (I46 rm 9).toInt = G9.toInt := congrArg Int32.toInt hG9
          have hGN : I46 rm 10 = GN := (Eq.trans (hf46.get krm rfl) (Eq.trans (hf27.get krm rfl) (Eq.trans (hf4.get krm rfl) eGN.symm)))
          have hGNt : (I46 rm 10).toInt = GN.toInt := congrArg Int32.toInt hGN
          have hv8 : I46 a0 8 = A9 := eA9.symm
          have hv8t : (I46 a0 8).toInt = A9.toInt := congrArg Int32.toInt hv8
          have hv9 : I46 a0 9 = x47_ := e47.symm
          have hv9t : (I46 a0 9).toInt = x47_.toInt := congrArg Int32.toInt hv9
          exact r_vret hC hQ hlk hr (by decide) (by decide) dX10_readRain_39 ⟨_, _, rfl, rfl, ⟨hs46, hF46, hFJ46, (by first | (left; omega) | (right; omega)), (by omega), (by omega), (by omega)⟩⟩
      · replace k46_1 := k46_1 sf46
        clear k46_0 md45 sf27
        refine r_istore_n hC (lv' := [(2, .int x46_), (1, .int x27_), (0, .ref a0)]) dX10_readRain_30 (by decide) rfl ?_
        refine r_aload_n hC dX10_readRain_31 2 rfl ?_
        obtain ⟨A9, eA9⟩ : ∃ z : Int32, z = I46 a0 8 := ⟨_, rfl⟩
        have fA9 : A9.toInt = (I46 a0 8).toInt := by rw [eA9]
        have rA9 := hs46.rng ka0 rfl eA9
        refine r_geti hC 9 (ci := 10) rfl u10_in (by decide) mT_5_4 dX10_readRain_32 ka0 rfl rfl (fun x58_ e58 => ?_)
        have f58 : x58_.toInt = (I46 a0 9).toInt := by rw [e58]
        refine r_iconst hC (v := (5)) dX10_readRain_35 (by decide) (by decide) (fun x59_ e59 t59 => ?_)
        refine r_icmp_ne hC (tgt := 40) dX10_readRain_36 (by decide) (fun c60 => ?_) (fun c60 => ?_)
        · refine r_aload_n hC dX10_readRain_40 2 rfl ?_
          refine r_getr hC 4 (ci := 10) rfl u10_in (by decide) mT_4_239 dX10_readRain_41 ka0 rfl rfl hbr ?_
          obtain ⟨a61_, hb61, hk61, hn61⟩ := hs46.row krm 15 74 60 (by decide) (by decide)
          refine r_getrN hC 15 (ci := 9) rfl u9_in (by decide) nF_15 dX10_readRain_44 krm rfl rfl hb61 ?_
          refine r_iload_n hC dX10_readRain_47 1 rfl ?_
          refine r_dup2 hC dX10_readRain_48 rfl rfl ?_
          refine x_iaload hC hk61 hn61 (by decide) rfl rfl dX10_readRain_49 (by omega) (by omega) (fun x62_ e62 => ?_)
          refine r_iload_n hC dX10_readRain_50 0 rfl ?_
          refine r_iadd hC dX10_readRain_51 (fun x63_ e63 => ?_)
          try have t63 : x63_.toInt = x62_.toInt + x46_.toInt := by rw [e63]; exact ti_add (by omega) (by omega)
          refine x_iastore hC hk61 hn61 (by decide) rfl rfl dX10_readRain_52 (by omega) (by omega) (fun I64 eI64 => ?_)
          have hs64 := hs46.put0 eI64 hk61 (rng_arr (by decide) _) rfl (xF_arr (by decide) _) (by decide)
          have hF64 := hF46.put eI64 hk61 (inS_arr rfl _)
          refine r_aload_n hC dX10_readRain_53 2 rfl ?_
          refine r_getr hC 4 (ci := 10) rfl u10_in (by decide) mT_4_239 dX10_readRain_54 ka0 rfl rfl hbr ?_
          refine r_dup hC dX10_readRain_57 rfl ?_
          refine r_getiN hC 6 (ci := 9) rfl u9_in (by decide) nF_6 dX10_readRain_58 krm rfl rfl (fun x65_ e65 => ?_)
          have r65 := hs64.rng krm rfl e65
          have f65 : x65_.toInt = (I64 rm 6).toInt := by rw [e65]
          have w65 : x65_ = x1_ := by rw [e65]; exact (Eq.trans (up2_kk eI64 hk61 krm (by decide)) (Eq.trans (hf46.get krm rfl) (Eq.trans (hf27.get krm rfl) (Eq.trans (hf4.get krm rfl) e1.symm))))
          have wt65 : x65_.toInt = x1_.toInt := by rw [w65]
          refine r_iconst hC (v := (1)) dX10_readRain_61 (by decide) (by decide) (fun x66_ e66 t66 => ?_)
          refine r_iadd hC dX10_readRain_62 (fun x67_ e67 => ?_)
          try have t67 : x67_.toInt = x65_.toInt + x66_.toInt := by rw [e67]; exact ti_add (by omega) (by omega)
          refine r_putiN hC 6 (ci := 9) rfl u9_in tyX9_ok nmX9 (by decide) nF_6 rfl rfl rfl dX10_readRain_63 krm rfl rfl (fun I68 eI68 => ?_)
          have hs68 := hs64.put1 eI68 krm rfl (by omega) (by omega) rfl rfl (by decide)
          have hF68 := hF64.put eI68 krm rfl
          have hG3 : I68 rm 3 = G3 := (Eq.trans (up2_at (Or.inr (by decide)) eI68) (Eq.trans (up2_kk eI64 hk61 krm (by decide)) (Eq.trans (hf46.get krm rfl) (Eq.trans (hf27.get krm rfl) (Eq.trans (hf4.get krm rfl) eG3.symm)))))
          have hG3t : (I68 rm 3).toInt = G3.toInt := congrArg Int32.toInt hG3
          have hG4 : I68 rm 4 = G4 := (Eq.trans (up2_at (Or.inr (by decide)) eI68) (Eq.trans (up2_kk eI64 hk61 krm (by decide)) (Eq.trans (hf46.get krm rfl) (Eq.trans (hf27.get krm rfl) (Eq.trans (hf4.get krm rfl) eG4.symm)))))
          have hG4t : (I68 rm 4).toInt = G4.toInt := congrArg Int32.toInt hG4
          have hG7 : I68 rm 7 = G7 := (Eq.trans (up2_at (Or.inr (by decide)) eI68) (Eq.trans (up2_kk eI64 hk61 krm (by decide)) (Eq.trans (hf46.get krm rfl) (Eq.trans (hf27.get krm rfl) (Eq.trans (hf4.get krm rfl) eG7.symm)))))
          have hG7t : (I68 rm 7).toInt = G7.toInt := congrArg Int32.toInt hG7
          have hG8 : I68 rm 8 = G8 := (Eq.trans (up2_at (Or.inr (by decide)) eI68) (Eq.trans (up2_kk eI64 hk61 krm (by decide)) (Eq.trans (hf46.get krm rfl) (Eq.trans (hf27.get krm rfl) (Eq.trans (hf4.get krm rfl) eG8.symm)))))
          have hG8t : (I68 rm 8).toInt = G8.toInt := congrArg Int32.toInt hG8
          have hG9 : I68 rm 9 = G9 := (Eq.trans (up2_at (Or.inr (by decide)) eI68) (Eq.trans (up2_kk eI64 hk61 krm (by decide)) (Eq.trans (hf46.get krm rfl) (Eq.trans (hf27.get krm rfl) (Eq.trans (hf4.get krm rfl) eG9.symm)))))
          have hG9t : (I68 rm 9).toInt = G9.toInt := congrArg Int32.toInt hG9
          have hGN : I68 rm 10 = GN := (Eq.trans (up2_at (Or.inr (by decide)) eI68) (Eq.trans (up2_kk eI64 hk61 krm (by decide)) (Eq.trans (hf46.get krm rfl) (Eq.trans (hf27.get krm rfl) (Eq.trans (hf4.get krm rfl) eGN.symm)))))
          have hGNt : (I68 rm 10).toInt = GN.toInt := congrArg Int32.toInt hGN
          have hv8 : I68 a0 8 = A9 := (Eq.trans (up2_kk eI68 krm ka0 (by decide)) (Eq.trans (up2_kk eI64 hk61 ka0 (by decide)) eA9.symm))
          have hv8t : (I68 a0 8).toInt = A9.toInt := congrArg Int32.toInt hv8
          have hv9 : I68 a0 9 = x58_ := (Eq.trans (up2_kk eI68 krm ka0 (by decide)) (Eq.trans (up2_kk eI64 hk61 ka0 (by decide)) e58.symm))
          have hv9t : (I68 a0 9).toInt = x58_.toInt := congrArg Int32.toInt hv9
          exact r_vret hC hQ hlk hr (by decide) (by decide) dX10_readRain_66 ⟨_, _, rfl, rfl, ⟨hs68, hF68, hFJ46, (by first | (left; omega) | (right; omega)), (by omega), (by omega), (by omega)⟩⟩
        · have hG3 : I46 rm 3 = G3 := (Eq.trans (hf46.get krm rfl) (Eq.trans (hf27.get krm rfl) (Eq.trans (hf4.get krm rfl) eG3.symm)))
          have hG3t : (I46 rm 3).toInt = G3.toInt := congrArg Int32.toInt hG3
          have hG4 : I46 rm 4 = G4 := (Eq.trans (hf46.get krm rfl) (Eq.trans (hf27.get krm rfl) (Eq.trans (hf4.get krm rfl) eG4.symm)))
          have hG4t : (I46 rm 4).toInt = G4.toInt := congrArg Int32.toInt hG4
          have hG7 : I46 rm 7 = G7 := (Eq.trans (hf46.get krm rfl) (Eq.trans (hf27.get krm rfl) (Eq.trans (hf4.get krm rfl) eG7.symm)))
          have hG7t : (I46 rm 7).toInt = G7.toInt := congrArg Int32.toInt hG7
          have hG8 : I46 rm 8 = G8 := (Eq.trans (hf46.get krm rfl) (Eq.trans (hf27.get krm rfl) (Eq.trans (hf4.get krm rfl) eG8.symm)))
          have hG8t : (I46 rm 8).toInt = G8.toInt := congrArg Int32.toInt hG8
          have hG9 : I46 rm 9 = G9 := (Eq.trans (hf46.get krm rfl) (Eq.trans (hf27.get krm rfl) (Eq.trans (hf4.get krm rfl) eG9.symm)))
          have hG9t : (I46 rm 9).toInt = G9.toInt := congrArg Int32.toInt hG9
          have hGN : I46 rm 10 = GN := (Eq.trans (hf46.get krm rfl) (Eq.trans (hf27.get krm rfl) (Eq.trans (hf4.get krm rfl) eGN.symm)))
          have hGNt : (I46 rm 10).toInt = GN.toInt := congrArg Int32.toInt hGN
          have hv8 : I46 a0 8 = A9 := eA9.symm
          have hv8t : (I46 a0 8).toInt = A9.toInt := congrArg Int32.toInt hv8
          have hv9 : I46 a0 9 = x58_ := e58.symm
          have hv9t : (I46 a0 9).toInt = x58_.toInt := congrArg Int32.toInt hv9
          exact r_vret hC hQ hlk hr (by decide) (by decide) dX10_readRain_39 ⟨_, _, rfl, rfl, ⟨hs46, hF46, hFJ46, (by first | (left; omega) | (right; omega)), (by omega), (by omega), (by omega)⟩⟩
