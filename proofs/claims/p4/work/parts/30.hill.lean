theorem made_old {K len K' len' : Nat → Nat} {I I' : Nat → Nat → Int32} {J' : Nat → Nat → Int64} {R R' : Nat → Nat → Option Nat} {q cj : Nat} {Z : Nat → Int32} (hq : K q = 0) (h : Made (va_up K q (21 + cj)) len (z2 I q 0) (z2 R q none) q cj Z (K', len', I', J', R')) : ∀ b, K b ≠ 0 → K' b = K b ∧ len' b = len b ∧ I' b = I b ∧ R' b = R b := by
  intro b hb
  have hbq : b ≠ q := fun z => hb (by rw [z]; exact hq)
  obtain ⟨h1, h2, h3, h4⟩ := h.2.2.2 b (by rw [va_up_ne _ _ hbq]; exact hb) hbq
  refine ⟨by rw [← va_up_ne K (21 + cj) hbq]; exact h1, h2, ?_, ?_⟩
  · funext j; exact (congrFun h3 j).trans (z2_ne _ _ _ hbq)
  · funext j; exact (congrFun h4 j).trans (z2_ne _ _ _ hbq)
abbrev rmX10_hill : Room := { frames := 11, cells := 18, slots := 231, locals := 236 }
set_option maxHeartbeats 4000000 in
set_option maxRecDepth 100000 in
theorem t_X10_hill {g : GG} {X : XT} {Post : Option Value → MM → Prop} (hC : Cx g X cX10_hill "HillTapModel" 2 rmX10_hill) (hQ : Rq g X rmX10_hill Post) (hlk : (xT X).locks = false) (hr : (xT X).sig.returnType = some .int) (K len : Nat → Nat) (I : Nat → Nat → Int32) (J : Nat → Nat → Int64) (R : Nat → Nat → Option Nat) (hs : Sf K len I R) (a0 : Nat) (ka0 : K a0 = 11) (x1 : Int32) (rm : Nat) (hbr : R a0 4 = some rm) (krm : K rm = 10) (p0 : (I rm 3).toInt = 0) (p1 : (I rm 4).toInt = 0) (p2 : (I rm 7).toInt = 0) (p3 : (I rm 8).toInt = 0) (p4 : (I rm 9).toInt = 0) (p5 : (I rm 10).toInt = 0) (hfin : ∀ r I' J' R', (Sf K len I' R' ∧ Fr K [(10, 0), (10, 1), (10, 2), (10, 3), (10, 4), (10, 5), (10, 6), (10, 7), (10, 8), (10, 9), (10, 10), (11, 0), (11, 1), (11, 2), (11, 6), (11, 7), (11, 8), (11, 9), (11, 10), (11, 11), (11, 12), (11, 13), (11, 20), (70, 999), (71, 999), (72, 999), (73, 999), (74, 999), (75, 999), (76, 999), (77, 999), (78, 999), (79, 999), (80, 999), (81, 999), (83, 999), (84, 999), (1000, 999)] I I' ∧ Fr K [(11, 14), (82, 999)] J J' ∧ Fr K [(11, 3), (11, 4)] R R' ∧ (I' a0 6).toInt = (I a0 6).toInt) → Post (some (.int r)) (K, len, I', J', R')) : P g X 2 54 [(0, .ref a0), (1, .int x1)] [] 18 231 (K, len, I, J, R) := by
  have hF : Fr K [(10, 0), (10, 1), (10, 2), (10, 3), (10, 4), (10, 5), (10, 6), (10, 7), (10, 8), (10, 9), (10, 10), (11, 0), (11, 1), (11, 2), (11, 6), (11, 7), (11, 8), (11, 9), (11, 10), (11, 11), (11, 12), (11, 13), (11, 20), (70, 999), (71, 999), (72, 999), (73, 999), (74, 999), (75, 999), (76, 999), (77, 999), (78, 999), (79, 999), (80, 999), (81, 999), (83, 999), (84, 999), (1000, 999)] I I := Fr.refl
  have hFJ : Fr K [(11, 14), (82, 999)] J J := Fr.refl
  have hFR : Fr K [(11, 3), (11, 4)] R R := Fr.refl
  have b_x1 := ti_rng x1
  obtain ⟨G3, eG3⟩ : ∃ z : Int32, z = I rm 3 := ⟨_, rfl⟩
  have fG3 : G3.toInt = (I rm 3).toInt := by rw [eG3]
  have rG3 := hs.rng krm rfl eG3
  obtain ⟨G4, eG4⟩ : ∃ z : Int32, z = I rm 4 := ⟨_, rfl⟩
  have fG4 : G4.toInt = (I rm 4).toInt := by rw [eG4]
  have rG4 := hs.rng krm rfl eG4
  obtain ⟨G7, eG7⟩ : ∃ z : Int32, z = I rm 7 := ⟨_, rfl⟩
  have fG7 : G7.toInt = (I rm 7).toInt := by rw [eG7]
  have rG7 := hs.rng krm rfl eG7
  obtain ⟨G8, eG8⟩ : ∃ z : Int32, z = I rm 8 := ⟨_, rfl⟩
  have fG8 : G8.toInt = (I rm 8).toInt := by rw [eG8]
  have rG8 := hs.rng krm rfl eG8
  obtain ⟨G9, eG9⟩ : ∃ z : Int32, z = I rm 9 := ⟨_, rfl⟩
  have fG9 : G9.toInt = (I rm 9).toInt := by rw [eG9]
  have rG9 := hs.rng krm rfl eG9
  obtain ⟨GN, eGN⟩ : ∃ z : Int32, z = I rm 10 := ⟨_, rfl⟩
  have fGN : GN.toInt = (I rm 10).toInt := by rw [eGN]
  have rGN := hs.rng krm rfl eGN
  obtain ⟨L6, eL6⟩ : ∃ z : Int32, z = I a0 6 := ⟨_, rfl⟩
  have fL6 : L6.toInt = (I a0 6).toInt := by rw [eL6]
  have rL6 := hs.rng ka0 rfl eL6
  refine r_aload_n hC dX10_hill_54 0 rfl ?_
  refine r_iconst hC (v := (0)) dX10_hill_55 (by decide) (by decide) (fun x1_ e1 t1 => ?_)
  refine r_puti hC 9 (ci := 10) rfl u10_in tyX10_ok nmX10 (by decide) mT_5_4 rfl rfl rfl dX10_hill_56 ka0 rfl rfl (fun I2 eI2 => ?_)
  have hs2 := hs.put0 eI2 ka0 rfl rfl rfl (by decide)
  have hF2 := hF.put eI2 ka0 rfl
  refine r_aload_n hC dX10_hill_59 0 rfl ?_
  refine r_callV hC (As := []) (rest := []) (ci := 10) (c_X10_goesOn g (xL X) K len I2 J R hs2 a0 ka0) mT_5_199 mT_1_10 mT_5_196 mT_5_198 mP_49 okX10_goesOn ⟨by decide, by decide⟩ rfl (by show kO (K a0) = _; rw [ka0]; rfl) rfl rfl (Nat.le_of_ble_eq_true rfl) ⟨by decide, by decide⟩ dX10_hill_60 (aV2 (F := fun st M => P g X 2 63 [(0, .ref a0), (1, .int x1)] st _ _ M) (M := (K, len, I2, J, R)) fun I3 J3 h3 => ?_)
  obtain ⟨hs3, hf3, hfj3, k3_0, k3_1, k3_2, k3_3⟩ := h3
  show P g X 2 63 [(0, .ref a0), (1, .int x1)] [] _ _ (K, len, I3, J3, R)
  have hF3 : Fr K [(10, 0), (10, 1), (10, 2), (10, 3), (10, 4), (10, 5), (10, 6), (10, 7), (10, 8), (10, 9), (10, 10), (11, 0), (11, 1), (11, 2), (11, 6), (11, 7), (11, 8), (11, 9), (11, 10), (11, 11), (11, 12), (11, 13), (11, 20), (70, 999), (71, 999), (72, 999), (73, 999), (74, 999), (75, 999), (76, 999), (77, 999), (78, 999), (79, 999), (80, 999), (81, 999), (83, 999), (84, 999), (1000, 999)] I I3 := hF2.trans hf3 rfl rfl
  have hFJ3 : Fr K [(11, 14), (82, 999)] J J3 := hFJ.trans hfj3 rfl rfl
  refine r_aload_n hC dX10_hill_63 0 rfl ?_
  have hG3 : I3 rm 3 = G3 := (Eq.trans (hf3.get krm rfl) (Eq.trans (up2_kk eI2 ka0 krm (by decide)) eG3.symm))
  have hG3t : (I3 rm 3).toInt = G3.toInt := congrArg Int32.toInt hG3
  have hG4 : I3 rm 4 = G4 := (Eq.trans (hf3.get krm rfl) (Eq.trans (up2_kk eI2 ka0 krm (by decide)) eG4.symm))
  have hG4t : (I3 rm 4).toInt = G4.toInt := congrArg Int32.toInt hG4
  have hG7 : I3 rm 7 = G7 := (Eq.trans (hf3.get krm rfl) (Eq.trans (up2_kk eI2 ka0 krm (by decide)) eG7.symm))
  have hG7t : (I3 rm 7).toInt = G7.toInt := congrArg Int32.toInt hG7
  have hG8 : I3 rm 8 = G8 := (Eq.trans (hf3.get krm rfl) (Eq.trans (up2_kk eI2 ka0 krm (by decide)) eG8.symm))
  have hG8t : (I3 rm 8).toInt = G8.toInt := congrArg Int32.toInt hG8
  have hG9 : I3 rm 9 = G9 := (Eq.trans (hf3.get krm rfl) (Eq.trans (up2_kk eI2 ka0 krm (by decide)) eG9.symm))
  have hG9t : (I3 rm 9).toInt = G9.toInt := congrArg Int32.toInt hG9
  have hGN : I3 rm 10 = GN := (Eq.trans (hf3.get krm rfl) (Eq.trans (up2_kk eI2 ka0 krm (by decide)) eGN.symm))
  have hGNt : (I3 rm 10).toInt = GN.toInt := congrArg Int32.toInt hGN
  refine r_callV hC (As := []) (rest := []) (ci := 10) (c_X10_readHill g (xL X) K len I3 J3 R hs3 a0 ka0 rm hbr krm (by right; omega) (by omega)) mT_5_214 mT_1_10 mT_5_211 mT_5_213 mP_51 okX10_readHill ⟨by decide, by decide⟩ rfl (by show kO (K a0) = _; rw [ka0]; rfl) rfl rfl (Nat.le_of_ble_eq_true rfl) ⟨by decide, by decide⟩ dX10_hill_64 (aV2 (F := fun st M => P g X 2 67 [(0, .ref a0), (1, .int x1)] st _ _ M) (M := (K, len, I3, J3, R)) fun I4 J4 h4 => ?_)
  obtain ⟨hs4, hf4, hfj4⟩ := h4
  show P g X 2 67 [(0, .ref a0), (1, .int x1)] [] _ _ (K, len, I4, J4, R)
  have hF4 : Fr K [(10, 0), (10, 1), (10, 2), (10, 3), (10, 4), (10, 5), (10, 6), (10, 7), (10, 8), (10, 9), (10, 10), (11, 0), (11, 1), (11, 2), (11, 6), (11, 7), (11, 8), (11, 9), (11, 10), (11, 11), (11, 12), (11, 13), (11, 20), (70, 999), (71, 999), (72, 999), (73, 999), (74, 999), (75, 999), (76, 999), (77, 999), (78, 999), (79, 999), (80, 999), (81, 999), (83, 999), (84, 999), (1000, 999)] I I4 := hF3.trans hf4 rfl rfl
  have hFJ4 : Fr K [(11, 14), (82, 999)] J J4 := hFJ3.trans hfj4 rfl rfl
  refine r_aload_n hC dX10_hill_67 0 rfl ?_
  refine r_geti hC 12 (ci := 10) rfl u10_in (by decide) mT_5_7 dX10_hill_68 ka0 rfl rfl (fun x5_ e5 => ?_)
  refine r_if_le hC (tgt := 89) dX10_hill_71 (by decide) (fun c6 => ?_) (fun c6 => ?_)
  · refine r_aload_n hC dX10_hill_89 0 rfl ?_
    refine r_aload_n hC dX10_hill_90 0 rfl ?_
    refine r_getr hC 4 (ci := 10) rfl u10_in (by decide) mT_4_239 dX10_hill_91 ka0 rfl rfl hbr ?_
    refine r_putr hC 3 (ci := 10) rfl u10_in tyX10_ok nmX10 (by decide) mT_4_238 rfl rfl rfl dX10_hill_94 ka0 rfl rfl (fun R7 eR7 => ?_)
    have hs7 := hs4.putR11 eR7 ka0 (by decide) krm
    have hFR7 := hFR.put eR7 ka0 rfl
    have hbR7 : R7 a0 3 = some rm := by rw [eR7, up2_self]
    refine r_aload_n hC dX10_hill_97 0 rfl ?_
    refine r_iconst hC (v := (0)) dX10_hill_98 (by decide) (by decide) (fun x8_ e8 t8 => ?_)
    refine r_puti hC 20 (ci := 10) rfl u10_in tyX10_ok nmX10 (by decide) mT_5_15 rfl rfl rfl dX10_hill_99 ka0 rfl rfl (fun I9 eI9 => ?_)
    have hs9 := hs7.put1 eI9 ka0 rfl (by omega) (by omega) rfl rfl (by decide)
    have hF9 := hF4.put eI9 ka0 rfl
    refine r_aload_n hC dX10_hill_102 0 rfl ?_
    refine r_aload_n hC dX10_hill_103 0 rfl ?_
    refine r_getr hC 3 (ci := 10) rfl u10_in (by decide) mT_4_238 dX10_hill_104 ka0 rfl rfl hbR7 ?_
    refine r_getiN hC 7 (ci := 9) rfl u9_in (by decide) nF_7 dX10_hill_107 krm rfl rfl (fun x10_ e10 => ?_)
    have r10 := hs9.rng krm rfl e10
    have f10 : x10_.toInt = (I9 rm 7).toInt := by rw [e10]
    refine r_callV hC (As := [.int x10_]) (rest := []) (ci := 10) (c_X10_done g (xL X) K len I9 J4 R7 hs9 a0 ka0 x10_) mT_6_79 mT_1_10 mT_6_76 mT_6_78 mP_67 okX10_done ⟨by decide, by decide⟩ rfl (by show kO (K a0) = _; rw [ka0]; rfl) rfl rfl (Nat.le_of_ble_eq_true rfl) ⟨by decide, by decide⟩ dX10_hill_110 (aI1 (F := fun st M => P g X 2 113 [(0, .ref a0), (1, .int x1)] st _ _ M) (M := (K, len, I9, J4, R7)) fun x11_ I11 h11 => ?_)
    obtain ⟨hs11, hf11, k11_0, k11_1, k11_2⟩ := h11
    show P g X 2 113 [(0, .ref a0), (1, .int x1)] [.int x11_] _ _ (K, len, I11, J4, R7)
    have hF11 : Fr K [(10, 0), (10, 1), (10, 2), (10, 3), (10, 4), (10, 5), (10, 6), (10, 7), (10, 8), (10, 9), (10, 10), (11, 0), (11, 1), (11, 2), (11, 6), (11, 7), (11, 8), (11, 9), (11, 10), (11, 11), (11, 12), (11, 13), (11, 20), (70, 999), (71, 999), (72, 999), (73, 999), (74, 999), (75, 999), (76, 999), (77, 999), (78, 999), (79, 999), (80, 999), (81, 999), (83, 999), (84, 999), (1000, 999)] I I11 := hF9.trans hf11 rfl rfl
    have hv6 : I11 a0 6 = L6 := (Eq.trans (hf11.get ka0 rfl) (Eq.trans (up2_at (Or.inr (by decide)) eI9) (Eq.trans (hf4.get ka0 rfl) (Eq.trans (hf3.get ka0 rfl) (Eq.trans (up2_at (Or.inr (by decide)) eI2) eL6.symm)))))
    have hv6t : (I11 a0 6).toInt = L6.toInt := congrArg Int32.toInt hv6
    exact r_iret hC hQ hlk hr rfl (by decide) (by decide) dX10_hill_113 (hfin _ _ _ _ ⟨hs11, hF11, hFJ4, hFR7, by rw [hv6, eL6]⟩)
  · refine r_aload_n hC dX10_hill_74 0 rfl ?_
    refine r_iconst hC (v := (4)) dX10_hill_75 (by decide) (by decide) (fun x12_ e12 t12 => ?_)
    refine r_puti hC 1 (ci := 10) rfl u10_in tyX10_ok nmX10 (by decide) mT_4_236 rfl rfl rfl dX10_hill_76 ka0 rfl rfl (fun I13 eI13 => ?_)
    have hs13 := hs4.put0 eI13 ka0 rfl rfl rfl (by decide)
    have hF13 := hF4.put eI13 ka0 rfl
    refine r_aload_n hC dX10_hill_79 0 rfl ?_
    refine r_aload_n hC dX10_hill_80 0 rfl ?_
    refine r_geti hC 13 (ci := 10) rfl u10_in (by decide) mT_5_8 dX10_hill_81 ka0 rfl rfl (fun x14_ e14 => ?_)
    refine r_puti hC 2 (ci := 10) rfl u10_in tyX10_ok nmX10 (by decide) mT_4_237 rfl rfl rfl dX10_hill_84 ka0 rfl rfl (fun I15 eI15 => ?_)
    have hs15 := hs13.put0 eI15 ka0 rfl rfl rfl (by decide)
    have hF15 := hF13.put eI15 ka0 rfl
    refine r_iconst hC (v := (-1)) dX10_hill_87 (by decide) (by decide) (fun x16_ e16 t16 => ?_)
    have hv6 : I15 a0 6 = L6 := (Eq.trans (up2_at (Or.inr (by decide)) eI15) (Eq.trans (up2_at (Or.inr (by decide)) eI13) (Eq.trans (hf4.get ka0 rfl) (Eq.trans (hf3.get ka0 rfl) (Eq.trans (up2_at (Or.inr (by decide)) eI2) eL6.symm)))))
    have hv6t : (I15 a0 6).toInt = L6.toInt := congrArg Int32.toInt hv6
    exact r_iret hC hQ hlk hr rfl (by decide) (by decide) dX10_hill_88 (hfin _ _ _ _ ⟨hs15, hF15, hFJ4, hFR, by rw [hv6, eL6]⟩)
set_option maxHeartbeats 4000000 in
set_option maxRecDepth 100000 in
theorem c_X10_hill (g : GG) (l : Launch) (K len : Nat → Nat) (I : Nat → Nat → Int32) (J : Nat → Nat → Int64) (R : Nat → Nat → Option Nat) (hs : Sf K len I R) (a0 : Nat) (ka0 : K a0 = 11) (x1 : Int32) : Ct g l yX10_hill cX10_hill 2 (Option.some Jvm.ClassFile.FieldType.int) rmX10_hill [.ref a0, .int x1] (K, len, I, J, R) (pI5 (fun r M1 => Sf M1.1 M1.2.1 M1.2.2.1 M1.2.2.2.2 ∧ (∀ b, K b ≠ 0 → M1.1 b = K b ∧ M1.2.1 b = len b) ∧ (∀ b k, K b ≠ 0 → inS [(10, 0), (10, 1), (10, 2), (10, 3), (10, 4), (10, 5), (10, 6), (10, 7), (10, 8), (10, 9), (10, 10), (11, 0), (11, 1), (11, 2), (11, 6), (11, 7), (11, 8), (11, 9), (11, 10), (11, 11), (11, 12), (11, 13), (11, 20), (70, 999), (71, 999), (72, 999), (73, 999), (74, 999), (75, 999), (76, 999), (77, 999), (78, 999), (79, 999), (80, 999), (81, 999), (83, 999), (84, 999), (1000, 999)] (K b) k = false → M1.2.2.1 b k = I b k) ∧ (∀ b k, K b ≠ 0 → inS [(11, 3), (11, 4)] (K b) k = false → M1.2.2.2.2 b k = R b k) ∧ (0 ≤ x1.toInt ∧ x1.toInt ≤ (I a0 6).toInt → (M1.2.2.1 a0 6).toInt = 0) ∧ (¬ (0 ≤ x1.toInt ∧ x1.toInt ≤ (I a0 6).toInt) → (M1.2.2.1 a0 6).toInt = (I a0 6).toInt))) := by
  refine Ct_intro (by decide +kernel) (Nat.le_of_ble_eq_true rfl) (fun X hC hL hKK hNm hr hlk hQ => ?_)
  subst hL
  have hC : Cx g X cX10_hill "HillTapModel" 2 rmX10_hill := hC
  show P g X 2 0 [(0, .ref a0), (1, .int x1)] [] 0 0 (K, len, I, J, R)
  have hF : Fr K [(10, 0), (10, 1), (10, 2), (10, 3), (10, 4), (10, 5), (10, 6), (10, 7), (10, 8), (10, 9), (10, 10), (11, 0), (11, 1), (11, 2), (11, 6), (11, 7), (11, 8), (11, 9), (11, 10), (11, 11), (11, 12), (11, 13), (11, 20), (70, 999), (71, 999), (72, 999), (73, 999), (74, 999), (75, 999), (76, 999), (77, 999), (78, 999), (79, 999), (80, 999), (81, 999), (83, 999), (84, 999), (1000, 999)] I I := Fr.refl
  have b_x1 := ti_rng x1
  obtain ⟨L0, eL0⟩ : ∃ z : Int32, z = I a0 6 := ⟨_, rfl⟩
  have fL0 : L0.toInt = (I a0 6).toInt := by rw [eL0]
  have rL0 := hs.rng ka0 rfl eL0
  refine r_aload_n hC dX10_hill_0 0 rfl ?_
  refine r_iconst hC (v := (0)) dX10_hill_1 (by decide) (by decide) (fun x1_ e1 t1 => ?_)
  refine r_puti hC 0 (ci := 10) rfl u10_in tyX10_ok nmX10 (by decide) mT_4_235 rfl rfl rfl dX10_hill_2 ka0 rfl rfl (fun I2 eI2 => ?_)
  have hs2 := hs.put0 eI2 ka0 rfl rfl rfl (by decide)
  have hF2 := hF.put eI2 ka0 rfl
  refine r_iload_n hC dX10_hill_5 1 rfl ?_
  refine r_if_lt hC (tgt := 17) dX10_hill_6 (by decide) (fun c3 => ?_) (fun c3 => ?_)
  · refine r_aload_n hC dX10_hill_17 0 rfl ?_
    refine r_iconst hC (v := (2)) dX10_hill_18 (by decide) (by decide) (fun x4_ e4 t4 => ?_)
    refine r_callV hC (As := [.int x4_]) (rest := []) (ci := 10) (c_X10_refused g (xL X) K len I2 J R hs2 a0 ka0 x4_) mT_5_85 mT_1_10 mT_5_82 mT_5_84 mP_48 okX10_refused ⟨by decide, by decide⟩ rfl (by show kO (K a0) = _; rw [ka0]; rfl) rfl rfl (Nat.le_of_ble_eq_true rfl) ⟨by decide, by decide⟩ dX10_hill_19 (aI1 (F := fun st M => P g X 2 22 [(0, .ref a0), (1, .int x1)] st _ _ M) (M := (K, len, I2, J, R)) fun x5_ I5 h5 => ?_)
    obtain ⟨hs5, hf5, k5_0, k5_1, k5_2⟩ := h5
    show P g X 2 22 [(0, .ref a0), (1, .int x1)] [.int x5_] _ _ (K, len, I5, J, R)
    have hF5 : Fr K [(10, 0), (10, 1), (10, 2), (10, 3), (10, 4), (10, 5), (10, 6), (10, 7), (10, 8), (10, 9), (10, 10), (11, 0), (11, 1), (11, 2), (11, 6), (11, 7), (11, 8), (11, 9), (11, 10), (11, 11), (11, 12), (11, 13), (11, 20), (70, 999), (71, 999), (72, 999), (73, 999), (74, 999), (75, 999), (76, 999), (77, 999), (78, 999), (79, 999), (80, 999), (81, 999), (83, 999), (84, 999), (1000, 999)] I I5 := hF2.trans hf5 rfl rfl
    have hv6 : I5 a0 6 = L0 := (Eq.trans (hf5.get ka0 rfl) (Eq.trans (up2_at (Or.inr (by decide)) eI2) eL0.symm))
    have hv6t : (I5 a0 6).toInt = L0.toInt := congrArg Int32.toInt hv6
    exact r_iret hC hQ hlk hr rfl (by decide) (by decide) dX10_hill_22 ⟨_, rfl, hs5, fun b _ => ⟨rfl, rfl⟩, fun b k _ hi => hF5 b k hi, fun _ _ _ _ => rfl, by show (_ → (I5 a0 6).toInt = 0) ∧ (_ → (I5 a0 6).toInt = (I a0 6).toInt); omega⟩
  · refine r_iload_n hC dX10_hill_9 1 rfl ?_
    refine r_aload_n hC dX10_hill_10 0 rfl ?_
    refine r_geti hC 6 (ci := 10) rfl u10_in (by decide) mT_5_1 dX10_hill_11 ka0 rfl rfl (fun x6_ e6 => ?_)
    have r6 := hs2.rng ka0 rfl e6
    have f6 : x6_.toInt = (I2 a0 6).toInt := by rw [e6]
    have w6 : x6_ = L0 := by rw [e6]; exact (Eq.trans (up2_at (Or.inr (by decide)) eI2) eL0.symm)
    have wt6 : x6_.toInt = L0.toInt := by rw [w6]
    refine r_icmp_le hC (tgt := 23) dX10_hill_14 (by decide) (fun c7 => ?_) (fun c7 => ?_)
    · refine r_aload_n hC dX10_hill_23 0 rfl ?_
      refine r_iload_n hC dX10_hill_24 1 rfl ?_
      refine r_puti hC 7 (ci := 10) rfl u10_in tyX10_ok nmX10 (by decide) mT_5_2 rfl rfl rfl dX10_hill_25 ka0 rfl rfl (fun I8 eI8 => ?_)
      have hs8 := hs2.put1 eI8 ka0 rfl (by omega) (by omega) rfl rfl (by decide)
      have hF8 := hF2.put eI8 ka0 rfl
      refine r_aload_n hC dX10_hill_28 0 rfl ?_
      refine r_iconst hC (v := (0)) dX10_hill_29 (by decide) (by decide) (fun x9_ e9 t9 => ?_)
      refine r_puti hC 6 (ci := 10) rfl u10_in tyX10_ok nmX10 (by decide) mT_5_1 rfl rfl rfl dX10_hill_30 ka0 rfl rfl (fun I10 eI10 => ?_)
      have hs10 := hs8.put1 eI10 ka0 rfl (by omega) (by omega) rfl rfl (by decide)
      have hF10 := hF8.put eI10 ka0 rfl
      refine r_aload_n hC dX10_hill_33 0 rfl ?_
      refine r_iconst hC (v := (0)) dX10_hill_34 (by decide) (by decide) (fun x11_ e11 t11 => ?_)
      refine r_puti hC 8 (ci := 10) rfl u10_in tyX10_ok nmX10 (by decide) mT_5_3 rfl rfl rfl dX10_hill_35 ka0 rfl rfl (fun I12 eI12 => ?_)
      have hs12 := hs10.put1 eI12 ka0 rfl (by omega) (by omega) rfl rfl (by decide)
      have hF12 := hF10.put eI12 ka0 rfl
      refine r_aload_n hC dX10_hill_38 0 rfl ?_
      refine r_iconst hC (v := (0)) dX10_hill_39 (by decide) (by decide) (fun x13_ e13 t13 => ?_)
      refine r_puti hC 12 (ci := 10) rfl u10_in tyX10_ok nmX10 (by decide) mT_5_7 rfl rfl rfl dX10_hill_40 ka0 rfl rfl (fun I14 eI14 => ?_)
      have hs14 := hs12.put0 eI14 ka0 rfl rfl rfl (by decide)
      have hF14 := hF12.put eI14 ka0 rfl
      refine r_aload_n hC dX10_hill_43 0 rfl ?_
      have hz6 : I14 a0 6 = x9_ := (Eq.trans (up2_at (Or.inr (by decide)) eI14) (Eq.trans (up2_at (Or.inr (by decide)) eI12) (by rw [eI10]; exact up2_self _ _ _ _)))
      have hz6t : (I14 a0 6).toInt = x9_.toInt := congrArg Int32.toInt hz6
      have hz6t2 : (I14 a0 6).toInt = 0 := by omega
      refine r_new hC (ci := 9) (ty := tyX9) rfl u9_in tyX9_ok df9 mT_5_86 mT_5_87 mT_1_17 rfl (by decide) (by decide) dX10_hill_44 (fun q hq => ?_)
      refine r_dup hC dX10_hill_47 rfl ?_
      refine r_callIN hC (As := []) (rest := [.ref q, .ref a0]) (c_X9_init g (xL X) _ _ _ _ _ (hs14.growO hq rfl) q (va_up_self _ _ _) (by funext j; exact z2_self _ _ _ _) (fun j => z2_self _ _ _ _)) mT_5_90 mT_1_17 nM_7 mT_5_89 rfl okX9_init ⟨by decide, by decide⟩ rfl rfl (Nat.le_of_ble_eq_true rfl) ⟨by decide, by decide⟩ dX10_hill_48 (aV5 (F := fun st M => P g X 2 51 [(0, .ref a0), (1, .int x1)] st _ _ M) fun M9 h9 => ?_)
      obtain ⟨K9, len9, I9, J9, R9⟩ := M9
      have old := made_old hq h9
      have ka9 : K9 a0 = 11 := (old a0 (by rw [ka0]; decide)).1.trans ka0
      show P g X 2 51 [(0, .ref a0), (1, .int x1)] [.ref q, .ref a0] _ _ (K9, len9, I9, J9, R9)
      refine r_putr hC 4 (ci := 10) rfl u10_in tyX10_ok nmX10 (by decide) mT_4_239 rfl rfl rfl dX10_hill_51 ka9 rfl rfl (fun R10 eR10 => ?_)
      have hs10 := h9.1.putR11 eR10 ka9 (Or.inr rfl) h9.2.1
      have zq : ∀ k, k ≠ 0 → (I9 q k).toInt = 0 := fun k hk => by rw [show I9 q k = va_up (fun _ => 0) 0 (-1) k from congrFun h9.2.2.1 k, va_up_ne _ _ hk]; rfl
      refine t_X10_hill hC hQ hlk hr K9 len9 I9 J9 R10 hs10 a0 ka9 x1 q (by rw [eR10, up2_self]) h9.2.1 (zq 3 (by decide)) (zq 4 (by decide)) (zq 7 (by decide)) (zq 8 (by decide)) (zq 9 (by decide)) (zq 10 (by decide)) (fun r I1 J1 R1 hp => ?_)
      obtain ⟨w1, w2, w3, w4, w5⟩ := hp
      have o6 : (I9 a0 6).toInt = (I14 a0 6).toInt := congrArg Int32.toInt (congrFun (old a0 (by rw [ka0]; decide)).2.2.1 6)
      refine ⟨r, rfl, w1, fun b hb => ⟨(old b hb).1, (old b hb).2.1⟩, fun b k hb hi => ?_, fun b k hb hi => ?_, by show (_ → (I1 a0 6).toInt = 0) ∧ (_ → (I1 a0 6).toInt = (I a0 6).toInt); omega⟩
      · exact (w2 b k (by rw [(old b hb).1]; exact hi)).trans ((congrFun (old b hb).2.2.1 k).trans (hF14 b k hi))
      · refine (w4 b k (by rw [(old b hb).1]; exact hi)).trans ?_
        rw [eR10, up2_ne _ _ ?_]
        · exact congrFun (old b hb).2.2.2 k
        · by_cases y : b = a0
          · right; intro y2; subst y y2; rw [ka0] at hi; exact absurd hi (by decide)
          · exact Or.inl y
    · refine r_aload_n hC dX10_hill_17 0 rfl ?_
      refine r_iconst hC (v := (2)) dX10_hill_18 (by decide) (by decide) (fun x15_ e15 t15 => ?_)
      refine r_callV hC (As := [.int x15_]) (rest := []) (ci := 10) (c_X10_refused g (xL X) K len I2 J R hs2 a0 ka0 x15_) mT_5_85 mT_1_10 mT_5_82 mT_5_84 mP_48 okX10_refused ⟨by decide, by decide⟩ rfl (by show kO (K a0) = _; rw [ka0]; rfl) rfl rfl (Nat.le_of_ble_eq_true rfl) ⟨by decide, by decide⟩ dX10_hill_19 (aI1 (F := fun st M => P g X 2 22 [(0, .ref a0), (1, .int x1)] st _ _ M) (M := (K, len, I2, J, R)) fun x16_ I16 h16 => ?_)
      obtain ⟨hs16, hf16, k16_0, k16_1, k16_2⟩ := h16
      show P g X 2 22 [(0, .ref a0), (1, .int x1)] [.int x16_] _ _ (K, len, I16, J, R)
      have hF16 : Fr K [(10, 0), (10, 1), (10, 2), (10, 3), (10, 4), (10, 5), (10, 6), (10, 7), (10, 8), (10, 9), (10, 10), (11, 0), (11, 1), (11, 2), (11, 6), (11, 7), (11, 8), (11, 9), (11, 10), (11, 11), (11, 12), (11, 13), (11, 20), (70, 999), (71, 999), (72, 999), (73, 999), (74, 999), (75, 999), (76, 999), (77, 999), (78, 999), (79, 999), (80, 999), (81, 999), (83, 999), (84, 999), (1000, 999)] I I16 := hF2.trans hf16 rfl rfl
      have hv6 : I16 a0 6 = x6_ := (Eq.trans (hf16.get ka0 rfl) e6.symm)
      have hv6t : (I16 a0 6).toInt = x6_.toInt := congrArg Int32.toInt hv6
      exact r_iret hC hQ hlk hr rfl (by decide) (by decide) dX10_hill_22 ⟨_, rfl, hs16, fun b _ => ⟨rfl, rfl⟩, fun b k _ hi => hF16 b k hi, fun _ _ _ _ => rfl, by show (_ → (I16 a0 6).toInt = 0) ∧ (_ → (I16 a0 6).toInt = (I a0 6).toInt); omega⟩
