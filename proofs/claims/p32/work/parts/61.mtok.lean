set_option maxHeartbeats 4000000 in
set_option maxRecDepth 100000 in
theorem e_X10_goesOn (g : GG) (l : Launch) (K len : Nat → Nat) (I : Nat → Nat → Int32) (J : Nat → Nat → Int64) (R : Nat → Nat → Option Nat) (hs : Sf K len I R) (a0 : Nat) (ka0 : K a0 = 11) (p0 : (I a0 9).toInt = 5) : Ct g l yX10_goesOn cX10_goesOn 3 (Option.none : Option Jvm.ClassFile.FieldType) rmX10_goesOn [.ref a0] (K, len, I, J, R) (pV2 (K, len, I, J, R) (fun I' J' => Sf K len I' R ∧ Fr K [(11, 8), (11, 9), (11, 10), (11, 11)] I I' ∧ Fr K [(11, 14)] J J' ∧ ((I' a0 9).toInt = 5) ∧ ((I' a0 12).toInt = (I a0 12).toInt) ∧ ((I' a0 13).toInt = (I a0 13).toInt))) := by
  refine Ct_intro (by decide +kernel) (Nat.le_of_ble_eq_true rfl) (fun X hC hL hKK hNm hr hlk hQ => ?_)
  subst hL
  have hC : Cx g X cX10_goesOn "HillTapModel" 3 rmX10_goesOn := hC
  show P g X 3 0 [(0, .ref a0)] [] 0 0 (K, len, I, J, R)
  have hF : Fr K [(11, 8), (11, 9), (11, 10), (11, 11)] I I := Fr.refl
  have hFJ : Fr K [(11, 14)] J J := Fr.refl
  obtain ⟨T0, eT0⟩ : ∃ z : Int32, z = I a0 9 := ⟨_, rfl⟩
  have fT0 : T0.toInt = (I a0 9).toInt := by rw [eT0]
  obtain ⟨F0, eF0⟩ : ∃ z : Int32, z = I a0 12 := ⟨_, rfl⟩
  have fF0 : F0.toInt = (I a0 12).toInt := by rw [eF0]
  obtain ⟨W0, eW0⟩ : ∃ z : Int32, z = I a0 13 := ⟨_, rfl⟩
  have fW0 : W0.toInt = (I a0 13).toInt := by rw [eW0]
  refine r_aload_n hC dX10_goesOn_0 0 rfl ?_
  refine r_geti hC 9 (ci := 10) rfl u10_in (by decide) mT_5_4 dX10_goesOn_1 ka0 rfl rfl (fun x1_ e1 => ?_)
  have f1 : x1_.toInt = (I a0 9).toInt := by rw [e1]
  have w1 : x1_ = T0 := by rw [e1]; exact eT0.symm
  have wt1 : x1_.toInt = T0.toInt := by rw [w1]
  refine r_iconst hC (v := (5)) dX10_goesOn_4 (by decide) (by decide) (fun x2_ e2 t2 => ?_)
  refine r_icmp_ne hC (tgt := 9) dX10_goesOn_5 (by decide) (fun c3 => ?_) (fun c3 => ?_)
  · exfalso; omega
  have hv9 : I a0 9 = x1_ := e1.symm
  have hv9t : (I a0 9).toInt = x1_.toInt := congrArg Int32.toInt hv9
  have hv12 : I a0 12 = F0 := eF0.symm
  have hv12t : (I a0 12).toInt = F0.toInt := congrArg Int32.toInt hv12
  have hv13 : I a0 13 = W0 := eW0.symm
  have hv13t : (I a0 13).toInt = W0.toInt := congrArg Int32.toInt hv13
  exact r_vret hC hQ hlk hr (by decide) (by decide) dX10_goesOn_8 ⟨_, _, rfl, rfl, ⟨hs, hF, hFJ, (by omega), (by omega), (by omega)⟩⟩
set_option maxHeartbeats 4000000 in
set_option maxRecDepth 100000 in
theorem e_X10_wrong (g : GG) (l : Launch) (K len : Nat → Nat) (I : Nat → Nat → Int32) (J : Nat → Nat → Int64) (R : Nat → Nat → Option Nat) (hs : Sf K len I R) (a0 : Nat) (ka0 : K a0 = 11) (x1 : Int32) (p0 : (I a0 9).toInt = 5) : Ct g l yX10_wrong cX10_wrong 2 (Option.none : Option Jvm.ClassFile.FieldType) rmX10_wrong [.ref a0, .int x1] (K, len, I, J, R) (pV1 (K, len, I, J, R) (fun I' => Sf K len I' R ∧ Fr K [(11, 9), (11, 12), (11, 13)] I I' ∧ ((I' a0 9).toInt = 5) ∧ ((I' a0 12).toInt = (I a0 12).toInt) ∧ ((I' a0 13).toInt = (I a0 13).toInt))) := by
  refine Ct_intro (by decide +kernel) (Nat.le_of_ble_eq_true rfl) (fun X hC hL hKK hNm hr hlk hQ => ?_)
  subst hL
  have hC : Cx g X cX10_wrong "HillTapModel" 2 rmX10_wrong := hC
  show P g X 2 0 [(0, .ref a0), (1, .int x1)] [] 0 0 (K, len, I, J, R)
  have hF : Fr K [(11, 9), (11, 12), (11, 13)] I I := Fr.refl
  have b_x1 := ti_rng x1
  obtain ⟨T0, eT0⟩ : ∃ z : Int32, z = I a0 9 := ⟨_, rfl⟩
  have fT0 : T0.toInt = (I a0 9).toInt := by rw [eT0]
  obtain ⟨F0, eF0⟩ : ∃ z : Int32, z = I a0 12 := ⟨_, rfl⟩
  have fF0 : F0.toInt = (I a0 12).toInt := by rw [eF0]
  obtain ⟨W0, eW0⟩ : ∃ z : Int32, z = I a0 13 := ⟨_, rfl⟩
  have fW0 : W0.toInt = (I a0 13).toInt := by rw [eW0]
  refine r_aload_n hC dX10_wrong_0 0 rfl ?_
  refine r_geti hC 9 (ci := 10) rfl u10_in (by decide) mT_5_4 dX10_wrong_1 ka0 rfl rfl (fun x1_ e1 => ?_)
  have f1 : x1_.toInt = (I a0 9).toInt := by rw [e1]
  have w1 : x1_ = T0 := by rw [e1]; exact eT0.symm
  have wt1 : x1_.toInt = T0.toInt := by rw [w1]
  refine r_iconst hC (v := (5)) dX10_wrong_4 (by decide) (by decide) (fun x2_ e2 t2 => ?_)
  refine r_icmp_ne hC (tgt := 9) dX10_wrong_5 (by decide) (fun c3 => ?_) (fun c3 => ?_)
  · exfalso; omega
  have hv9 : I a0 9 = x1_ := e1.symm
  have hv9t : (I a0 9).toInt = x1_.toInt := congrArg Int32.toInt hv9
  have hv12 : I a0 12 = F0 := eF0.symm
  have hv12t : (I a0 12).toInt = F0.toInt := congrArg Int32.toInt hv12
  have hv13 : I a0 13 = W0 := eW0.symm
  have hv13t : (I a0 13).toInt = W0.toInt := congrArg Int32.toInt hv13
  exact r_vret hC hQ hlk hr (by decide) (by decide) dX10_wrong_8 ⟨_, rfl, rfl, ⟨hs, hF, (by omega), (by omega), (by omega)⟩⟩
set_option maxHeartbeats 4000000 in
set_option maxRecDepth 100000 in
theorem e_X10_isWord (g : GG) (l : Launch) (K len : Nat → Nat) (I : Nat → Nat → Int32) (J : Nat → Nat → Int64) (R : Nat → Nat → Option Nat) (hs : Sf K len I R) (a0 : Nat) (ka0 : K a0 = 11) (i1 : Nat) (pi1 : i1 < 60) (p0 : (I a0 9).toInt = 5) : Ct g l yX10_isWord cX10_isWord 2 (Option.some Jvm.ClassFile.FieldType.boolean) rmX10_isWord [.ref a0, .ref (g.2.2.1 i1)] (K, len, I, J, R) (pI0 (K, len, I, J, R) (fun r => (r.toInt = 0))) := by
  refine Ct_intro (by decide +kernel) (Nat.le_of_ble_eq_true rfl) (fun X hC hL hKK hNm hr hlk hQ => ?_)
  subst hL
  have hC : Cx g X cX10_isWord "HillTapModel" 2 rmX10_isWord := hC
  show P g X 2 0 [(0, .ref a0), (1, .ref (g.2.2.1 i1))] [] 0 0 (K, len, I, J, R)
  have hF : Fr K [] I I := Fr.refl
  refine r_aload_n hC dX10_isWord_0 0 rfl ?_
  refine r_geti hC 9 (ci := 10) rfl u10_in (by decide) mT_5_4 dX10_isWord_1 ka0 rfl rfl (fun x1_ e1 => ?_)
  have f1 : x1_.toInt = (I a0 9).toInt := by rw [e1]
  refine r_iconst hC (v := (2)) dX10_isWord_4 (by decide) (by decide) (fun x2_ e2 t2 => ?_)
  refine r_icmp_ne hC (tgt := 24) dX10_isWord_5 (by decide) (fun c3 => ?_) (fun c3 => ?_)
  rotate_left
  · exfalso; omega
  refine r_iconst hC (v := (0)) dX10_isWord_24 (by decide) (by decide) (fun x4_ e4 t4 => ?_)
  exact r_iret hC hQ hlk hr (by rw [e4]; rfl) (by decide) (by decide) dX10_isWord_25 ⟨_, rfl, rfl, (by omega)⟩
set_option maxHeartbeats 4000000 in
set_option maxRecDepth 100000 in
theorem e_X10_isName (g : GG) (l : Launch) (K len : Nat → Nat) (I : Nat → Nat → Int32) (J : Nat → Nat → Int64) (R : Nat → Nat → Option Nat) (hs : Sf K len I R) (a0 : Nat) (ka0 : K a0 = 11) (p0 : (I a0 9).toInt = 5) : Ct g l yX10_isName cX10_isName 1 (Option.some Jvm.ClassFile.FieldType.boolean) rmX10_isName [.ref a0] (K, len, I, J, R) (pI0 (K, len, I, J, R) (fun r => (r.toInt = 0))) := by
  refine Ct_intro (by decide +kernel) (Nat.le_of_ble_eq_true rfl) (fun X hC hL hKK hNm hr hlk hQ => ?_)
  subst hL
  have hC : Cx g X cX10_isName "HillTapModel" 1 rmX10_isName := hC
  show P g X 1 0 [(0, .ref a0)] [] 0 0 (K, len, I, J, R)
  have hF : Fr K [] I I := Fr.refl
  refine r_aload_n hC dX10_isName_0 0 rfl ?_
  refine r_geti hC 9 (ci := 10) rfl u10_in (by decide) mT_5_4 dX10_isName_1 ka0 rfl rfl (fun x1_ e1 => ?_)
  have f1 : x1_.toInt = (I a0 9).toInt := by rw [e1]
  refine r_iconst hC (v := (2)) dX10_isName_4 (by decide) (by decide) (fun x2_ e2 t2 => ?_)
  refine r_icmp_ne hC (tgt := 75) dX10_isName_5 (by decide) (fun c3 => ?_) (fun c3 => ?_)
  rotate_left
  · exfalso; omega
  refine r_iconst hC (v := (0)) dX10_isName_75 (by decide) (by decide) (fun x4_ e4 t4 => ?_)
  exact r_iret hC hQ hlk hr (by rw [e4]; rfl) (by decide) (by decide) dX10_isName_76 ⟨_, rfl, rfl, (by omega)⟩
set_option maxHeartbeats 4000000 in
set_option maxRecDepth 100000 in
theorem e_X10_readWhole (g : GG) (l : Launch) (K len : Nat → Nat) (I : Nat → Nat → Int32) (J : Nat → Nat → Int64) (R : Nat → Nat → Option Nat) (hs : Sf K len I R) (a0 : Nat) (ka0 : K a0 = 11) (x1 : Int32) (x2 : Int32) (p0 : (I a0 9).toInt = 5) : Ct g l yX10_readWhole cX10_readWhole 4 (Option.some Jvm.ClassFile.FieldType.int) rmX10_readWhole [.ref a0, .int x1, .int x2] (K, len, I, J, R) (pI2 (K, len, I, J, R) (fun r I' J' => Sf K len I' R ∧ Fr K [(11, 8), (11, 9), (11, 10), (11, 11), (11, 12), (11, 13)] I I' ∧ Fr K [(11, 14)] J J' ∧ ((I' a0 9).toInt = 5) ∧ ((I' a0 12).toInt = (I a0 12).toInt) ∧ ((I' a0 13).toInt = (I a0 13).toInt))) := by
  refine Ct_intro (by decide +kernel) (Nat.le_of_ble_eq_true rfl) (fun X hC hL hKK hNm hr hlk hQ => ?_)
  subst hL
  have hC : Cx g X cX10_readWhole "HillTapModel" 4 rmX10_readWhole := hC
  show P g X 4 0 [(0, .ref a0), (1, .int x1), (2, .int x2)] [] 0 0 (K, len, I, J, R)
  have hF : Fr K [(11, 8), (11, 9), (11, 10), (11, 11), (11, 12), (11, 13)] I I := Fr.refl
  have hFJ : Fr K [(11, 14)] J J := Fr.refl
  have b_x1 := ti_rng x1
  have b_x2 := ti_rng x2
  obtain ⟨T0, eT0⟩ : ∃ z : Int32, z = I a0 9 := ⟨_, rfl⟩
  have fT0 : T0.toInt = (I a0 9).toInt := by rw [eT0]
  obtain ⟨F0, eF0⟩ : ∃ z : Int32, z = I a0 12 := ⟨_, rfl⟩
  have fF0 : F0.toInt = (I a0 12).toInt := by rw [eF0]
  obtain ⟨W0, eW0⟩ : ∃ z : Int32, z = I a0 13 := ⟨_, rfl⟩
  have fW0 : W0.toInt = (I a0 13).toInt := by rw [eW0]
  refine r_aload_n hC dX10_readWhole_0 0 rfl ?_
  refine r_geti hC 9 (ci := 10) rfl u10_in (by decide) mT_5_4 dX10_readWhole_1 ka0 rfl rfl (fun x1_ e1 => ?_)
  have f1 : x1_.toInt = (I a0 9).toInt := by rw [e1]
  have w1 : x1_ = T0 := by rw [e1]; exact eT0.symm
  have wt1 : x1_.toInt = T0.toInt := by rw [w1]
  refine r_iconst hC (v := (3)) dX10_readWhole_4 (by decide) (by decide) (fun x2_ e2 t2 => ?_)
  refine r_icmp_eq hC (tgt := 16) dX10_readWhole_5 (by decide) (fun c3 => ?_) (fun c3 => ?_)
  · exfalso; omega
  refine r_aload_n hC dX10_readWhole_8 0 rfl ?_
  refine r_iconst hC (v := (1)) dX10_readWhole_9 (by decide) (by decide) (fun x4_ e4 t4 => ?_)
  refine r_callV hC (As := [.int x4_]) (rest := []) (ci := 10) (e_X10_wrong g (xL X) K len I J R hs a0 ka0 x4_ (by omega)) mT_5_236 mT_1_10 mT_5_233 mT_5_235 mP_55 okX10_wrong ⟨by decide, by decide⟩ rfl (by show kO (K a0) = _; rw [ka0]; rfl) rfl rfl (Nat.le_of_ble_eq_true rfl) ⟨by decide, by decide⟩ dX10_readWhole_10 (aV1 (F := fun st M => P g X 4 13 [(0, .ref a0), (1, .int x1), (2, .int x2)] st _ _ M) (M := (K, len, I, J, R)) fun I5 h5 => ?_)
  obtain ⟨hs5, hf5, k5_0, k5_1, k5_2⟩ := h5
  show P g X 4 13 [(0, .ref a0), (1, .int x1), (2, .int x2)] [] _ _ (K, len, I5, J, R)
  have hF5 : Fr K [(11, 8), (11, 9), (11, 10), (11, 11), (11, 12), (11, 13)] I I5 := hF.trans hf5 rfl rfl
  refine r_goto hC (tgt := 33) dX10_readWhole_13 (by decide) ?_
  refine r_aload_n hC dX10_readWhole_33 0 rfl ?_
  refine r_geti hC 11 (ci := 10) rfl u10_in (by decide) mT_5_6 dX10_readWhole_34 ka0 rfl rfl (fun x6_ e6 => ?_)
  have f6 : x6_.toInt = (I5 a0 11).toInt := by rw [e6]
  refine r_istore_n hC (lv' := [(3, .int x6_), (0, .ref a0), (1, .int x1), (2, .int x2)]) dX10_readWhole_37 (by decide) rfl ?_
  refine r_aload_n hC dX10_readWhole_38 1 rfl ?_
  refine r_callV hC (As := []) (rest := []) (ci := 10) (e_X10_goesOn g (xL X) K len I5 J R hs5 a0 ka0 (by omega)) mT_5_199 mT_1_10 mT_5_196 mT_5_198 mP_49 okX10_goesOn ⟨by decide, by decide⟩ rfl (by show kO (K a0) = _; rw [ka0]; rfl) rfl rfl (Nat.le_of_ble_eq_true rfl) ⟨by decide, by decide⟩ dX10_readWhole_39 (aV2 (F := fun st M => P g X 4 42 [(3, .int x6_), (0, .ref a0), (1, .int x1), (2, .int x2)] st _ _ M) (M := (K, len, I5, J, R)) fun I7 J7 h7 => ?_)
  obtain ⟨hs7, hf7, hfj7, k7_0, k7_1, k7_2⟩ := h7
  show P g X 4 42 [(3, .int x6_), (0, .ref a0), (1, .int x1), (2, .int x2)] [] _ _ (K, len, I7, J7, R)
  have hF7 : Fr K [(11, 8), (11, 9), (11, 10), (11, 11), (11, 12), (11, 13)] I I7 := hF5.trans hf7 rfl rfl
  have hFJ7 : Fr K [(11, 14)] J J7 := hFJ.trans hfj7 rfl rfl
  refine r_iload_n hC dX10_readWhole_42 0 rfl ?_
  exact r_iret hC hQ hlk hr rfl (by decide) (by decide) dX10_readWhole_43 ⟨_, _, _, rfl, rfl, ⟨hs7, hF7, hFJ7, (by omega), (by omega), (by omega)⟩⟩
set_option maxHeartbeats 4000000 in
set_option maxRecDepth 100000 in
theorem e_X10_readPart (g : GG) (l : Launch) (K len : Nat → Nat) (I : Nat → Nat → Int32) (J : Nat → Nat → Int64) (R : Nat → Nat → Option Nat) (hs : Sf K len I R) (a0 : Nat) (ka0 : K a0 = 11) (i1 : Nat) (pi1 : i1 < 60) (x2 : Int32) (x3 : Int32) (p0 : (I a0 9).toInt = 5) : Ct g l yX10_readPart cX10_readPart 4 (Option.some Jvm.ClassFile.FieldType.int) rmX10_readPart [.ref a0, .ref (g.2.2.1 i1), .int x2, .int x3] (K, len, I, J, R) (pI2 (K, len, I, J, R) (fun r I' J' => Sf K len I' R ∧ Fr K [(11, 8), (11, 9), (11, 10), (11, 11), (11, 12), (11, 13)] I I' ∧ Fr K [(11, 14)] J J' ∧ ((I' a0 9).toInt = 5) ∧ ((I' a0 12).toInt = (I a0 12).toInt) ∧ ((I' a0 13).toInt = (I a0 13).toInt))) := by
  refine Ct_intro (by decide +kernel) (Nat.le_of_ble_eq_true rfl) (fun X hC hL hKK hNm hr hlk hQ => ?_)
  subst hL
  have hC : Cx g X cX10_readPart "HillTapModel" 4 rmX10_readPart := hC
  show P g X 4 0 [(0, .ref a0), (1, .ref (g.2.2.1 i1)), (2, .int x2), (3, .int x3)] [] 0 0 (K, len, I, J, R)
  have hF : Fr K [(11, 8), (11, 9), (11, 10), (11, 11), (11, 12), (11, 13)] I I := Fr.refl
  have hFJ : Fr K [(11, 14)] J J := Fr.refl
  have b_x2 := ti_rng x2
  have b_x3 := ti_rng x3
  obtain ⟨T0, eT0⟩ : ∃ z : Int32, z = I a0 9 := ⟨_, rfl⟩
  have fT0 : T0.toInt = (I a0 9).toInt := by rw [eT0]
  obtain ⟨F0, eF0⟩ : ∃ z : Int32, z = I a0 12 := ⟨_, rfl⟩
  have fF0 : F0.toInt = (I a0 12).toInt := by rw [eF0]
  obtain ⟨W0, eW0⟩ : ∃ z : Int32, z = I a0 13 := ⟨_, rfl⟩
  have fW0 : W0.toInt = (I a0 13).toInt := by rw [eW0]
  refine r_aload_n hC dX10_readPart_0 0 rfl ?_
  refine r_aload_n hC dX10_readPart_1 1 rfl ?_
  refine r_callV hC (As := [.ref (g.2.2.1 i1)]) (rest := []) (ci := 10) (e_X10_isWord g (xL X) K len I J R hs a0 ka0 i1 pi1 (by omega)) mT_5_223 mT_1_10 mT_5_220 mT_5_222 mP_53 okX10_isWord ⟨by decide, by decide⟩ rfl (by show kO (K a0) = _; rw [ka0]; rfl) rfl rfl (Nat.le_of_ble_eq_true rfl) ⟨by decide, by decide⟩ dX10_readPart_2 (aI0 (F := fun st M => P g X 4 5 [(0, .ref a0), (1, .ref (g.2.2.1 i1)), (2, .int x2), (3, .int x3)] st _ _ M) (M := (K, len, I, J, R)) fun x1_ h1 => ?_)
  have k1_0 := h1
  show P g X 4 5 [(0, .ref a0), (1, .ref (g.2.2.1 i1)), (2, .int x2), (3, .int x3)] [.int x1_] _ _ (K, len, I, J, R)
  refine r_if_ne hC (tgt := 13) dX10_readPart_5 (by decide) (fun c2 => ?_) (fun c2 => ?_)
  · exfalso; omega
  refine r_aload_n hC dX10_readPart_8 0 rfl ?_
  refine r_iconst hC (v := (1)) dX10_readPart_9 (by decide) (by decide) (fun x3_ e3 t3 => ?_)
  refine r_callV hC (As := [.int x3_]) (rest := []) (ci := 10) (e_X10_wrong g (xL X) K len I J R hs a0 ka0 x3_ (by omega)) mT_5_236 mT_1_10 mT_5_233 mT_5_235 mP_55 okX10_wrong ⟨by decide, by decide⟩ rfl (by show kO (K a0) = _; rw [ka0]; rfl) rfl rfl (Nat.le_of_ble_eq_true rfl) ⟨by decide, by decide⟩ dX10_readPart_10 (aV1 (F := fun st M => P g X 4 13 [(0, .ref a0), (1, .ref (g.2.2.1 i1)), (2, .int x2), (3, .int x3)] st _ _ M) (M := (K, len, I, J, R)) fun I4 h4 => ?_)
  obtain ⟨hs4, hf4, k4_0, k4_1, k4_2⟩ := h4
  show P g X 4 13 [(0, .ref a0), (1, .ref (g.2.2.1 i1)), (2, .int x2), (3, .int x3)] [] _ _ (K, len, I4, J, R)
  have hF4 : Fr K [(11, 8), (11, 9), (11, 10), (11, 11), (11, 12), (11, 13)] I I4 := hF.trans hf4 rfl rfl
  refine r_aload_n hC dX10_readPart_13 0 rfl ?_
  refine r_callV hC (As := []) (rest := []) (ci := 10) (e_X10_goesOn g (xL X) K len I4 J R hs4 a0 ka0 (by omega)) mT_5_199 mT_1_10 mT_5_196 mT_5_198 mP_49 okX10_goesOn ⟨by decide, by decide⟩ rfl (by show kO (K a0) = _; rw [ka0]; rfl) rfl rfl (Nat.le_of_ble_eq_true rfl) ⟨by decide, by decide⟩ dX10_readPart_14 (aV2 (F := fun st M => P g X 4 17 [(0, .ref a0), (1, .ref (g.2.2.1 i1)), (2, .int x2), (3, .int x3)] st _ _ M) (M := (K, len, I4, J, R)) fun I5 J5 h5 => ?_)
  obtain ⟨hs5, hf5, hfj5, k5_0, k5_1, k5_2⟩ := h5
  show P g X 4 17 [(0, .ref a0), (1, .ref (g.2.2.1 i1)), (2, .int x2), (3, .int x3)] [] _ _ (K, len, I5, J5, R)
  have hF5 : Fr K [(11, 8), (11, 9), (11, 10), (11, 11), (11, 12), (11, 13)] I I5 := hF4.trans hf5 rfl rfl
  have hFJ5 : Fr K [(11, 14)] J J5 := hFJ.trans hfj5 rfl rfl
  refine r_aload_n hC dX10_readPart_17 0 rfl ?_
  refine r_iload_n hC dX10_readPart_18 2 rfl ?_
  refine r_iload_n hC dX10_readPart_19 3 rfl ?_
  refine r_callV hC (As := [.int x2, .int x3]) (rest := []) (ci := 10) (e_X10_readWhole g (xL X) K len I5 J5 R hs5 a0 ka0 x2 x3 (by omega)) mT_6_5 mT_1_10 mT_6_2 mT_6_4 mP_57 okX10_readWhole ⟨by decide, by decide⟩ rfl (by show kO (K a0) = _; rw [ka0]; rfl) rfl rfl (Nat.le_of_ble_eq_true rfl) ⟨by decide, by decide⟩ dX10_readPart_20 (aI2 (F := fun st M => P g X 4 23 [(0, .ref a0), (1, .ref (g.2.2.1 i1)), (2, .int x2), (3, .int x3)] st _ _ M) (M := (K, len, I5, J5, R)) fun x6_ I6 J6 h6 => ?_)
  obtain ⟨hs6, hf6, hfj6, k6_0, k6_1, k6_2⟩ := h6
  show P g X 4 23 [(0, .ref a0), (1, .ref (g.2.2.1 i1)), (2, .int x2), (3, .int x3)] [.int x6_] _ _ (K, len, I6, J6, R)
  have hF6 : Fr K [(11, 8), (11, 9), (11, 10), (11, 11), (11, 12), (11, 13)] I I6 := hF5.trans hf6 rfl rfl
  have hFJ6 : Fr K [(11, 14)] J J6 := hFJ5.trans hfj6 rfl rfl
  exact r_iret hC hQ hlk hr rfl (by decide) (by decide) dX10_readPart_23 ⟨_, _, _, rfl, rfl, ⟨hs6, hF6, hFJ6, (by omega), (by omega), (by omega)⟩⟩
set_option maxHeartbeats 4000000 in
set_option maxRecDepth 100000 in
theorem f_X10_byteAt (g : GG) (l : Launch) (K len : Nat → Nat) (I : Nat → Nat → Int32) (J : Nat → Nat → Int64) (R : Nat → Nat → Option Nat) (hs : Sf K len I R) (a0 : Nat) (ka0 : K a0 = 11) (x1 : Int32) (mt : Nat) (hmt : R a0 5 = some mt) (kmt : K mt = 49) (nmt : len mt = 900) (B : Nat → Int) (n : Nat) (hB : BT B n mt I) (hBr : ∀ j : Nat, j < n → -128 ≤ B j ∧ B j ≤ 127) (hn : n ≤ 900) (p0 : 0 ≤ x1.toInt) (p1 : (I a0 7).toInt = n) : Ct g l yX10_byteAt cX10_byteAt 2 (Option.some Jvm.ClassFile.FieldType.int) rmX10_byteAt [.ref a0, .int x1] (K, len, I, J, R) (pI0 (K, len, I, J, R) (fun r => (x1.toInt < n → (r.toInt = B x1.toInt.toNat ∧ 0 ≤ B x1.toInt.toNat ∧ B x1.toInt.toNat ≤ 127 ∨ r.toInt = B x1.toInt.toNat + 256 ∧ -128 ≤ B x1.toInt.toNat ∧ B x1.toInt.toNat < 0)) ∧ (n ≤ x1.toInt → r.toInt = -1))) := by
  refine Ct_intro (by decide +kernel) (Nat.le_of_ble_eq_true rfl) (fun X hC hL hKK hNm hr hlk hQ => ?_)
  subst hL
  have hC : Cx g X cX10_byteAt "HillTapModel" 2 rmX10_byteAt := hC
  show P g X 2 0 [(0, .ref a0), (1, .int x1)] [] 0 0 (K, len, I, J, R)
  have hF : Fr K [] I I := Fr.refl
  have b_x1 := ti_rng x1
  refine r_iload_n hC dX10_byteAt_0 1 rfl ?_
  refine r_aload_n hC dX10_byteAt_1 0 rfl ?_
  refine r_geti hC 7 (ci := 10) rfl u10_in (by decide) mT_5_2 dX10_byteAt_2 ka0 rfl rfl (fun x1_ e1 => ?_)
  have r1 := hs.rng ka0 rfl e1
  have f1 : x1_.toInt = (I a0 7).toInt := by rw [e1]
  refine r_icmp_ge hC (tgt := 21) dX10_byteAt_5 (by decide) (fun c2 => ?_) (fun c2 => ?_)
  · refine r_iconst hC (v := (-1)) dX10_byteAt_21 (by decide) (by decide) (fun x3_ e3 t3 => ?_)
    exact r_iret hC hQ hlk hr rfl (by decide) (by decide) dX10_byteAt_22 ⟨_, rfl, rfl, ⟨(by first | (intro h9; exfalso; omega) | (intro h9; have h8 := hBr x1.toInt.toNat (by omega); omega)), (by omega)⟩⟩
  · refine r_aload_n hC dX10_byteAt_8 0 rfl ?_
    refine r_getr hC 5 (ci := 10) rfl u10_in (by decide) mT_5_0 dX10_byteAt_9 ka0 rfl rfl hmt ?_
    refine r_iload_n hC dX10_byteAt_12 1 rfl ?_
    refine x_baload hC kmt nmt (by decide) rfl rfl dX10_byteAt_13 (by omega) (by omega) (fun x4_ e4 => ?_)
    have B4 := (hB.mv9 hF kmt (fun _ => rfl)).at e4 (by omega) (by omega)
    refine r_sipush hC (v := (255)) dX10_byteAt_14 (by decide) (by decide) (fun x5_ e5 t5 => ?_)
    refine r_iand hC dX10_byteAt_17 (fun x6_ e6 => ?_)
    have hand : x6_.toInt = x4_.toInt % 256 := by rw [e6, e5]; exact and255 _
    refine r_goto hC (tgt := 22) dX10_byteAt_18 (by decide) ?_
    exact r_iret hC hQ hlk hr rfl (by decide) (by decide) dX10_byteAt_22 ⟨_, rfl, rfl, ⟨(by first | (intro h9; exfalso; omega) | (intro h9; have h8 := hBr x1.toInt.toNat (by omega); omega)), (by omega)⟩⟩
set_option maxHeartbeats 4000000 in
set_option maxRecDepth 100000 in
theorem f_X10_isLetter (g : GG) (l : Launch) (K len : Nat → Nat) (I : Nat → Nat → Int32) (J : Nat → Nat → Int64) (R : Nat → Nat → Option Nat) (hs : Sf K len I R) (x0 : Int32) : Ct g l yX10_isLetter cX10_isLetter 1 (Option.some Jvm.ClassFile.FieldType.boolean) rmX10_isLetter [.int x0] (K, len, I, J, R) (pI0 (K, len, I, J, R) (fun r => (r.toInt = 1 ∧ (97 ≤ x0.toInt ∧ x0.toInt ≤ 122) ∨ r.toInt = 0 ∧ ¬ (97 ≤ x0.toInt ∧ x0.toInt ≤ 122)))) := by
  refine Ct_intro (by decide +kernel) (Nat.le_of_ble_eq_true rfl) (fun X hC hL hKK hNm hr hlk hQ => ?_)
  subst hL
  have hC : Cx g X cX10_isLetter "HillTapModel" 1 rmX10_isLetter := hC
  show P g X 1 0 [(0, .int x0)] [] 0 0 (K, len, I, J, R)
  have hF : Fr K [] I I := Fr.refl
  have b_x0 := ti_rng x0
  refine r_iload_n hC dX10_isLetter_0 0 rfl ?_
  refine r_bipush hC (v := (97)) dX10_isLetter_1 (by decide) (by decide) (fun x1_ e1 t1 => ?_)
  refine r_icmp_lt hC (tgt := 16) dX10_isLetter_3 (by decide) (fun c2 => ?_) (fun c2 => ?_)
  · refine r_iconst hC (v := (0)) dX10_isLetter_16 (by decide) (by decide) (fun x3_ e3 t3 => ?_)
    exact r_iret hC hQ hlk hr (by rw [e3]; rfl) (by decide) (by decide) dX10_isLetter_17 ⟨_, rfl, rfl, (by omega)⟩
  · refine r_iload_n hC dX10_isLetter_6 0 rfl ?_
    refine r_bipush hC (v := (122)) dX10_isLetter_7 (by decide) (by decide) (fun x4_ e4 t4 => ?_)
    refine r_icmp_gt hC (tgt := 16) dX10_isLetter_9 (by decide) (fun c5 => ?_) (fun c5 => ?_)
    · refine r_iconst hC (v := (0)) dX10_isLetter_16 (by decide) (by decide) (fun x6_ e6 t6 => ?_)
      exact r_iret hC hQ hlk hr (by rw [e6]; rfl) (by decide) (by decide) dX10_isLetter_17 ⟨_, rfl, rfl, (by omega)⟩
    · refine r_iconst hC (v := (1)) dX10_isLetter_12 (by decide) (by decide) (fun x7_ e7 t7 => ?_)
      refine r_goto hC (tgt := 17) dX10_isLetter_13 (by decide) ?_
      exact r_iret hC hQ hlk hr (by rw [e7]; rfl) (by decide) (by decide) dX10_isLetter_17 ⟨_, rfl, rfl, (by omega)⟩
set_option maxHeartbeats 4000000 in
set_option maxRecDepth 100000 in
theorem f_X10_isDigit (g : GG) (l : Launch) (K len : Nat → Nat) (I : Nat → Nat → Int32) (J : Nat → Nat → Int64) (R : Nat → Nat → Option Nat) (hs : Sf K len I R) (x0 : Int32) : Ct g l yX10_isDigit cX10_isDigit 1 (Option.some Jvm.ClassFile.FieldType.boolean) rmX10_isDigit [.int x0] (K, len, I, J, R) (pI0 (K, len, I, J, R) (fun r => (r.toInt = 1 ∧ (48 ≤ x0.toInt ∧ x0.toInt ≤ 57) ∨ r.toInt = 0 ∧ ¬ (48 ≤ x0.toInt ∧ x0.toInt ≤ 57)))) := by
  refine Ct_intro (by decide +kernel) (Nat.le_of_ble_eq_true rfl) (fun X hC hL hKK hNm hr hlk hQ => ?_)
  subst hL
  have hC : Cx g X cX10_isDigit "HillTapModel" 1 rmX10_isDigit := hC
  show P g X 1 0 [(0, .int x0)] [] 0 0 (K, len, I, J, R)
  have hF : Fr K [] I I := Fr.refl
  have b_x0 := ti_rng x0
  refine r_iload_n hC dX10_isDigit_0 0 rfl ?_
  refine r_bipush hC (v := (48)) dX10_isDigit_1 (by decide) (by decide) (fun x1_ e1 t1 => ?_)
  refine r_icmp_lt hC (tgt := 16) dX10_isDigit_3 (by decide) (fun c2 => ?_) (fun c2 => ?_)
  · refine r_iconst hC (v := (0)) dX10_isDigit_16 (by decide) (by decide) (fun x3_ e3 t3 => ?_)
    exact r_iret hC hQ hlk hr (by rw [e3]; rfl) (by decide) (by decide) dX10_isDigit_17 ⟨_, rfl, rfl, (by omega)⟩
  · refine r_iload_n hC dX10_isDigit_6 0 rfl ?_
    refine r_bipush hC (v := (57)) dX10_isDigit_7 (by decide) (by decide) (fun x4_ e4 t4 => ?_)
    refine r_icmp_gt hC (tgt := 16) dX10_isDigit_9 (by decide) (fun c5 => ?_) (fun c5 => ?_)
    · refine r_iconst hC (v := (0)) dX10_isDigit_16 (by decide) (by decide) (fun x6_ e6 t6 => ?_)
      exact r_iret hC hQ hlk hr (by rw [e6]; rfl) (by decide) (by decide) dX10_isDigit_17 ⟨_, rfl, rfl, (by omega)⟩
    · refine r_iconst hC (v := (1)) dX10_isDigit_12 (by decide) (by decide) (fun x7_ e7 t7 => ?_)
      refine r_goto hC (tgt := 17) dX10_isDigit_13 (by decide) ?_
      exact r_iret hC hQ hlk hr (by rw [e7]; rfl) (by decide) (by decide) dX10_isDigit_17 ⟨_, rfl, rfl, (by omega)⟩
set_option maxHeartbeats 4000000 in
set_option maxRecDepth 100000 in
theorem f_X10_in (g : GG) (l : Launch) (K len : Nat → Nat) (I : Nat → Nat → Int32) (J : Nat → Nat → Int64) (R : Nat → Nat → Option Nat) (hs : Sf K len I R) (x0 : Int32) (x1 : Int32) (x2 : Int32) : Ct g l yX10_in cX10_in 3 (Option.some Jvm.ClassFile.FieldType.boolean) rmX10_in [.int x0, .int x1, .int x2] (K, len, I, J, R) (pI0 (K, len, I, J, R) (fun r => (r.toInt = 1 ∧ (x1.toInt ≤ x0.toInt ∧ x0.toInt ≤ x2.toInt) ∨ r.toInt = 0 ∧ ¬ (x1.toInt ≤ x0.toInt ∧ x0.toInt ≤ x2.toInt)))) := by
  refine Ct_intro (by decide +kernel) (Nat.le_of_ble_eq_true rfl) (fun X hC hL hKK hNm hr hlk hQ => ?_)
  subst hL
  have hC : Cx g X cX10_in "HillTapModel" 3 rmX10_in := hC
  show P g X 3 0 [(0, .int x0), (1, .int x1), (2, .int x2)] [] 0 0 (K, len, I, J, R)
  have hF : Fr K [] I I := Fr.refl
  have b_x0 := ti_rng x0
  have b_x1 := ti_rng x1
  have b_x2 := ti_rng x2
  refine r_iload_n hC dX10_in_0 0 rfl ?_
  refine r_iload_n hC dX10_in_1 1 rfl ?_
  refine r_icmp_lt hC (tgt := 14) dX10_in_2 (by decide) (fun c1 => ?_) (fun c1 => ?_)
  · refine r_iconst hC (v := (0)) dX10_in_14 (by decide) (by decide) (fun x2_ e2 t2 => ?_)
    exact r_iret hC hQ hlk hr (by rw [e2]; rfl) (by decide) (by decide) dX10_in_15 ⟨_, rfl, rfl, (by omega)⟩
  · refine r_iload_n hC dX10_in_5 0 rfl ?_
    refine r_iload_n hC dX10_in_6 2 rfl ?_
    refine r_icmp_gt hC (tgt := 14) dX10_in_7 (by decide) (fun c3 => ?_) (fun c3 => ?_)
    · refine r_iconst hC (v := (0)) dX10_in_14 (by decide) (by decide) (fun x4_ e4 t4 => ?_)
      exact r_iret hC hQ hlk hr (by rw [e4]; rfl) (by decide) (by decide) dX10_in_15 ⟨_, rfl, rfl, (by omega)⟩
    · refine r_iconst hC (v := (1)) dX10_in_10 (by decide) (by decide) (fun x5_ e5 t5 => ?_)
      refine r_goto hC (tgt := 15) dX10_in_11 (by decide) ?_
      exact r_iret hC hQ hlk hr (by rw [e5]; rfl) (by decide) (by decide) dX10_in_15 ⟨_, rfl, rfl, (by omega)⟩
set_option maxHeartbeats 4000000 in
set_option maxRecDepth 100000 in
theorem f_X10_goesOn (g : GG) (l : Launch) (K len : Nat → Nat) (I : Nat → Nat → Int32) (J : Nat → Nat → Int64) (R : Nat → Nat → Option Nat) (hs : Sf K len I R) (a0 : Nat) (ka0 : K a0 = 11) (mt : Nat) (hmt : R a0 5 = some mt) (kmt : K mt = 49) (nmt : len mt = 900) (B : Nat → Int) (n : Nat) (hB : BT B n mt I) (hBr : ∀ j : Nat, j < n → -128 ≤ B j ∧ B j ≤ 127) (hn : n ≤ 900) (p : Nat) (hp : p ≤ n) (p0 : (I a0 9).toInt ≠ 5) (p1 : (I a0 8).toInt = p) (p2 : (I a0 7).toInt = n) : Ct g l yX10_goesOn cX10_goesOn 3 (Option.none : Option Jvm.ClassFile.FieldType) rmX10_goesOn [.ref a0] (K, len, I, J, R) (pV2 (K, len, I, J, R) (fun I' J' => Sf K len I' R ∧ Fr K [(11, 8), (11, 9), (11, 10), (11, 11)] I I' ∧ Fr K [(11, 14)] J J' ∧ (TkM B n a0 p I' J'))) := by
  refine Ct_intro (by decide +kernel) (Nat.le_of_ble_eq_true rfl) (fun X hC hL hKK hNm hr hlk hQ => ?_)
  subst hL
  have hC : Cx g X cX10_goesOn "HillTapModel" 3 rmX10_goesOn := hC
  show P g X 3 0 [(0, .ref a0)] [] 0 0 (K, len, I, J, R)
  have hF : Fr K [(11, 8), (11, 9), (11, 10), (11, 11)] I I := Fr.refl
  have hFJ : Fr K [(11, 14)] J J := Fr.refl
  obtain ⟨A0, eA0⟩ : ∃ z : Int32, z = I a0 8 := ⟨_, rfl⟩
  have fA0 : A0.toInt = (I a0 8).toInt := by rw [eA0]
  have rA0 := hs.rng ka0 rfl eA0
  obtain ⟨T0, eT0⟩ : ∃ z : Int32, z = I a0 9 := ⟨_, rfl⟩
  have fT0 : T0.toInt = (I a0 9).toInt := by rw [eT0]
  obtain ⟨N0, eN0⟩ : ∃ z : Int32, z = I a0 7 := ⟨_, rfl⟩
  have fN0 : N0.toInt = (I a0 7).toInt := by rw [eN0]
  have rN0 := hs.rng ka0 rfl eN0
  refine r_aload_n hC dX10_goesOn_0 0 rfl ?_
  refine r_geti hC 9 (ci := 10) rfl u10_in (by decide) mT_5_4 dX10_goesOn_1 ka0 rfl rfl (fun x1_ e1 => ?_)
  have f1 : x1_.toInt = (I a0 9).toInt := by rw [e1]
  have w1 : x1_ = T0 := by rw [e1]; exact eT0.symm
  have wt1 : x1_.toInt = T0.toInt := by rw [w1]
  refine r_iconst hC (v := (5)) dX10_goesOn_4 (by decide) (by decide) (fun x2_ e2 t2 => ?_)
  refine r_icmp_ne hC (tgt := 9) dX10_goesOn_5 (by decide) (fun c3 => ?_) (fun c3 => ?_)
  rotate_left
  · exfalso; omega
  have LP4 : ∀ (mu : Nat)  (I4 : Nat → Nat → Int32) (hs4 : Sf K len I4 R) (hF4 : Fr K [(11, 8), (11, 9), (11, 10), (11, 11)] I I4) (v4_0 : p ≤ (I4 a0 8).toInt) (v4_1 : (I4 a0 8).toInt ≤ n) (v4_2 : ∀ j : Nat, p ≤ j → (j : Int) < (I4 a0 8).toInt → fS B j = true), (n - (I4 a0 8).toInt).toNat = mu → P g X 3 9 [(0, .ref a0)] [] 0 0 (K, len, I4, J, R) := by
    intro mu; induction mu using Nat.strongRecOn with | ind mu ih => ?_
    intro  I4 hs4 hF4 v4_0 v4_1 v4_2 hmu
    have ih4 := ih
    clear ih
    have hmu4 := hmu
    clear hmu
    refine r_aload_n hC dX10_goesOn_9 0 rfl ?_
    refine r_aload_n hC dX10_goesOn_10 0 rfl ?_
    refine r_geti hC 8 (ci := 10) rfl u10_in (by decide) mT_5_3 dX10_goesOn_11 ka0 rfl rfl (fun x5_ e5 => ?_)
    have r5 := hs4.rng ka0 rfl e5
    have f5 : x5_.toInt = (I4 a0 8).toInt := by rw [e5]
    have h7 : I4 a0 7 = N0 := (Eq.trans (hF4.get ka0 rfl) eN0.symm)
    have h7t : (I4 a0 7).toInt = N0.toInt := congrArg Int32.toInt h7
    refine r_callV hC (As := [.int x5_]) (rest := []) (ci := 10) (f_X10_byteAt g (xL X) K len I4 J R hs4 a0 ka0 x5_ mt hmt kmt nmt B n (hB.mv9 hF4 kmt (fun _ => rfl)) hBr hn (by omega) (by omega)) mT_5_203 mT_1_10 mT_5_200 mT_5_202 mP_50 okX10_byteAt ⟨by decide, by decide⟩ rfl (by show kO (K a0) = _; rw [ka0]; rfl) rfl rfl (Nat.le_of_ble_eq_true rfl) ⟨by decide, by decide⟩ dX10_goesOn_14 (aI0 (F := fun st M => P g X 3 17 [(0, .ref a0)] st _ _ M) (M := (K, len, I4, J, R)) fun x6_ h6 => ?_)
    obtain ⟨k6_0, k6_1⟩ := h6
    show P g X 3 17 [(0, .ref a0)] [.int x6_] _ _ (K, len, I4, J, R)
    have eb6 : B x5_.toInt.toNat = B (I4 a0 8).toInt.toNat := by rw [show x5_.toInt = (I4 a0 8).toInt by omega]
    refine r_bipush hC (v := (32)) dX10_goesOn_17 (by decide) (by decide) (fun x7_ e7 t7 => ?_)
    refine r_icmp_ne hC (tgt := 35) dX10_goesOn_19 (by decide) (fun c8 => ?_) (fun c8 => ?_)
    · have hpl : (pl B n p : Int) = (I4 a0 8).toInt := rn_at (by omega) (by omega) v4_2 (fun h9 => fS_f.mpr (by omega))
      refine r_aload_n hC dX10_goesOn_35 0 rfl ?_
      refine r_aload_n hC dX10_goesOn_36 0 rfl ?_
      refine r_geti hC 8 (ci := 10) rfl u10_in (by decide) mT_5_3 dX10_goesOn_37 ka0 rfl rfl (fun x9_ e9 => ?_)
      have r9 := hs4.rng ka0 rfl e9
      have f9 : x9_.toInt = (I4 a0 8).toInt := by rw [e9]
      have w9 : x9_ = x5_ := by rw [e9]; exact e5.symm
      have wt9 : x9_.toInt = x5_.toInt := by rw [w9]
      refine r_puti hC 10 (ci := 10) rfl u10_in tyX10_ok nmX10 (by decide) mT_5_5 rfl rfl rfl dX10_goesOn_40 ka0 rfl rfl (fun I10 eI10 => ?_)
      have hs10 := hs4.put0 eI10 ka0 rfl rfl rfl (by decide)
      have hF10 := hF4.put eI10 ka0 rfl
      refine r_aload_n hC dX10_goesOn_43 0 rfl ?_
      refine r_iconst hC (v := (0)) dX10_goesOn_44 (by decide) (by decide) (fun x11_ e11 t11 => ?_)
      refine r_puti hC 9 (ci := 10) rfl u10_in tyX10_ok nmX10 (by decide) mT_5_4 rfl rfl rfl dX10_goesOn_45 ka0 rfl rfl (fun I12 eI12 => ?_)
      have hs12 := hs10.put0 eI12 ka0 rfl rfl rfl (by decide)
      have hF12 := hF10.put eI12 ka0 rfl
      refine r_aload_n hC dX10_goesOn_48 0 rfl ?_
      refine r_aload_n hC dX10_goesOn_49 0 rfl ?_
      refine r_geti hC 8 (ci := 10) rfl u10_in (by decide) mT_5_3 dX10_goesOn_50 ka0 rfl rfl (fun x13_ e13 => ?_)
      have r13 := hs12.rng ka0 rfl e13
      have f13 : x13_.toInt = (I12 a0 8).toInt := by rw [e13]
      have w13 : x13_ = x9_ := by rw [e13]; exact (Eq.trans (up2_at (Or.inr (by decide)) eI12) (Eq.trans (up2_at (Or.inr (by decide)) eI10) e9.symm))
      have wt13 : x13_.toInt = x9_.toInt := by rw [w13]
      have h7 : I12 a0 7 = N0 := (Eq.trans (up2_at (Or.inr (by decide)) eI12) (Eq.trans (up2_at (Or.inr (by decide)) eI10) (Eq.trans (hF4.get ka0 rfl) eN0.symm)))
      have h7t : (I12 a0 7).toInt = N0.toInt := congrArg Int32.toInt h7
      refine r_callV hC (As := [.int x13_]) (rest := []) (ci := 10) (f_X10_byteAt g (xL X) K len I12 J R hs12 a0 ka0 x13_ mt hmt kmt nmt B n (hB.mv9 hF12 kmt (fun _ => rfl)) hBr hn (by omega) (by omega)) mT_5_203 mT_1_10 mT_5_200 mT_5_202 mP_50 okX10_byteAt ⟨by decide, by decide⟩ rfl (by show kO (K a0) = _; rw [ka0]; rfl) rfl rfl (Nat.le_of_ble_eq_true rfl) ⟨by decide, by decide⟩ dX10_goesOn_53 (aI0 (F := fun st M => P g X 3 56 [(0, .ref a0)] st _ _ M) (M := (K, len, I12, J, R)) fun x14_ h14 => ?_)
      obtain ⟨k14_0, k14_1⟩ := h14
      show P g X 3 56 [(0, .ref a0)] [.int x14_] _ _ (K, len, I12, J, R)
      have eb14 : B x13_.toInt.toNat = B (I12 a0 8).toInt.toNat := by rw [show x13_.toInt = (I12 a0 8).toInt by omega]
      refine r_istore_n hC (lv' := [(1, .int x14_), (0, .ref a0)]) dX10_goesOn_56 (by decide) rfl ?_
      refine r_iconst hC (v := (0)) dX10_goesOn_57 (by decide) (by decide) (fun x15_ e15 t15 => ?_)
      refine r_istore_n hC (lv' := [(2, .int x15_), (1, .int x14_), (0, .ref a0)]) dX10_goesOn_58 (by decide) rfl ?_
      have hbp : B (I12 a0 8).toInt.toNat = B (pl B n p) := by rw [show (I12 a0 8).toInt.toNat = pl B n p by omega]
      refine r_iload_n hC dX10_goesOn_59 1 rfl ?_
      refine r_iconst hC (v := (-1)) dX10_goesOn_60 (by decide) (by decide) (fun x16_ e16 t16 => ?_)
      refine r_icmp_ne hC (tgt := 72) dX10_goesOn_61 (by decide) (fun c17 => ?_) (fun c17 => ?_)
      · refine r_iload_n hC dX10_goesOn_72 1 rfl ?_
        refine r_callS hC (As := [.int x14_]) (rest := []) (f_X10_isLetter g (xL X) K len I12 J R hs12 x14_) mT_5_206 mT_1_10 mT_5_204 mT_5_205 okX10_isLetter ⟨by decide, by decide⟩ rfl rfl (Nat.le_of_ble_eq_true rfl) ⟨by decide, by decide⟩ dX10_goesOn_73 (aI0 (F := fun st M => P g X 3 76 [(2, .int x15_), (1, .int x14_), (0, .ref a0)] st _ _ M) (M := (K, len, I12, J, R)) fun x18_ h18 => ?_)
        have k18_0 := h18
        show P g X 3 76 [(2, .int x15_), (1, .int x14_), (0, .ref a0)] [.int x18_] _ _ (K, len, I12, J, R)
        rcases k18_0 with ⟨hr18, hw18⟩ | ⟨hr18, hw18⟩
        · refine r_if_eq hC (tgt := 161) dX10_goesOn_76 (by decide) (fun c19 => ?_) (fun c19 => ?_)
          · exfalso; omega
          refine r_aload_n hC dX10_goesOn_79 2 rfl ?_
          refine r_lconst hC (v := 0) dX10_goesOn_80 (by decide) (fun y20_ e20 => ?_)
          have tj20 : y20_.toInt = 0 := by rw [e20]; rfl
          refine r_putj hC 14 (ci := 10) rfl u10_in tyX10_ok nmX10 (by decide) mT_5_9 rfl rfl rfl dX10_goesOn_81 ka0 rfl rfl (fun J21 eJ21 => ?_)
          have hFJ21 := hFJ.put eJ21 ka0 rfl
          have hj21 : (J21 a0 14).toInt = y20_.toInt := by rw [eJ21, up2_self]
          have LP22 : ∀ (mu : Nat) (x22_2 : Int32) (I22 : Nat → Nat → Int32) (J22 : Nat → Nat → Int64) (hs22 : Sf K len I22 R) (hF22 : Fr K [(11, 8), (11, 9), (11, 10), (11, 11)] I I22) (hFJ22 : Fr K [(11, 14)] J J22) (v22_0 : 0 ≤ x22_2.toInt) (v22_1 : x22_2.toInt = (I22 a0 8).toInt - pl B n p) (v22_2 : (I22 a0 8).toInt ≤ n) (v22_3 : ∀ j : Nat, pl B n p ≤ j → (j : Int) < (I22 a0 8).toInt → fL B j = true) (v22_4 : (I22 a0 8).toInt ≤ pl B n p + 8 → (J22 a0 14).toInt = wv B (pl B n p) ((I22 a0 8).toInt - pl B n p).toNat) (v22_5 : (I22 a0 9).toInt = 0) (v22_6 : (I22 a0 10).toInt = pl B n p), (n - (I22 a0 8).toInt).toNat = mu → P g X 3 84 [(0, .ref a0), (1, .int x14_), (2, .int x22_2)] [] 0 0 (K, len, I22, J22, R) := by
            intro mu; induction mu using Nat.strongRecOn with | ind mu ih => ?_
            intro x22_2 I22 J22 hs22 hF22 hFJ22 v22_0 v22_1 v22_2 v22_3 v22_4 v22_5 v22_6 hmu
            have ih22 := ih
            clear ih
            have hmu22 := hmu
            clear hmu
            obtain ⟨Th22, eTh22⟩ : ∃ z : Int32, z = I22 a0 9 := ⟨_, rfl⟩
            have fTh22 : Th22.toInt = (I22 a0 9).toInt := by rw [eTh22]
            obtain ⟨Ph22, ePh22⟩ : ∃ z : Int32, z = I22 a0 10 := ⟨_, rfl⟩
            have fPh22 : Ph22.toInt = (I22 a0 10).toInt := by rw [ePh22]
            refine r_aload_n hC dX10_goesOn_84 0 rfl ?_
            refine r_aload_n hC dX10_goesOn_85 0 rfl ?_
            refine r_geti hC 8 (ci := 10) rfl u10_in (by decide) mT_5_3 dX10_goesOn_86 ka0 rfl rfl (fun x23_ e23 => ?_)
            have r23 := hs22.rng ka0 rfl e23
            have f23 : x23_.toInt = (I22 a0 8).toInt := by rw [e23]
            have h7 : I22 a0 7 = N0 := (Eq.trans (hF22.get ka0 rfl) eN0.symm)
            have h7t : (I22 a0 7).toInt = N0.toInt := congrArg Int32.toInt h7
            refine r_callV hC (As := [.int x23_]) (rest := []) (ci := 10) (f_X10_byteAt g (xL X) K len I22 J22 R hs22 a0 ka0 x23_ mt hmt kmt nmt B n (hB.mv9 hF22 kmt (fun _ => rfl)) hBr hn (by omega) (by omega)) mT_5_203 mT_1_10 mT_5_200 mT_5_202 mP_50 okX10_byteAt ⟨by decide, by decide⟩ rfl (by show kO (K a0) = _; rw [ka0]; rfl) rfl rfl (Nat.le_of_ble_eq_true rfl) ⟨by decide, by decide⟩ dX10_goesOn_89 (aI0 (F := fun st M => P g X 3 92 [(0, .ref a0), (1, .int x14_), (2, .int x22_2)] st _ _ M) (M := (K, len, I22, J22, R)) fun x24_ h24 => ?_)
            obtain ⟨k24_0, k24_1⟩ := h24
            show P g X 3 92 [(0, .ref a0), (1, .int x14_), (2, .int x22_2)] [.int x24_] _ _ (K, len, I22, J22, R)
            have eb24 : B x23_.toInt.toNat = B (I22 a0 8).toInt.toNat := by rw [show x23_.toInt = (I22 a0 8).toInt by omega]
            refine r_callS hC (As := [.int x24_]) (rest := []) (f_X10_isLetter g (xL X) K len I22 J22 R hs22 x24_) mT_5_206 mT_1_10 mT_5_204 mT_5_205 okX10_isLetter ⟨by decide, by decide⟩ rfl rfl (Nat.le_of_ble_eq_true rfl) ⟨by decide, by decide⟩ dX10_goesOn_92 (aI0 (F := fun st M => P g X 3 95 [(0, .ref a0), (1, .int x14_), (2, .int x22_2)] st _ _ M) (M := (K, len, I22, J22, R)) fun x25_ h25 => ?_)
            have k25_0 := h25
            show P g X 3 95 [(0, .ref a0), (1, .int x14_), (2, .int x22_2)] [.int x25_] _ _ (K, len, I22, J22, R)
            rcases k25_0 with ⟨hr25, hw25⟩ | ⟨hr25, hw25⟩
            · refine r_if_eq hC (tgt := 147) dX10_goesOn_95 (by decide) (fun c26 => ?_) (fun c26 => ?_)
              · exfalso; omega
              refine r_iload_n hC dX10_goesOn_98 2 rfl ?_
              refine r_bipush hC (v := (8)) dX10_goesOn_99 (by decide) (by decide) (fun x27_ e27 t27 => ?_)
              refine r_icmp_ge hC (tgt := 131) dX10_goesOn_101 (by decide) (fun c28 => ?_) (fun c28 => ?_)
              · obtain ⟨x29_, e29⟩ : ∃ z : Int32, z = x22_2 + Int32.ofInt (1) := ⟨_, rfl⟩
                refine r_iinc hC (j := 2) (v := x29_) (lv' := [(2, .int x29_), (0, .ref a0), (1, .int x14_)]) dX10_goesOn_131 rfl (by rw [e29]) (by decide) rfl ?_
                try have t29 : x29_.toInt = x22_2.toInt + (1) := by rw [e29]; exact (ti_add (b := Int32.ofInt (1)) (by show _ ≤ _ + (1 : Int); omega) (by show _ + (1 : Int) ≤ _; omega))
                refine r_aload_n hC dX10_goesOn_134 1 rfl ?_
                refine r_dup hC dX10_goesOn_135 rfl ?_
                refine r_geti hC 8 (ci := 10) rfl u10_in (by decide) mT_5_3 dX10_goesOn_136 ka0 rfl rfl (fun x30_ e30 => ?_)
                have r30 := hs22.rng ka0 rfl e30
                have f30 : x30_.toInt = (I22 a0 8).toInt := by rw [e30]
                have w30 : x30_ = x23_ := by rw [e30]; exact e23.symm
                have wt30 : x30_.toInt = x23_.toInt := by rw [w30]
                refine r_iconst hC (v := (1)) dX10_goesOn_139 (by decide) (by decide) (fun x31_ e31 t31 => ?_)
                refine r_iadd hC dX10_goesOn_140 (fun x32_ e32 => ?_)
                try have t32 : x32_.toInt = x30_.toInt + x31_.toInt := by rw [e32]; exact ti_add (by omega) (by omega)
                refine r_puti hC 8 (ci := 10) rfl u10_in tyX10_ok nmX10 (by decide) mT_5_3 rfl rfl rfl dX10_goesOn_141 ka0 rfl rfl (fun I33 eI33 => ?_)
                have hs33 := hs22.put1 eI33 ka0 rfl (by omega) (by omega) rfl rfl (by decide)
                have hF33 := hF22.put eI33 ka0 rfl
                refine r_goto hC (tgt := 84) dX10_goesOn_144 (by decide) ?_
                have hv8 : I33 a0 8 = x32_ := (by rw [eI33]; exact up2_self _ _ _ _)
                have hv8t : (I33 a0 8).toInt = x32_.toInt := congrArg Int32.toInt hv8
                have hv9 : I33 a0 9 = Th22 := (Eq.trans (up2_at (Or.inr (by decide)) eI33) eTh22.symm)
                have hv9t : (I33 a0 9).toInt = Th22.toInt := congrArg Int32.toInt hv9
                have hv10 : I33 a0 10 = Ph22 := (Eq.trans (up2_at (Or.inr (by decide)) eI33) ePh22.symm)
                have hv10t : (I33 a0 10).toInt = Ph22.toInt := congrArg Int32.toInt hv10
                refine r_sub [1, 2, 0] rfl ?_
                exact ih22 ((n - (I33 a0 8).toInt).toNat) (by omega) x29_ I33 J22 hs33 hF33 hFJ22 (by omega) (by omega) (by omega) (by first | exact all_0 (P := fun j => fL B j = true) (by omega) | exact all_s (P := fun j => fL B j = true) v22_3 (by omega) (by omega) (fL_t.mpr (by omega))) (by first | (intro h9; rw [show ((I33 a0 8).toInt - (pl B n p : Int)).toNat = 0 by omega]; simp only [wv]; omega) | (intro h9; exfalso; omega) | (intro h9; exact hj22.trans (sj.trans (congrArg (wv B (pl B n p)) (by omega))))) (by omega) (by omega) rfl
              · refine r_aload_n hC dX10_goesOn_104 0 rfl ?_
                refine r_ldc2 hC mT_5_207 dX10_goesOn_105 (fun y34_ e34 => ?_)
                refine r_aload_n hC dX10_goesOn_108 0 rfl ?_
                refine r_getj hC 14 (ci := 10) rfl u10_in (by decide) mT_5_9 dX10_goesOn_109 ka0 rfl rfl (fun y35_ e35 => ?_)
                have fj35 : y35_.toInt = (J22 a0 14).toInt := by rw [e35]
                refine r_lmul hC dX10_goesOn_112 (fun y36_ e36 => ?_)
                refine r_aload_n hC dX10_goesOn_113 0 rfl ?_
                refine r_aload_n hC dX10_goesOn_114 0 rfl ?_
                refine r_geti hC 8 (ci := 10) rfl u10_in (by decide) mT_5_3 dX10_goesOn_115 ka0 rfl rfl (fun x37_ e37 => ?_)
                have r37 := hs22.rng ka0 rfl e37
                have f37 : x37_.toInt = (I22 a0 8).toInt := by rw [e37]
                have w37 : x37_ = x23_ := by rw [e37]; exact e23.symm
                have wt37 : x37_.toInt = x23_.toInt := by rw [w37]
                have h7 : I22 a0 7 = N0 := (Eq.trans (hF22.get ka0 rfl) eN0.symm)
                have h7t : (I22 a0 7).toInt = N0.toInt := congrArg Int32.toInt h7
                refine r_callV hC (As := [.int x37_]) (rest := [.long y36_, .ref a0]) (ci := 10) (f_X10_byteAt g (xL X) K len I22 J22 R hs22 a0 ka0 x37_ mt hmt kmt nmt B n (hB.mv9 hF22 kmt (fun _ => rfl)) hBr hn (by omega) (by omega)) mT_5_203 mT_1_10 mT_5_200 mT_5_202 mP_50 okX10_byteAt ⟨by decide, by decide⟩ rfl (by show kO (K a0) = _; rw [ka0]; rfl) rfl rfl (Nat.le_of_ble_eq_true rfl) ⟨by decide, by decide⟩ dX10_goesOn_118 (aI0 (F := fun st M => P g X 3 121 [(0, .ref a0), (1, .int x14_), (2, .int x22_2)] st _ _ M) (M := (K, len, I22, J22, R)) fun x38_ h38 => ?_)
                obtain ⟨k38_0, k38_1⟩ := h38
                show P g X 3 121 [(0, .ref a0), (1, .int x14_), (2, .int x22_2)] [.int x38_, .long y36_, .ref a0] _ _ (K, len, I22, J22, R)
                have eb38 : B x37_.toInt.toNat = B (I22 a0 8).toInt.toNat := by rw [show x37_.toInt = (I22 a0 8).toInt by omega]
                refine r_bipush hC (v := (97)) dX10_goesOn_121 (by decide) (by decide) (fun x39_ e39 t39 => ?_)
                refine r_isub hC dX10_goesOn_123 (fun x40_ e40 => ?_)
                try have t40 : x40_.toInt = x38_.toInt - x39_.toInt := by rw [e40]; exact ti_sub (by omega) (by omega)
                refine r_iconst hC (v := (1)) dX10_goesOn_124 (by decide) (by decide) (fun x41_ e41 t41 => ?_)
                refine r_iadd hC dX10_goesOn_125 (fun x42_ e42 => ?_)
                try have t42 : x42_.toInt = x40_.toInt + x41_.toInt := by rw [e42]; exact ti_add (by omega) (by omega)
                refine r_i2l hC dX10_goesOn_126 (fun y43_ e43 => ?_)
                refine r_ladd hC dX10_goesOn_127 (fun y44_ e44 => ?_)
                have sj := let_m (B := B) (q := pl B n p) (i := (I22 a0 8).toInt) (v := y35_) (by have h9 := v22_4 (by omega); omega) v22_3 (by omega) (by omega) e34 e36 e43 e44 (by omega) (fL_t.mpr (by omega))
                refine r_putj hC 14 (ci := 10) rfl u10_in tyX10_ok nmX10 (by decide) mT_5_9 rfl rfl rfl dX10_goesOn_128 ka0 rfl rfl (fun J45 eJ45 => ?_)
                have hFJ45 := hFJ22.put eJ45 ka0 rfl
                have hj45 : (J45 a0 14).toInt = y44_.toInt := by rw [eJ45, up2_self]
                obtain ⟨x46_, e46⟩ : ∃ z : Int32, z = x22_2 + Int32.ofInt (1) := ⟨_, rfl⟩
                refine r_iinc hC (j := 2) (v := x46_) (lv' := [(2, .int x46_), (0, .ref a0), (1, .int x14_)]) dX10_goesOn_131 rfl (by rw [e46]) (by decide) rfl ?_
                try have t46 : x46_.toInt = x22_2.toInt + (1) := by rw [e46]; exact (ti_add (b := Int32.ofInt (1)) (by show _ ≤ _ + (1 : Int); omega) (by show _ + (1 : Int) ≤ _; omega))
                refine r_aload_n hC dX10_goesOn_134 1 rfl ?_
                refine r_dup hC dX10_goesOn_135 rfl ?_
                refine r_geti hC 8 (ci := 10) rfl u10_in (by decide) mT_5_3 dX10_goesOn_136 ka0 rfl rfl (fun x47_ e47 => ?_)
                have r47 := hs22.rng ka0 rfl e47
                have f47 : x47_.toInt = (I22 a0 8).toInt := by rw [e47]
                have w47 : x47_ = x37_ := by rw [e47]; exact e37.symm
                have wt47 : x47_.toInt = x37_.toInt := by rw [w47]
                refine r_iconst hC (v := (1)) dX10_goesOn_139 (by decide) (by decide) (fun x48_ e48 t48 => ?_)
                refine r_iadd hC dX10_goesOn_140 (fun x49_ e49 => ?_)
                try have t49 : x49_.toInt = x47_.toInt + x48_.toInt := by rw [e49]; exact ti_add (by omega) (by omega)
                refine r_puti hC 8 (ci := 10) rfl u10_in tyX10_ok nmX10 (by decide) mT_5_3 rfl rfl rfl dX10_goesOn_141 ka0 rfl rfl (fun I50 eI50 => ?_)
                have hs50 := hs22.put1 eI50 ka0 rfl (by omega) (by omega) rfl rfl (by decide)
                have hF50 := hF22.put eI50 ka0 rfl
                refine r_goto hC (tgt := 84) dX10_goesOn_144 (by decide) ?_
                have hv8 : I50 a0 8 = x49_ := (by rw [eI50]; exact up2_self _ _ _ _)
                have hv8t : (I50 a0 8).toInt = x49_.toInt := congrArg Int32.toInt hv8
                have hv9 : I50 a0 9 = Th22 := (Eq.trans (up2_at (Or.inr (by decide)) eI50) eTh22.symm)
                have hv9t : (I50 a0 9).toInt = Th22.toInt := congrArg Int32.toInt hv9
                have hv10 : I50 a0 10 = Ph22 := (Eq.trans (up2_at (Or.inr (by decide)) eI50) ePh22.symm)
                have hv10t : (I50 a0 10).toInt = Ph22.toInt := congrArg Int32.toInt hv10
                refine r_sub [1, 2, 0] rfl ?_
                exact ih22 ((n - (I50 a0 8).toInt).toNat) (by omega) x46_ I50 J45 hs50 hF50 hFJ45 (by omega) (by omega) (by omega) (by first | exact all_0 (P := fun j => fL B j = true) (by omega) | exact all_s (P := fun j => fL B j = true) v22_3 (by omega) (by omega) (fL_t.mpr (by omega))) (by first | (intro h9; rw [show ((I50 a0 8).toInt - (pl B n p : Int)).toNat = 0 by omega]; simp only [wv]; omega) | (intro h9; exfalso; omega) | (intro h9; exact hj45.trans (sj.trans (congrArg (wv B (pl B n p)) (by omega))))) (by omega) (by omega) rfl
            · refine r_if_eq hC (tgt := 147) dX10_goesOn_95 (by decide) (fun c51 => ?_) (fun c51 => ?_)
              rotate_left
              · exfalso; omega
              have hrn : (rn (fL B) n (pl B n p) : Int) = (I22 a0 8).toInt := rn_at (by omega) (by omega) v22_3 (fun h9 => fL_f.mpr (by omega))
              refine r_iload_n hC dX10_goesOn_147 2 rfl ?_
              refine r_bipush hC (v := (8)) dX10_goesOn_148 (by decide) (by decide) (fun x52_ e52 t52 => ?_)
              refine r_icmp_gt hC (tgt := 265) dX10_goesOn_150 (by decide) (fun c53 => ?_) (fun c53 => ?_)
              · have h7 : I22 a0 7 = N0 := (Eq.trans (hF22.get ka0 rfl) eN0.symm)
                have h7t : (I22 a0 7).toInt = N0.toInt := congrArg Int32.toInt h7
                have h8 : I22 a0 8 = x23_ := e23.symm
                have h8t : (I22 a0 8).toInt = x23_.toInt := congrArg Int32.toInt h8
                have h9_ : I22 a0 9 = Th22 := eTh22.symm
                have h9_t : (I22 a0 9).toInt = Th22.toInt := congrArg Int32.toInt h9_
                have h10 : I22 a0 10 = Ph22 := ePh22.symm
                have h10t : (I22 a0 10).toInt = Ph22.toInt := congrArg Int32.toInt h10
                exact r_vret hC hQ hlk hr (by decide) (by decide) dX10_goesOn_265 ⟨_, _, rfl, rfl, ⟨hs22, hF22, hFJ22, (by first | exact TkM_end (by omega) (by omega) (by omega) (by omega) (by omega) | exact TkM_let (by split <;> omega) (by omega) (by omega) (by omega) (by omega) (fL_t.mpr (by omega)) (fun h9 => (v22_4 (by omega)).trans (congrArg (wv B (pl B n p)) (by omega))) | exact TkM_dig (by split <;> omega) (by omega) (by omega) (by omega) (by omega) (fD_t.mpr (by omega)) (fun h9 => (show _ = _ from (by omega : (I22 a0 11).toInt = (NOx_L173 a0 11).toInt)).trans ((NOx_v173_4 (by omega)).trans (congrArg (nv B (pl B n p)) (by omega)))) | exact TkM_sem (by omega) (by omega) (by omega) (by omega) (by omega) (by omega) | exact TkM_bad (by omega) (by omega) (by omega) (by omega) (by omega) (by omega) (by omega))⟩⟩
              · refine r_aload_n hC dX10_goesOn_153 0 rfl ?_
                refine r_iconst hC (v := (2)) dX10_goesOn_154 (by decide) (by decide) (fun x54_ e54 t54 => ?_)
                refine r_puti hC 9 (ci := 10) rfl u10_in tyX10_ok nmX10 (by decide) mT_5_4 rfl rfl rfl dX10_goesOn_155 ka0 rfl rfl (fun I55 eI55 => ?_)
                have hs55 := hs22.put0 eI55 ka0 rfl rfl rfl (by decide)
                have hF55 := hF22.put eI55 ka0 rfl
                refine r_goto hC (tgt := 265) dX10_goesOn_158 (by decide) ?_
                have h7 : I55 a0 7 = N0 := (Eq.trans (up2_at (Or.inr (by decide)) eI55) (Eq.trans (hF22.get ka0 rfl) eN0.symm))
                have h7t : (I55 a0 7).toInt = N0.toInt := congrArg Int32.toInt h7
                have h8 : I55 a0 8 = x23_ := (Eq.trans (up2_at (Or.inr (by decide)) eI55) e23.symm)
                have h8t : (I55 a0 8).toInt = x23_.toInt := congrArg Int32.toInt h8
                have h9_ : I55 a0 9 = x54_ := (by rw [eI55]; exact up2_self _ _ _ _)
                have h9_t : (I55 a0 9).toInt = x54_.toInt := congrArg Int32.toInt h9_
                have h10 : I55 a0 10 = Ph22 := (Eq.trans (up2_at (Or.inr (by decide)) eI55) ePh22.symm)
                have h10t : (I55 a0 10).toInt = Ph22.toInt := congrArg Int32.toInt h10
                exact r_vret hC hQ hlk hr (by decide) (by decide) dX10_goesOn_265 ⟨_, _, rfl, rfl, ⟨hs55, hF55, hFJ22, (by first | exact TkM_end (by omega) (by omega) (by omega) (by omega) (by omega) | exact TkM_let (by split <;> omega) (by omega) (by omega) (by omega) (by omega) (fL_t.mpr (by omega)) (fun h9 => (v22_4 (by omega)).trans (congrArg (wv B (pl B n p)) (by omega))) | exact TkM_dig (by split <;> omega) (by omega) (by omega) (by omega) (by omega) (fD_t.mpr (by omega)) (fun h9 => (show _ = _ from (by omega : (I55 a0 11).toInt = (NOx_L173 a0 11).toInt)).trans ((NOx_v173_4 (by omega)).trans (congrArg (nv B (pl B n p)) (by omega)))) | exact TkM_sem (by omega) (by omega) (by omega) (by omega) (by omega) (by omega) | exact TkM_bad (by omega) (by omega) (by omega) (by omega) (by omega) (by omega) (by omega))⟩⟩
          have hv8 : I12 a0 8 = x13_ := e13.symm
          have hv8t : (I12 a0 8).toInt = x13_.toInt := congrArg Int32.toInt hv8
          have hv9 : I12 a0 9 = x11_ := (by rw [eI12]; exact up2_self _ _ _ _)
          have hv9t : (I12 a0 9).toInt = x11_.toInt := congrArg Int32.toInt hv9
          have hv10 : I12 a0 10 = x9_ := (Eq.trans (up2_at (Or.inr (by decide)) eI12) (by rw [eI10]; exact up2_self _ _ _ _))
          have hv10t : (I12 a0 10).toInt = x9_.toInt := congrArg Int32.toInt hv10
          refine r_sub [2, 1, 0] rfl ?_
          exact LP22 _ x15_ I12 J21 hs12 hF12 hFJ21 (by omega) (by omega) (by omega) (by first | exact all_0 (P := fun j => fL B j = true) (by omega) | exact all_s (P := fun j => fL B j = true) v22_3 (by omega) (by omega) (fL_t.mpr (by omega))) (by first | (intro h9; rw [show ((I12 a0 8).toInt - (pl B n p : Int)).toNat = 0 by omega]; simp only [wv]; omega) | (intro h9; exfalso; omega) | (intro h9; exact hj21.trans (sj.trans (congrArg (wv B (pl B n p)) (by omega))))) (by omega) (by omega) rfl
        · refine r_if_eq hC (tgt := 161) dX10_goesOn_76 (by decide) (fun c56 => ?_) (fun c56 => ?_)
          rotate_left
          · exfalso; omega
          refine r_iload_n hC dX10_goesOn_161 1 rfl ?_
          refine r_callS hC (As := [.int x14_]) (rest := []) (f_X10_isDigit g (xL X) K len I12 J R hs12 x14_) mT_5_210 mT_1_10 mT_5_208 mT_5_209 okX10_isDigit ⟨by decide, by decide⟩ rfl rfl (Nat.le_of_ble_eq_true rfl) ⟨by decide, by decide⟩ dX10_goesOn_162 (aI0 (F := fun st M => P g X 3 165 [(2, .int x15_), (1, .int x14_), (0, .ref a0)] st _ _ M) (M := (K, len, I12, J, R)) fun x57_ h57 => ?_)
          have k57_0 := h57
          show P g X 3 165 [(2, .int x15_), (1, .int x14_), (0, .ref a0)] [.int x57_] _ _ (K, len, I12, J, R)
          rcases k57_0 with ⟨hr57, hw57⟩ | ⟨hr57, hw57⟩
          · refine r_if_eq hC (tgt := 244) dX10_goesOn_165 (by decide) (fun c58 => ?_) (fun c58 => ?_)
            · exfalso; omega
            refine r_aload_n hC dX10_goesOn_168 2 rfl ?_
            refine r_iconst hC (v := (0)) dX10_goesOn_169 (by decide) (by decide) (fun x59_ e59 t59 => ?_)
            refine r_puti hC 11 (ci := 10) rfl u10_in tyX10_ok nmX10 (by decide) mT_5_6 rfl rfl rfl dX10_goesOn_170 ka0 rfl rfl (fun I60 eI60 => ?_)
            have hs60 := hs12.put0 eI60 ka0 rfl rfl rfl (by decide)
            have hF60 := hF12.put eI60 ka0 rfl
            have LP61 : ∀ (mu : Nat) (x61_2 : Int32) (I61 : Nat → Nat → Int32) (hs61 : Sf K len I61 R) (hF61 : Fr K [(11, 8), (11, 9), (11, 10), (11, 11)] I I61) (v61_0 : 0 ≤ x61_2.toInt) (v61_1 : x61_2.toInt = (I61 a0 8).toInt - pl B n p) (v61_2 : (I61 a0 8).toInt ≤ n) (v61_3 : ∀ j : Nat, pl B n p ≤ j → (j : Int) < (I61 a0 8).toInt → fD B j = true) (v61_4 : (I61 a0 8).toInt ≤ pl B n p + 3 → (I61 a0 11).toInt = nv B (pl B n p) ((I61 a0 8).toInt - pl B n p).toNat) (v61_5 : (I61 a0 9).toInt = 0) (v61_6 : (I61 a0 10).toInt = pl B n p), (n - (I61 a0 8).toInt).toNat = mu → P g X 3 173 [(0, .ref a0), (1, .int x14_), (2, .int x61_2)] [] 0 0 (K, len, I61, J, R) := by
              intro mu; induction mu using Nat.strongRecOn with | ind mu ih => ?_
              intro x61_2 I61 hs61 hF61 v61_0 v61_1 v61_2 v61_3 v61_4 v61_5 v61_6 hmu
              have ih61 := ih
              clear ih
              have hmu61 := hmu
              clear hmu
              obtain ⟨Th61, eTh61⟩ : ∃ z : Int32, z = I61 a0 9 := ⟨_, rfl⟩
              have fTh61 : Th61.toInt = (I61 a0 9).toInt := by rw [eTh61]
              obtain ⟨Ph61, ePh61⟩ : ∃ z : Int32, z = I61 a0 10 := ⟨_, rfl⟩
              have fPh61 : Ph61.toInt = (I61 a0 10).toInt := by rw [ePh61]
              obtain ⟨Nh61, eNh61⟩ : ∃ z : Int32, z = I61 a0 11 := ⟨_, rfl⟩
              have fNh61 : Nh61.toInt = (I61 a0 11).toInt := by rw [eNh61]
              refine r_aload_n hC dX10_goesOn_173 0 rfl ?_
              refine r_aload_n hC dX10_goesOn_174 0 rfl ?_
              refine r_geti hC 8 (ci := 10) rfl u10_in (by decide) mT_5_3 dX10_goesOn_175 ka0 rfl rfl (fun x62_ e62 => ?_)
              have r62 := hs61.rng ka0 rfl e62
              have f62 : x62_.toInt = (I61 a0 8).toInt := by rw [e62]
              have h7 : I61 a0 7 = N0 := (Eq.trans (hF61.get ka0 rfl) eN0.symm)
              have h7t : (I61 a0 7).toInt = N0.toInt := congrArg Int32.toInt h7
              refine r_callV hC (As := [.int x62_]) (rest := []) (ci := 10) (f_X10_byteAt g (xL X) K len I61 J R hs61 a0 ka0 x62_ mt hmt kmt nmt B n (hB.mv9 hF61 kmt (fun _ => rfl)) hBr hn (by omega) (by omega)) mT_5_203 mT_1_10 mT_5_200 mT_5_202 mP_50 okX10_byteAt ⟨by decide, by decide⟩ rfl (by show kO (K a0) = _; rw [ka0]; rfl) rfl rfl (Nat.le_of_ble_eq_true rfl) ⟨by decide, by decide⟩ dX10_goesOn_178 (aI0 (F := fun st M => P g X 3 181 [(0, .ref a0), (1, .int x14_), (2, .int x61_2)] st _ _ M) (M := (K, len, I61, J, R)) fun x63_ h63 => ?_)
              obtain ⟨k63_0, k63_1⟩ := h63
              show P g X 3 181 [(0, .ref a0), (1, .int x14_), (2, .int x61_2)] [.int x63_] _ _ (K, len, I61, J, R)
              have eb63 : B x62_.toInt.toNat = B (I61 a0 8).toInt.toNat := by rw [show x62_.toInt = (I61 a0 8).toInt by omega]
              refine r_callS hC (As := [.int x63_]) (rest := []) (f_X10_isDigit g (xL X) K len I61 J R hs61 x63_) mT_5_210 mT_1_10 mT_5_208 mT_5_209 okX10_isDigit ⟨by decide, by decide⟩ rfl rfl (Nat.le_of_ble_eq_true rfl) ⟨by decide, by decide⟩ dX10_goesOn_181 (aI0 (F := fun st M => P g X 3 184 [(0, .ref a0), (1, .int x14_), (2, .int x61_2)] st _ _ M) (M := (K, len, I61, J, R)) fun x64_ h64 => ?_)
              have k64_0 := h64
              show P g X 3 184 [(0, .ref a0), (1, .int x14_), (2, .int x61_2)] [.int x64_] _ _ (K, len, I61, J, R)
              rcases k64_0 with ⟨hr64, hw64⟩ | ⟨hr64, hw64⟩
              · refine r_if_eq hC (tgt := 231) dX10_goesOn_184 (by decide) (fun c65 => ?_) (fun c65 => ?_)
                · exfalso; omega
                refine r_iload_n hC dX10_goesOn_187 2 rfl ?_
                refine r_iconst hC (v := (3)) dX10_goesOn_188 (by decide) (by decide) (fun x66_ e66 t66 => ?_)
                refine r_icmp_ge hC (tgt := 215) dX10_goesOn_189 (by decide) (fun c67 => ?_) (fun c67 => ?_)
                · obtain ⟨x68_, e68⟩ : ∃ z : Int32, z = x61_2 + Int32.ofInt (1) := ⟨_, rfl⟩
                  refine r_iinc hC (j := 2) (v := x68_) (lv' := [(2, .int x68_), (0, .ref a0), (1, .int x14_)]) dX10_goesOn_215 rfl (by rw [e68]) (by decide) rfl ?_
                  try have t68 : x68_.toInt = x61_2.toInt + (1) := by rw [e68]; exact (ti_add (b := Int32.ofInt (1)) (by show _ ≤ _ + (1 : Int); omega) (by show _ + (1 : Int) ≤ _; omega))
                  refine r_aload_n hC dX10_goesOn_218 1 rfl ?_
                  refine r_dup hC dX10_goesOn_219 rfl ?_
                  refine r_geti hC 8 (ci := 10) rfl u10_in (by decide) mT_5_3 dX10_goesOn_220 ka0 rfl rfl (fun x69_ e69 => ?_)
                  have r69 := hs61.rng ka0 rfl e69
                  have f69 : x69_.toInt = (I61 a0 8).toInt := by rw [e69]
                  have w69 : x69_ = x62_ := by rw [e69]; exact e62.symm
                  have wt69 : x69_.toInt = x62_.toInt := by rw [w69]
                  refine r_iconst hC (v := (1)) dX10_goesOn_223 (by decide) (by decide) (fun x70_ e70 t70 => ?_)
                  refine r_iadd hC dX10_goesOn_224 (fun x71_ e71 => ?_)
                  try have t71 : x71_.toInt = x69_.toInt + x70_.toInt := by rw [e71]; exact ti_add (by omega) (by omega)
                  refine r_puti hC 8 (ci := 10) rfl u10_in tyX10_ok nmX10 (by decide) mT_5_3 rfl rfl rfl dX10_goesOn_225 ka0 rfl rfl (fun I72 eI72 => ?_)
                  have hs72 := hs61.put1 eI72 ka0 rfl (by omega) (by omega) rfl rfl (by decide)
                  have hF72 := hF61.put eI72 ka0 rfl
                  refine r_goto hC (tgt := 173) dX10_goesOn_228 (by decide) ?_
                  have hv8 : I72 a0 8 = x71_ := (by rw [eI72]; exact up2_self _ _ _ _)
                  have hv8t : (I72 a0 8).toInt = x71_.toInt := congrArg Int32.toInt hv8
                  have hv9 : I72 a0 9 = Th61 := (Eq.trans (up2_at (Or.inr (by decide)) eI72) eTh61.symm)
                  have hv9t : (I72 a0 9).toInt = Th61.toInt := congrArg Int32.toInt hv9
                  have hv10 : I72 a0 10 = Ph61 := (Eq.trans (up2_at (Or.inr (by decide)) eI72) ePh61.symm)
                  have hv10t : (I72 a0 10).toInt = Ph61.toInt := congrArg Int32.toInt hv10
                  have hv11 : I72 a0 11 = Nh61 := (Eq.trans (up2_at (Or.inr (by decide)) eI72) eNh61.symm)
                  have hv11t : (I72 a0 11).toInt = Nh61.toInt := congrArg Int32.toInt hv11
                  refine r_sub [1, 2, 0] rfl ?_
                  exact ih61 ((n - (I72 a0 8).toInt).toNat) (by omega) x68_ I72 hs72 hF72 (by omega) (by omega) (by omega) (by first | exact all_0 (P := fun j => fD B j = true) (by omega) | exact all_s (P := fun j => fD B j = true) v61_3 (by omega) (by omega) (fD_t.mpr (by omega))) (by first | (intro h9; rw [show ((I72 a0 8).toInt - (pl B n p : Int)).toNat = 0 by omega]; simp only [nv]; omega) | (intro h9; exfalso; omega) | (intro h9; exact nv_s (i := (I61 a0 8).toInt) (w := (I61 a0 11).toInt) (v61_4 (by omega)) (by omega) (by omega) (by omega))) (by omega) (by omega) rfl
                · have nv9 := nv_b v61_3 (by omega) (by omega)
                  have nw9 := v61_4 (by omega)
                  refine r_aload_n hC dX10_goesOn_192 0 rfl ?_
                  refine r_bipush hC (v := (10)) dX10_goesOn_193 (by decide) (by decide) (fun x73_ e73 t73 => ?_)
                  refine r_aload_n hC dX10_goesOn_195 0 rfl ?_
                  refine r_geti hC 11 (ci := 10) rfl u10_in (by decide) mT_5_6 dX10_goesOn_196 ka0 rfl rfl (fun x74_ e74 => ?_)
                  have f74 : x74_.toInt = (I61 a0 11).toInt := by rw [e74]
                  have w74 : x74_ = Nh61 := by rw [e74]; exact eNh61.symm
                  have wt74 : x74_.toInt = Nh61.toInt := by rw [w74]
                  refine r_imul hC dX10_goesOn_199 (fun x75_ e75 => ?_)
                  try have t75 : x75_.toInt = (10) * x74_.toInt := by rw [e75]; exact ti_mul (by omega) rfl (by omega) (by omega)
                  refine r_aload_n hC dX10_goesOn_200 0 rfl ?_
                  refine r_aload_n hC dX10_goesOn_201 0 rfl ?_
                  refine r_geti hC 8 (ci := 10) rfl u10_in (by decide) mT_5_3 dX10_goesOn_202 ka0 rfl rfl (fun x76_ e76 => ?_)
                  have r76 := hs61.rng ka0 rfl e76
                  have f76 : x76_.toInt = (I61 a0 8).toInt := by rw [e76]
                  have w76 : x76_ = x62_ := by rw [e76]; exact e62.symm
                  have wt76 : x76_.toInt = x62_.toInt := by rw [w76]
                  have h7 : I61 a0 7 = N0 := (Eq.trans (hF61.get ka0 rfl) eN0.symm)
                  have h7t : (I61 a0 7).toInt = N0.toInt := congrArg Int32.toInt h7
                  refine r_callV hC (As := [.int x76_]) (rest := [.int x75_, .ref a0]) (ci := 10) (f_X10_byteAt g (xL X) K len I61 J R hs61 a0 ka0 x76_ mt hmt kmt nmt B n (hB.mv9 hF61 kmt (fun _ => rfl)) hBr hn (by omega) (by omega)) mT_5_203 mT_1_10 mT_5_200 mT_5_202 mP_50 okX10_byteAt ⟨by decide, by decide⟩ rfl (by show kO (K a0) = _; rw [ka0]; rfl) rfl rfl (Nat.le_of_ble_eq_true rfl) ⟨by decide, by decide⟩ dX10_goesOn_205 (aI0 (F := fun st M => P g X 3 208 [(0, .ref a0), (1, .int x14_), (2, .int x61_2)] st _ _ M) (M := (K, len, I61, J, R)) fun x77_ h77 => ?_)
                  obtain ⟨k77_0, k77_1⟩ := h77
                  show P g X 3 208 [(0, .ref a0), (1, .int x14_), (2, .int x61_2)] [.int x77_, .int x75_, .ref a0] _ _ (K, len, I61, J, R)
                  have eb77 : B x76_.toInt.toNat = B (I61 a0 8).toInt.toNat := by rw [show x76_.toInt = (I61 a0 8).toInt by omega]
                  refine r_iadd hC dX10_goesOn_208 (fun x78_ e78 => ?_)
                  try have t78 : x78_.toInt = x75_.toInt + x77_.toInt := by rw [e78]; exact ti_add (by omega) (by omega)
                  refine r_bipush hC (v := (48)) dX10_goesOn_209 (by decide) (by decide) (fun x79_ e79 t79 => ?_)
                  refine r_isub hC dX10_goesOn_211 (fun x80_ e80 => ?_)
                  try have t80 : x80_.toInt = x78_.toInt - x79_.toInt := by rw [e80]; exact ti_sub (by omega) (by omega)
                  refine r_puti hC 11 (ci := 10) rfl u10_in tyX10_ok nmX10 (by decide) mT_5_6 rfl rfl rfl dX10_goesOn_212 ka0 rfl rfl (fun I81 eI81 => ?_)
                  have hs81 := hs61.put0 eI81 ka0 rfl rfl rfl (by decide)
                  have hF81 := hF61.put eI81 ka0 rfl
                  obtain ⟨x82_, e82⟩ : ∃ z : Int32, z = x61_2 + Int32.ofInt (1) := ⟨_, rfl⟩
                  refine r_iinc hC (j := 2) (v := x82_) (lv' := [(2, .int x82_), (0, .ref a0), (1, .int x14_)]) dX10_goesOn_215 rfl (by rw [e82]) (by decide) rfl ?_
                  try have t82 : x82_.toInt = x61_2.toInt + (1) := by rw [e82]; exact (ti_add (b := Int32.ofInt (1)) (by show _ ≤ _ + (1 : Int); omega) (by show _ + (1 : Int) ≤ _; omega))
                  refine r_aload_n hC dX10_goesOn_218 1 rfl ?_
                  refine r_dup hC dX10_goesOn_219 rfl ?_
                  refine r_geti hC 8 (ci := 10) rfl u10_in (by decide) mT_5_3 dX10_goesOn_220 ka0 rfl rfl (fun x83_ e83 => ?_)
                  have r83 := hs81.rng ka0 rfl e83
                  have f83 : x83_.toInt = (I81 a0 8).toInt := by rw [e83]
                  have w83 : x83_ = x76_ := by rw [e83]; exact (Eq.trans (up2_at (Or.inr (by decide)) eI81) e76.symm)
                  have wt83 : x83_.toInt = x76_.toInt := by rw [w83]
                  refine r_iconst hC (v := (1)) dX10_goesOn_223 (by decide) (by decide) (fun x84_ e84 t84 => ?_)
                  refine r_iadd hC dX10_goesOn_224 (fun x85_ e85 => ?_)
                  try have t85 : x85_.toInt = x83_.toInt + x84_.toInt := by rw [e85]; exact ti_add (by omega) (by omega)
                  refine r_puti hC 8 (ci := 10) rfl u10_in tyX10_ok nmX10 (by decide) mT_5_3 rfl rfl rfl dX10_goesOn_225 ka0 rfl rfl (fun I86 eI86 => ?_)
                  have hs86 := hs81.put1 eI86 ka0 rfl (by omega) (by omega) rfl rfl (by decide)
                  have hF86 := hF81.put eI86 ka0 rfl
                  refine r_goto hC (tgt := 173) dX10_goesOn_228 (by decide) ?_
                  have hv8 : I86 a0 8 = x85_ := (by rw [eI86]; exact up2_self _ _ _ _)
                  have hv8t : (I86 a0 8).toInt = x85_.toInt := congrArg Int32.toInt hv8
                  have hv9 : I86 a0 9 = Th61 := (Eq.trans (up2_at (Or.inr (by decide)) eI86) (Eq.trans (up2_at (Or.inr (by decide)) eI81) eTh61.symm))
                  have hv9t : (I86 a0 9).toInt = Th61.toInt := congrArg Int32.toInt hv9
                  have hv10 : I86 a0 10 = Ph61 := (Eq.trans (up2_at (Or.inr (by decide)) eI86) (Eq.trans (up2_at (Or.inr (by decide)) eI81) ePh61.symm))
                  have hv10t : (I86 a0 10).toInt = Ph61.toInt := congrArg Int32.toInt hv10
                  have hv11 : I86 a0 11 = x80_ := (Eq.trans (up2_at (Or.inr (by decide)) eI86) (by rw [eI81]; exact up2_self _ _ _ _))
                  have hv11t : (I86 a0 11).toInt = x80_.toInt := congrArg Int32.toInt hv11
                  refine r_sub [1, 2, 0] rfl ?_
                  exact ih61 ((n - (I86 a0 8).toInt).toNat) (by omega) x82_ I86 hs86 hF86 (by omega) (by omega) (by omega) (by first | exact all_0 (P := fun j => fD B j = true) (by omega) | exact all_s (P := fun j => fD B j = true) v61_3 (by omega) (by omega) (fD_t.mpr (by omega))) (by first | (intro h9; rw [show ((I86 a0 8).toInt - (pl B n p : Int)).toNat = 0 by omega]; simp only [nv]; omega) | (intro h9; exfalso; omega) | (intro h9; exact nv_s (i := (I61 a0 8).toInt) (w := (I61 a0 11).toInt) (v61_4 (by omega)) (by omega) (by omega) (by omega))) (by omega) (by omega) rfl
              · refine r_if_eq hC (tgt := 231) dX10_goesOn_184 (by decide) (fun c87 => ?_) (fun c87 => ?_)
                rotate_left
                · exfalso; omega
                have hrn : (rn (fD B) n (pl B n p) : Int) = (I61 a0 8).toInt := rn_at (by omega) (by omega) v61_3 (fun h9 => fD_f.mpr (by omega))
                refine r_iload_n hC dX10_goesOn_231 2 rfl ?_
                refine r_iconst hC (v := (3)) dX10_goesOn_232 (by decide) (by decide) (fun x88_ e88 t88 => ?_)
                refine r_icmp_gt hC (tgt := 265) dX10_goesOn_233 (by decide) (fun c89 => ?_) (fun c89 => ?_)
                · have h7 : I61 a0 7 = N0 := (Eq.trans (hF61.get ka0 rfl) eN0.symm)
                  have h7t : (I61 a0 7).toInt = N0.toInt := congrArg Int32.toInt h7
                  have h8 : I61 a0 8 = x62_ := e62.symm
                  have h8t : (I61 a0 8).toInt = x62_.toInt := congrArg Int32.toInt h8
                  have h9_ : I61 a0 9 = Th61 := eTh61.symm
                  have h9_t : (I61 a0 9).toInt = Th61.toInt := congrArg Int32.toInt h9_
                  have h10 : I61 a0 10 = Ph61 := ePh61.symm
                  have h10t : (I61 a0 10).toInt = Ph61.toInt := congrArg Int32.toInt h10
                  have h11 : I61 a0 11 = Nh61 := eNh61.symm
                  have h11t : (I61 a0 11).toInt = Nh61.toInt := congrArg Int32.toInt h11
                  exact r_vret hC hQ hlk hr (by decide) (by decide) dX10_goesOn_265 ⟨_, _, rfl, rfl, ⟨hs61, hF61, hFJ, (by first | exact TkM_end (by omega) (by omega) (by omega) (by omega) (by omega) | exact TkM_let (by split <;> omega) (by omega) (by omega) (by omega) (by omega) (fL_t.mpr (by omega)) (fun h9 => (NOx_v84_4 (by omega)).trans (congrArg (wv B (pl B n p)) (by omega))) | exact TkM_dig (by split <;> omega) (by omega) (by omega) (by omega) (by omega) (fD_t.mpr (by omega)) (fun h9 => (show _ = _ from (by omega : (I61 a0 11).toInt = (I61 a0 11).toInt)).trans ((v61_4 (by omega)).trans (congrArg (nv B (pl B n p)) (by omega)))) | exact TkM_sem (by omega) (by omega) (by omega) (by omega) (by omega) (by omega) | exact TkM_bad (by omega) (by omega) (by omega) (by omega) (by omega) (by omega) (by omega))⟩⟩
                · refine r_aload_n hC dX10_goesOn_236 0 rfl ?_
                  refine r_iconst hC (v := (3)) dX10_goesOn_237 (by decide) (by decide) (fun x90_ e90 t90 => ?_)
                  refine r_puti hC 9 (ci := 10) rfl u10_in tyX10_ok nmX10 (by decide) mT_5_4 rfl rfl rfl dX10_goesOn_238 ka0 rfl rfl (fun I91 eI91 => ?_)
                  have hs91 := hs61.put0 eI91 ka0 rfl rfl rfl (by decide)
                  have hF91 := hF61.put eI91 ka0 rfl
                  refine r_goto hC (tgt := 265) dX10_goesOn_241 (by decide) ?_
                  have h7 : I91 a0 7 = N0 := (Eq.trans (up2_at (Or.inr (by decide)) eI91) (Eq.trans (hF61.get ka0 rfl) eN0.symm))
                  have h7t : (I91 a0 7).toInt = N0.toInt := congrArg Int32.toInt h7
                  have h8 : I91 a0 8 = x62_ := (Eq.trans (up2_at (Or.inr (by decide)) eI91) e62.symm)
                  have h8t : (I91 a0 8).toInt = x62_.toInt := congrArg Int32.toInt h8
                  have h9_ : I91 a0 9 = x90_ := (by rw [eI91]; exact up2_self _ _ _ _)
                  have h9_t : (I91 a0 9).toInt = x90_.toInt := congrArg Int32.toInt h9_
                  have h10 : I91 a0 10 = Ph61 := (Eq.trans (up2_at (Or.inr (by decide)) eI91) ePh61.symm)
                  have h10t : (I91 a0 10).toInt = Ph61.toInt := congrArg Int32.toInt h10
                  have h11 : I91 a0 11 = Nh61 := (Eq.trans (up2_at (Or.inr (by decide)) eI91) eNh61.symm)
                  have h11t : (I91 a0 11).toInt = Nh61.toInt := congrArg Int32.toInt h11
                  exact r_vret hC hQ hlk hr (by decide) (by decide) dX10_goesOn_265 ⟨_, _, rfl, rfl, ⟨hs91, hF91, hFJ, (by first | exact TkM_end (by omega) (by omega) (by omega) (by omega) (by omega) | exact TkM_let (by split <;> omega) (by omega) (by omega) (by omega) (by omega) (fL_t.mpr (by omega)) (fun h9 => (NOx_v84_4 (by omega)).trans (congrArg (wv B (pl B n p)) (by omega))) | exact TkM_dig (by split <;> omega) (by omega) (by omega) (by omega) (by omega) (fD_t.mpr (by omega)) (fun h9 => (show _ = _ from (by omega : (I91 a0 11).toInt = (I61 a0 11).toInt)).trans ((v61_4 (by omega)).trans (congrArg (nv B (pl B n p)) (by omega)))) | exact TkM_sem (by omega) (by omega) (by omega) (by omega) (by omega) (by omega) | exact TkM_bad (by omega) (by omega) (by omega) (by omega) (by omega) (by omega) (by omega))⟩⟩
            have hv8 : I60 a0 8 = x13_ := (Eq.trans (up2_at (Or.inr (by decide)) eI60) e13.symm)
            have hv8t : (I60 a0 8).toInt = x13_.toInt := congrArg Int32.toInt hv8
            have hv9 : I60 a0 9 = x11_ := (Eq.trans (up2_at (Or.inr (by decide)) eI60) (by rw [eI12]; exact up2_self _ _ _ _))
            have hv9t : (I60 a0 9).toInt = x11_.toInt := congrArg Int32.toInt hv9
            have hv10 : I60 a0 10 = x9_ := (Eq.trans (up2_at (Or.inr (by decide)) eI60) (Eq.trans (up2_at (Or.inr (by decide)) eI12) (by rw [eI10]; exact up2_self _ _ _ _)))
            have hv10t : (I60 a0 10).toInt = x9_.toInt := congrArg Int32.toInt hv10
            have hv11 : I60 a0 11 = x59_ := (by rw [eI60]; exact up2_self _ _ _ _)
            have hv11t : (I60 a0 11).toInt = x59_.toInt := congrArg Int32.toInt hv11
            refine r_sub [2, 1, 0] rfl ?_
            exact LP61 _ x15_ I60 hs60 hF60 (by omega) (by omega) (by omega) (by first | exact all_0 (P := fun j => fD B j = true) (by omega) | exact all_s (P := fun j => fD B j = true) v61_3 (by omega) (by omega) (fD_t.mpr (by omega))) (by first | (intro h9; rw [show ((I60 a0 8).toInt - (pl B n p : Int)).toNat = 0 by omega]; simp only [nv]; omega) | (intro h9; exfalso; omega) | (intro h9; exact nv_s (i := (NOx_L173 a0 8).toInt) (w := (NOx_L173 a0 11).toInt) (v61_4 (by omega)) (by omega) (by omega) (by omega))) (by omega) (by omega) rfl
          · refine r_if_eq hC (tgt := 244) dX10_goesOn_165 (by decide) (fun c92 => ?_) (fun c92 => ?_)
            rotate_left
            · exfalso; omega
            refine r_iload_n hC dX10_goesOn_244 1 rfl ?_
            refine r_bipush hC (v := (59)) dX10_goesOn_245 (by decide) (by decide) (fun x93_ e93 t93 => ?_)
            refine r_icmp_ne hC (tgt := 265) dX10_goesOn_247 (by decide) (fun c94 => ?_) (fun c94 => ?_)
            · have h7 : I12 a0 7 = N0 := (Eq.trans (up2_at (Or.inr (by decide)) eI12) (Eq.trans (up2_at (Or.inr (by decide)) eI10) (Eq.trans (hF4.get ka0 rfl) eN0.symm)))
              have h7t : (I12 a0 7).toInt = N0.toInt := congrArg Int32.toInt h7
              have h8 : I12 a0 8 = x13_ := e13.symm
              have h8t : (I12 a0 8).toInt = x13_.toInt := congrArg Int32.toInt h8
              have h9_ : I12 a0 9 = x11_ := (by rw [eI12]; exact up2_self _ _ _ _)
              have h9_t : (I12 a0 9).toInt = x11_.toInt := congrArg Int32.toInt h9_
              have h10 : I12 a0 10 = x9_ := (Eq.trans (up2_at (Or.inr (by decide)) eI12) (by rw [eI10]; exact up2_self _ _ _ _))
              have h10t : (I12 a0 10).toInt = x9_.toInt := congrArg Int32.toInt h10
              exact r_vret hC hQ hlk hr (by decide) (by decide) dX10_goesOn_265 ⟨_, _, rfl, rfl, ⟨hs12, hF12, hFJ, (by first | exact TkM_end (by omega) (by omega) (by omega) (by omega) (by omega) | exact TkM_let (by split <;> omega) (by omega) (by omega) (by omega) (by omega) (fL_t.mpr (by omega)) (fun h9 => (NOx_v84_4 (by omega)).trans (congrArg (wv B (pl B n p)) (by omega))) | exact TkM_dig (by split <;> omega) (by omega) (by omega) (by omega) (by omega) (fD_t.mpr (by omega)) (fun h9 => (show _ = _ from (by omega : (I12 a0 11).toInt = (NOx_L173 a0 11).toInt)).trans ((NOx_v173_4 (by omega)).trans (congrArg (nv B (pl B n p)) (by omega)))) | exact TkM_sem (by omega) (by omega) (by omega) (by omega) (by omega) (by omega) | exact TkM_bad (by omega) (by omega) (by omega) (by omega) (by omega) (by omega) (by omega))⟩⟩
            · refine r_aload_n hC dX10_goesOn_250 2 rfl ?_
              refine r_iconst hC (v := (4)) dX10_goesOn_251 (by decide) (by decide) (fun x95_ e95 t95 => ?_)
              refine r_puti hC 9 (ci := 10) rfl u10_in tyX10_ok nmX10 (by decide) mT_5_4 rfl rfl rfl dX10_goesOn_252 ka0 rfl rfl (fun I96 eI96 => ?_)
              have hs96 := hs12.put0 eI96 ka0 rfl rfl rfl (by decide)
              have hF96 := hF12.put eI96 ka0 rfl
              refine r_aload_n hC dX10_goesOn_255 2 rfl ?_
              refine r_dup hC dX10_goesOn_256 rfl ?_
              refine r_geti hC 8 (ci := 10) rfl u10_in (by decide) mT_5_3 dX10_goesOn_257 ka0 rfl rfl (fun x97_ e97 => ?_)
              have r97 := hs96.rng ka0 rfl e97
              have f97 : x97_.toInt = (I96 a0 8).toInt := by rw [e97]
              have w97 : x97_ = x13_ := by rw [e97]; exact (Eq.trans (up2_at (Or.inr (by decide)) eI96) e13.symm)
              have wt97 : x97_.toInt = x13_.toInt := by rw [w97]
              refine r_iconst hC (v := (1)) dX10_goesOn_260 (by decide) (by decide) (fun x98_ e98 t98 => ?_)
              refine r_iadd hC dX10_goesOn_261 (fun x99_ e99 => ?_)
              try have t99 : x99_.toInt = x97_.toInt + x98_.toInt := by rw [e99]; exact ti_add (by omega) (by omega)
              refine r_puti hC 8 (ci := 10) rfl u10_in tyX10_ok nmX10 (by decide) mT_5_3 rfl rfl rfl dX10_goesOn_262 ka0 rfl rfl (fun I100 eI100 => ?_)
              have hs100 := hs96.put1 eI100 ka0 rfl (by omega) (by omega) rfl rfl (by decide)
              have hF100 := hF96.put eI100 ka0 rfl
              have h7 : I100 a0 7 = N0 := (Eq.trans (up2_at (Or.inr (by decide)) eI100) (Eq.trans (up2_at (Or.inr (by decide)) eI96) (Eq.trans (up2_at (Or.inr (by decide)) eI12) (Eq.trans (up2_at (Or.inr (by decide)) eI10) (Eq.trans (hF4.get ka0 rfl) eN0.symm)))))
              have h7t : (I100 a0 7).toInt = N0.toInt := congrArg Int32.toInt h7
              have h8 : I100 a0 8 = x99_ := (by rw [eI100]; exact up2_self _ _ _ _)
              have h8t : (I100 a0 8).toInt = x99_.toInt := congrArg Int32.toInt h8
              have h9_ : I100 a0 9 = x95_ := (Eq.trans (up2_at (Or.inr (by decide)) eI100) (by rw [eI96]; exact up2_self _ _ _ _))
              have h9_t : (I100 a0 9).toInt = x95_.toInt := congrArg Int32.toInt h9_
              have h10 : I100 a0 10 = x9_ := (Eq.trans (up2_at (Or.inr (by decide)) eI100) (Eq.trans (up2_at (Or.inr (by decide)) eI96) (Eq.trans (up2_at (Or.inr (by decide)) eI12) (by rw [eI10]; exact up2_self _ _ _ _))))
              have h10t : (I100 a0 10).toInt = x9_.toInt := congrArg Int32.toInt h10
              exact r_vret hC hQ hlk hr (by decide) (by decide) dX10_goesOn_265 ⟨_, _, rfl, rfl, ⟨hs100, hF100, hFJ, (by first | exact TkM_end (by omega) (by omega) (by omega) (by omega) (by omega) | exact TkM_let (by split <;> omega) (by omega) (by omega) (by omega) (by omega) (fL_t.mpr (by omega)) (fun h9 => (NOx_v84_4 (by omega)).trans (congrArg (wv B (pl B n p)) (by omega))) | exact TkM_dig (by split <;> omega) (by omega) (by omega) (by omega) (by omega) (fD_t.mpr (by omega)) (fun h9 => (show _ = _ from (by omega : (I100 a0 11).toInt = (NOx_L173 a0 11).toInt)).trans ((NOx_v173_4 (by omega)).trans (congrArg (nv B (pl B n p)) (by omega)))) | exact TkM_sem (by omega) (by omega) (by omega) (by omega) (by omega) (by omega) | exact TkM_bad (by omega) (by omega) (by omega) (by omega) (by omega) (by omega) (by omega))⟩⟩
      · refine r_aload_n hC dX10_goesOn_64 2 rfl ?_
        refine r_iconst hC (v := (1)) dX10_goesOn_65 (by decide) (by decide) (fun x101_ e101 t101 => ?_)
        refine r_puti hC 9 (ci := 10) rfl u10_in tyX10_ok nmX10 (by decide) mT_5_4 rfl rfl rfl dX10_goesOn_66 ka0 rfl rfl (fun I102 eI102 => ?_)
        have hs102 := hs12.put0 eI102 ka0 rfl rfl rfl (by decide)
        have hF102 := hF12.put eI102 ka0 rfl
        refine r_goto hC (tgt := 265) dX10_goesOn_69 (by decide) ?_
        have h7 : I102 a0 7 = N0 := (Eq.trans (up2_at (Or.inr (by decide)) eI102) (Eq.trans (up2_at (Or.inr (by decide)) eI12) (Eq.trans (up2_at (Or.inr (by decide)) eI10) (Eq.trans (hF4.get ka0 rfl) eN0.symm))))
        have h7t : (I102 a0 7).toInt = N0.toInt := congrArg Int32.toInt h7
        have h8 : I102 a0 8 = x13_ := (Eq.trans (up2_at (Or.inr (by decide)) eI102) e13.symm)
        have h8t : (I102 a0 8).toInt = x13_.toInt := congrArg Int32.toInt h8
        have h9_ : I102 a0 9 = x101_ := (by rw [eI102]; exact up2_self _ _ _ _)
        have h9_t : (I102 a0 9).toInt = x101_.toInt := congrArg Int32.toInt h9_
        have h10 : I102 a0 10 = x9_ := (Eq.trans (up2_at (Or.inr (by decide)) eI102) (Eq.trans (up2_at (Or.inr (by decide)) eI12) (by rw [eI10]; exact up2_self _ _ _ _)))
        have h10t : (I102 a0 10).toInt = x9_.toInt := congrArg Int32.toInt h10
        exact r_vret hC hQ hlk hr (by decide) (by decide) dX10_goesOn_265 ⟨_, _, rfl, rfl, ⟨hs102, hF102, hFJ, (by first | exact TkM_end (by omega) (by omega) (by omega) (by omega) (by omega) | exact TkM_let (by split <;> omega) (by omega) (by omega) (by omega) (by omega) (fL_t.mpr (by omega)) (fun h9 => (NOx_v84_4 (by omega)).trans (congrArg (wv B (pl B n p)) (by omega))) | exact TkM_dig (by split <;> omega) (by omega) (by omega) (by omega) (by omega) (fD_t.mpr (by omega)) (fun h9 => (show _ = _ from (by omega : (I102 a0 11).toInt = (NOx_L173 a0 11).toInt)).trans ((NOx_v173_4 (by omega)).trans (congrArg (nv B (pl B n p)) (by omega)))) | exact TkM_sem (by omega) (by omega) (by omega) (by omega) (by omega) (by omega) | exact TkM_bad (by omega) (by omega) (by omega) (by omega) (by omega) (by omega) (by omega))⟩⟩
    · refine r_aload_n hC dX10_goesOn_22 0 rfl ?_
      refine r_dup hC dX10_goesOn_23 rfl ?_
      refine r_geti hC 8 (ci := 10) rfl u10_in (by decide) mT_5_3 dX10_goesOn_24 ka0 rfl rfl (fun x103_ e103 => ?_)
      have r103 := hs4.rng ka0 rfl e103
      have f103 : x103_.toInt = (I4 a0 8).toInt := by rw [e103]
      have w103 : x103_ = x5_ := by rw [e103]; exact e5.symm
      have wt103 : x103_.toInt = x5_.toInt := by rw [w103]
      refine r_iconst hC (v := (1)) dX10_goesOn_27 (by decide) (by decide) (fun x104_ e104 t104 => ?_)
      refine r_iadd hC dX10_goesOn_28 (fun x105_ e105 => ?_)
      try have t105 : x105_.toInt = x103_.toInt + x104_.toInt := by rw [e105]; exact ti_add (by omega) (by omega)
      refine r_puti hC 8 (ci := 10) rfl u10_in tyX10_ok nmX10 (by decide) mT_5_3 rfl rfl rfl dX10_goesOn_29 ka0 rfl rfl (fun I106 eI106 => ?_)
      have hs106 := hs4.put1 eI106 ka0 rfl (by omega) (by omega) rfl rfl (by decide)
      have hF106 := hF4.put eI106 ka0 rfl
      refine r_goto hC (tgt := 9) dX10_goesOn_32 (by decide) ?_
      have hv8 : I106 a0 8 = x105_ := (by rw [eI106]; exact up2_self _ _ _ _)
      have hv8t : (I106 a0 8).toInt = x105_.toInt := congrArg Int32.toInt hv8
      refine r_sub [0] rfl ?_
      exact ih4 ((n - (I106 a0 8).toInt).toNat) (by omega) I106 hs106 hF106 (by omega) (by omega) (by first | exact all_0 (P := fun j => fS B j = true) (by omega) | exact all_s (P := fun j => fS B j = true) v4_2 (by omega) (by omega) (fS_t.mpr (by omega))) rfl
  have hv8 : I a0 8 = A0 := eA0.symm
  have hv8t : (I a0 8).toInt = A0.toInt := congrArg Int32.toInt hv8
  refine r_sub [0] rfl ?_
  exact LP4 _ I hs hF (by omega) (by omega) (by first | exact all_0 (P := fun j => fS B j = true) (by omega) | exact all_s (P := fun j => fS B j = true) v4_2 (by omega) (by omega) (fS_t.mpr (by omega))) rfl
set_option maxHeartbeats 4000000 in
set_option maxRecDepth 100000 in
theorem f_X10_wrong (g : GG) (l : Launch) (K len : Nat → Nat) (I : Nat → Nat → Int32) (J : Nat → Nat → Int64) (R : Nat → Nat → Option Nat) (hs : Sf K len I R) (a0 : Nat) (ka0 : K a0 = 11) (x1 : Int32) (p0 : (I a0 9).toInt ≠ 5) : Ct g l yX10_wrong cX10_wrong 2 (Option.none : Option Jvm.ClassFile.FieldType) rmX10_wrong [.ref a0, .int x1] (K, len, I, J, R) (pV1 (K, len, I, J, R) (fun I' => Sf K len I' R ∧ Fr K [(11, 9), (11, 12), (11, 13)] I I' ∧ ((I' a0 9).toInt = 5) ∧ ((I' a0 12).toInt = x1.toInt) ∧ ((I' a0 13).toInt = (I a0 10).toInt))) := by
  refine Ct_intro (by decide +kernel) (Nat.le_of_ble_eq_true rfl) (fun X hC hL hKK hNm hr hlk hQ => ?_)
  subst hL
  have hC : Cx g X cX10_wrong "HillTapModel" 2 rmX10_wrong := hC
  show P g X 2 0 [(0, .ref a0), (1, .int x1)] [] 0 0 (K, len, I, J, R)
  have hF : Fr K [(11, 9), (11, 12), (11, 13)] I I := Fr.refl
  have b_x1 := ti_rng x1
  obtain ⟨P0, eP0⟩ : ∃ z : Int32, z = I a0 10 := ⟨_, rfl⟩
  have fP0 : P0.toInt = (I a0 10).toInt := by rw [eP0]
  obtain ⟨T0, eT0⟩ : ∃ z : Int32, z = I a0 9 := ⟨_, rfl⟩
  have fT0 : T0.toInt = (I a0 9).toInt := by rw [eT0]
  refine r_aload_n hC dX10_wrong_0 0 rfl ?_
  refine r_geti hC 9 (ci := 10) rfl u10_in (by decide) mT_5_4 dX10_wrong_1 ka0 rfl rfl (fun x1_ e1 => ?_)
  have f1 : x1_.toInt = (I a0 9).toInt := by rw [e1]
  have w1 : x1_ = T0 := by rw [e1]; exact eT0.symm
  have wt1 : x1_.toInt = T0.toInt := by rw [w1]
  refine r_iconst hC (v := (5)) dX10_wrong_4 (by decide) (by decide) (fun x2_ e2 t2 => ?_)
  refine r_icmp_ne hC (tgt := 9) dX10_wrong_5 (by decide) (fun c3 => ?_) (fun c3 => ?_)
  rotate_left
  · exfalso; omega
  refine r_aload_n hC dX10_wrong_9 0 rfl ?_
  refine r_iload_n hC dX10_wrong_10 1 rfl ?_
  refine r_puti hC 12 (ci := 10) rfl u10_in tyX10_ok nmX10 (by decide) mT_5_7 rfl rfl rfl dX10_wrong_11 ka0 rfl rfl (fun I4 eI4 => ?_)
  have hs4 := hs.put0 eI4 ka0 rfl rfl rfl (by decide)
  have hF4 := hF.put eI4 ka0 rfl
  refine r_aload_n hC dX10_wrong_14 0 rfl ?_
  refine r_aload_n hC dX10_wrong_15 0 rfl ?_
  refine r_geti hC 10 (ci := 10) rfl u10_in (by decide) mT_5_5 dX10_wrong_16 ka0 rfl rfl (fun x5_ e5 => ?_)
  have f5 : x5_.toInt = (I4 a0 10).toInt := by rw [e5]
  have w5 : x5_ = P0 := by rw [e5]; exact (Eq.trans (up2_at (Or.inr (by decide)) eI4) eP0.symm)
  have wt5 : x5_.toInt = P0.toInt := by rw [w5]
  refine r_puti hC 13 (ci := 10) rfl u10_in tyX10_ok nmX10 (by decide) mT_5_8 rfl rfl rfl dX10_wrong_19 ka0 rfl rfl (fun I6 eI6 => ?_)
  have hs6 := hs4.put0 eI6 ka0 rfl rfl rfl (by decide)
  have hF6 := hF4.put eI6 ka0 rfl
  refine r_aload_n hC dX10_wrong_22 0 rfl ?_
  refine r_iconst hC (v := (5)) dX10_wrong_23 (by decide) (by decide) (fun x7_ e7 t7 => ?_)
  refine r_puti hC 9 (ci := 10) rfl u10_in tyX10_ok nmX10 (by decide) mT_5_4 rfl rfl rfl dX10_wrong_24 ka0 rfl rfl (fun I8 eI8 => ?_)
  have hs8 := hs6.put0 eI8 ka0 rfl rfl rfl (by decide)
  have hF8 := hF6.put eI8 ka0 rfl
  have hv9 : I8 a0 9 = x7_ := (by rw [eI8]; exact up2_self _ _ _ _)
  have hv9t : (I8 a0 9).toInt = x7_.toInt := congrArg Int32.toInt hv9
  have hv12 : I8 a0 12 = x1 := (Eq.trans (up2_at (Or.inr (by decide)) eI8) (Eq.trans (up2_at (Or.inr (by decide)) eI6) (by rw [eI4]; exact up2_self _ _ _ _)))
  have hv12t : (I8 a0 12).toInt = x1.toInt := congrArg Int32.toInt hv12
  have hv13 : I8 a0 13 = x5_ := (Eq.trans (up2_at (Or.inr (by decide)) eI8) (by rw [eI6]; exact up2_self _ _ _ _))
  have hv13t : (I8 a0 13).toInt = x5_.toInt := congrArg Int32.toInt hv13
  exact r_vret hC hQ hlk hr (by decide) (by decide) dX10_wrong_27 ⟨_, rfl, rfl, ⟨hs8, hF8, (by omega), (by omega), (by omega)⟩⟩
set_option maxHeartbeats 4000000 in
set_option maxRecDepth 100000 in
theorem f_X10_wordOf (g : GG) (l : Launch) (K len : Nat → Nat) (I : Nat → Nat → Int32) (J : Nat → Nat → Int64) (R : Nat → Nat → Option Nat) (hs : Sf K len I R) (i0 : Nat) (pi0 : i0 < 60) (hti : okT i0 = true) : Ct g l yX10_wordOf cX10_wordOf 4 (Option.some Jvm.ClassFile.FieldType.long) rmX10_wordOf [.ref (g.2.2.1 i0)] (K, len, I, J, R) (pL0 (K, len, I, J, R) (fun r => (r.toInt = tv i0))) := by
  refine Ct_intro (by decide +kernel) (Nat.le_of_ble_eq_true rfl) (fun X hC hL hKK hNm hr hlk hQ => ?_)
  subst hL
  have hC : Cx g X cX10_wordOf "HillTapModel" 4 rmX10_wordOf := hC
  show P g X 4 0 [(0, .ref (g.2.2.1 i0))] [] 0 0 (K, len, I, J, R)
  have hF : Fr K [] I I := Fr.refl
  have hlen := (txt_ok pi0 hti).1
  refine r_lconst hC (v := 0) dX10_wordOf_0 (by decide) (fun y1_ e1 => ?_)
  have tj1 : y1_.toInt = 0 := by rw [e1]; rfl
  refine r_lstore_n hC (lv' := [(1, .long y1_), (0, .ref (g.2.2.1 i0))]) dX10_wordOf_1 (by decide) rfl ?_
  refine r_iconst hC (v := (0)) dX10_wordOf_2 (by decide) (by decide) (fun x2_ e2 t2 => ?_)
  refine r_istore_n hC (lv' := [(3, .int x2_), (1, .long y1_), (0, .ref (g.2.2.1 i0))]) dX10_wordOf_3 (by decide) rfl ?_
  have LP3 : ∀ (mu : Nat) (x3_3 : Int32) (y3_1 : Int64) (v3_0 : 0 ≤ x3_3.toInt) (v3_1 : x3_3.toInt ≤ sLen i0) (v3_2 : y3_1.toInt = wv (tB i0) 0 (x3_3.toInt - (0 : Nat)).toNat), (20 - x3_3.toInt).toNat = mu → P g X 4 4 [(0, .ref (g.2.2.1 i0)), (1, .long y3_1), (3, .int x3_3)] [] 0 0 (K, len, I, J, R) := by
    intro mu; induction mu using Nat.strongRecOn with | ind mu ih => ?_
    intro x3_3 y3_1 v3_0 v3_1 v3_2 hmu
    have ih3 := ih
    clear ih
    have hmu3 := hmu
    clear hmu
    refine r_iload_n hC dX10_wordOf_4 2 rfl ?_
    refine r_aload_n hC dX10_wordOf_5 0 rfl ?_
    refine r_callT hC (As := []) (rest := [.int x3_3]) (i := i0) pi0 (c_J0_length_8abf5 g (xL X) K len I J R hs i0 pi0) mT_2_181 mT_1_13 mT_5_227 mT_2_179 mT_2_180 okJ0_length_8abf5 ⟨by decide, by decide⟩ rfl rfl (Nat.le_of_ble_eq_true rfl) ⟨by decide, by decide⟩ dX10_wordOf_6 (aI0 (F := fun st M => P g X 4 9 [(0, .ref (g.2.2.1 i0)), (1, .long y3_1), (3, .int x3_3)] st _ _ M) (M := (K, len, I, J, R)) fun x4_ h4 => ?_)
    obtain ⟨k4_0, k4_1, k4_2⟩ := h4
    show P g X 4 9 [(0, .ref (g.2.2.1 i0)), (1, .long y3_1), (3, .int x3_3)] [.int x4_, .int x3_3] _ _ (K, len, I, J, R)
    refine r_icmp_ge hC (tgt := 36) dX10_wordOf_9 (by decide) (fun c5 => ?_) (fun c5 => ?_)
    · refine r_lload_n hC dX10_wordOf_36 1 rfl ?_
      exact r_lret hC hQ hlk hr (by decide) (by decide) dX10_wordOf_37 ⟨_, rfl, rfl, (by show y3_1.toInt = wv (tB i0) 0 (sLen i0); rw [v3_2]; exact congrArg (wv (tB i0) 0) (by omega))⟩
    · refine r_ldc2 hC mT_5_207 dX10_wordOf_12 (fun y6_ e6 => ?_)
      refine r_lload_n hC dX10_wordOf_15 1 rfl ?_
      refine r_lmul hC dX10_wordOf_16 (fun y7_ e7 => ?_)
      refine r_aload_n hC dX10_wordOf_17 0 rfl ?_
      refine r_iload_n hC dX10_wordOf_18 2 rfl ?_
      refine r_callT hC (As := [.int x3_3]) (rest := [.long y7_]) (i := i0) pi0 (c_J0_charAt_5068e g (xL X) K len I J R hs i0 pi0 x3_3 (by omega) (by omega)) mT_2_191 mT_1_13 mT_5_228 mT_2_189 mT_2_190 okJ0_charAt_5068e ⟨by decide, by decide⟩ rfl rfl (Nat.le_of_ble_eq_true rfl) ⟨by decide, by decide⟩ dX10_wordOf_19 (aI0 (F := fun st M => P g X 4 22 [(0, .ref (g.2.2.1 i0)), (1, .long y3_1), (3, .int x3_3)] st _ _ M) (M := (K, len, I, J, R)) fun x8_ h8 => ?_)
      have k8_0 := h8
      show P g X 4 22 [(0, .ref (g.2.2.1 i0)), (1, .long y3_1), (3, .int x3_3)] [.int x8_, .long y7_] _ _ (K, len, I, J, R)
      have hch0 : x8_.toInt = tB i0 x3_3.toInt.toNat := by rw [k8_0]; unfold tB; rw [show x3_3.toNatClampNeg = x3_3.toInt.toNat from (by have h9 := clampI (i := x3_3) (by omega); omega)]
      have hc22 := fL_t.mp ((txt_ok pi0 hti).2 x3_3.toInt.toNat (by omega))
      refine r_bipush hC (v := (97)) dX10_wordOf_22 (by decide) (by decide) (fun x9_ e9 t9 => ?_)
      refine r_isub hC dX10_wordOf_24 (fun x10_ e10 => ?_)
      try have t10 : x10_.toInt = x8_.toInt - x9_.toInt := by rw [e10]; exact ti_sub (by omega) (by omega)
      refine r_iconst hC (v := (1)) dX10_wordOf_25 (by decide) (by decide) (fun x11_ e11 t11 => ?_)
      refine r_iadd hC dX10_wordOf_26 (fun x12_ e12 => ?_)
      try have t12 : x12_.toInt = x10_.toInt + x11_.toInt := by rw [e12]; exact ti_add (by omega) (by omega)
      refine r_i2l hC dX10_wordOf_27 (fun y13_ e13 => ?_)
      refine r_ladd hC dX10_wordOf_28 (fun y14_ e14 => ?_)
      have sj := let_m (B := tB i0) (q := 0) (i := x3_3.toInt) (v := y3_1) (by have h9 := v3_2; omega) (fun j _ h9 => (txt_ok pi0 hti).2 j (by omega)) (by omega) (by have h9 := (txt_ok pi0 hti).1; omega) e6 e7 e13 e14 (by omega) ((txt_ok pi0 hti).2 _ (by omega))
      refine r_lstore_n hC (lv' := [(1, .long y14_), (0, .ref (g.2.2.1 i0)), (3, .int x3_3)]) dX10_wordOf_29 (by decide) rfl ?_
      obtain ⟨x15_, e15⟩ : ∃ z : Int32, z = x3_3 + Int32.ofInt (1) := ⟨_, rfl⟩
      refine r_iinc hC (j := 2) (v := x15_) (lv' := [(3, .int x15_), (1, .long y14_), (0, .ref (g.2.2.1 i0))]) dX10_wordOf_30 rfl (by rw [e15]) (by decide) rfl ?_
      try have t15 : x15_.toInt = x3_3.toInt + (1) := by rw [e15]; exact (ti_add (b := Int32.ofInt (1)) (by show _ ≤ _ + (1 : Int); omega) (by show _ + (1 : Int) ≤ _; omega))
      refine r_goto hC (tgt := 4) dX10_wordOf_33 (by decide) ?_
      refine r_sub [2, 1, 0] rfl ?_
      exact ih3 ((20 - x15_.toInt).toNat) (by omega) x15_ y14_ (by omega) (by omega) (by first | (rw [show (x15_.toInt - ((0 : Nat) : Int)).toNat = 0 by omega]; simp only [wv]; omega) | (exact sj.trans (congrArg (wv (tB i0) 0) (by omega)))) rfl
  refine r_sub [2, 1, 0] rfl ?_
  exact LP3 _ x2_ y1_ (by omega) (by omega) (by first | (rw [show (x2_.toInt - ((0 : Nat) : Int)).toNat = 0 by omega]; simp only [wv]; omega) | (exact sj.trans (congrArg (wv (tB i0) 0) (by omega)))) rfl
set_option maxHeartbeats 4000000 in
set_option maxRecDepth 100000 in
theorem f_X10_isWord (g : GG) (l : Launch) (K len : Nat → Nat) (I : Nat → Nat → Int32) (J : Nat → Nat → Int64) (R : Nat → Nat → Option Nat) (hs : Sf K len I R) (a0 : Nat) (ka0 : K a0 = 11) (i1 : Nat) (pi1 : i1 < 60) (B : Nat → Int) (n : Nat) (p : Nat) (hp : p ≤ n) (tkm : TkM B n a0 p I J) (h31 : 31 ≤ i1) : Ct g l yX10_isWord cX10_isWord 2 (Option.some Jvm.ClassFile.FieldType.boolean) rmX10_isWord [.ref a0, .ref (g.2.2.1 i1)] (K, len, I, J, R) (pI0 (K, len, I, J, R) (fun r => (r.toInt = 1 ∧ isW B n p (i1 - 31) ∨ r.toInt = 0 ∧ ¬ isW B n p (i1 - 31)))) := by
  refine Ct_intro (by decide +kernel) (Nat.le_of_ble_eq_true rfl) (fun X hC hL hKK hNm hr hlk hQ => ?_)
  subst hL
  have hC : Cx g X cX10_isWord "HillTapModel" 2 rmX10_isWord := hC
  show P g X 2 0 [(0, .ref a0), (1, .ref (g.2.2.1 i1))] [] 0 0 (K, len, I, J, R)
  have hF : Fr K [] I I := Fr.refl
  have ek2 := tkm.e2
  have ek5 := tkm.2.2.2.2.1
  refine r_aload_n hC dX10_isWord_0 0 rfl ?_
  refine r_geti hC 9 (ci := 10) rfl u10_in (by decide) mT_5_4 dX10_isWord_1 ka0 rfl rfl (fun x1_ e1 => ?_)
  have f1 : x1_.toInt = (I a0 9).toInt := by rw [e1]
  refine r_iconst hC (v := (2)) dX10_isWord_4 (by decide) (by decide) (fun x2_ e2 t2 => ?_)
  refine r_icmp_ne hC (tgt := 24) dX10_isWord_5 (by decide) (fun c3 => ?_) (fun c3 => ?_)
  · refine r_iconst hC (v := (0)) dX10_isWord_24 (by decide) (by decide) (fun x4_ e4 t4 => ?_)
    exact r_iret hC hQ hlk hr (by rw [e4]; rfl) (by decide) (by decide) dX10_isWord_25 ⟨_, rfl, rfl, (by first | exact Or.inr ⟨by omega, fun h9 => by have h8 := h9.1; omega⟩ | exact Or.inl ⟨by omega, (isW_31 h31 pi1).mp ((isW_iff hp (by omega) pi1 (okT_31 h31)).mpr (by omega))⟩ | exact Or.inr ⟨by omega, fun h9 => by have h8 := (isW_iff hp (by omega) pi1 (okT_31 h31)).mp ((isW_31 h31 pi1).mpr h9); omega⟩)⟩
  · refine r_aload_n hC dX10_isWord_8 0 rfl ?_
    refine r_getj hC 14 (ci := 10) rfl u10_in (by decide) mT_5_9 dX10_isWord_9 ka0 rfl rfl (fun y5_ e5 => ?_)
    have fj5 : y5_.toInt = (J a0 14).toInt := by rw [e5]
    refine r_aload_n hC dX10_isWord_12 1 rfl ?_
    refine r_callS hC (As := [.ref (g.2.2.1 i1)]) (rest := [.long y5_]) (f_X10_wordOf g (xL X) K len I J R hs i1 pi1 (okT_31 h31)) mT_5_226 mT_1_10 mT_5_224 mT_5_225 okX10_wordOf ⟨by decide, by decide⟩ rfl rfl (Nat.le_of_ble_eq_true rfl) ⟨by decide, by decide⟩ dX10_isWord_13 (aL0 (F := fun st M => P g X 2 16 [(0, .ref a0), (1, .ref (g.2.2.1 i1))] st _ _ M) (M := (K, len, I, J, R)) fun y6_ h6 => ?_)
    have k6_0 := h6
    show P g X 2 16 [(0, .ref a0), (1, .ref (g.2.2.1 i1))] [.long y6_, .long y5_] _ _ (K, len, I, J, R)
    refine r_lcmp hC dX10_isWord_16 (fun x7_ e7 => ?_)
    have hz1 : x7_.toInt = 0 → y5_.toInt = y6_.toInt := fun h9 => lgc_eq (by rw [← e7]; exact h9)
    have hz2 : x7_.toInt ≠ 0 → y5_.toInt ≠ y6_.toInt := fun h9 => lgc_ne (by rw [← e7]; exact h9)
    refine r_if_ne hC (tgt := 24) dX10_isWord_17 (by decide) (fun c8 => ?_) (fun c8 => ?_)
    · refine r_iconst hC (v := (0)) dX10_isWord_24 (by decide) (by decide) (fun x9_ e9 t9 => ?_)
      exact r_iret hC hQ hlk hr (by rw [e9]; rfl) (by decide) (by decide) dX10_isWord_25 ⟨_, rfl, rfl, (by first | exact Or.inr ⟨by omega, fun h9 => by have h8 := h9.1; omega⟩ | exact Or.inl ⟨by omega, (isW_31 h31 pi1).mp ((isW_iff hp (by omega) pi1 (okT_31 h31)).mpr (by omega))⟩ | exact Or.inr ⟨by omega, fun h9 => by have h8 := (isW_iff hp (by omega) pi1 (okT_31 h31)).mp ((isW_31 h31 pi1).mpr h9); omega⟩)⟩
    · refine r_iconst hC (v := (1)) dX10_isWord_20 (by decide) (by decide) (fun x10_ e10 t10 => ?_)
      refine r_goto hC (tgt := 25) dX10_isWord_21 (by decide) ?_
      exact r_iret hC hQ hlk hr (by rw [e10]; rfl) (by decide) (by decide) dX10_isWord_25 ⟨_, rfl, rfl, (by first | exact Or.inr ⟨by omega, fun h9 => by have h8 := h9.1; omega⟩ | exact Or.inl ⟨by omega, (isW_31 h31 pi1).mp ((isW_iff hp (by omega) pi1 (okT_31 h31)).mpr (by omega))⟩ | exact Or.inr ⟨by omega, fun h9 => by have h8 := (isW_iff hp (by omega) pi1 (okT_31 h31)).mp ((isW_31 h31 pi1).mpr h9); omega⟩)⟩
set_option maxHeartbeats 4000000 in
set_option maxRecDepth 100000 in
theorem f_X10_isName (g : GG) (l : Launch) (K len : Nat → Nat) (I : Nat → Nat → Int32) (J : Nat → Nat → Int64) (R : Nat → Nat → Option Nat) (hs : Sf K len I R) (a0 : Nat) (ka0 : K a0 = 11) (B : Nat → Int) (n : Nat) (p : Nat) (hp : p ≤ n) (tkm : TkM B n a0 p I J) : Ct g l yX10_isName cX10_isName 1 (Option.some Jvm.ClassFile.FieldType.boolean) rmX10_isName [.ref a0] (K, len, I, J, R) (pI0 (K, len, I, J, R) (fun r => (r.toInt = 1 ∧ isNm B n p ∨ r.toInt = 0 ∧ ¬ isNm B n p))) := by
  refine Ct_intro (by decide +kernel) (Nat.le_of_ble_eq_true rfl) (fun X hC hL hKK hNm hr hlk hQ => ?_)
  subst hL
  have hC : Cx g X cX10_isName "HillTapModel" 1 rmX10_isName := hC
  show P g X 1 0 [(0, .ref a0)] [] 0 0 (K, len, I, J, R)
  have hF : Fr K [] I I := Fr.refl
  have ek2 := tkm.e2
  refine r_aload_n hC dX10_isName_0 0 rfl ?_
  refine r_geti hC 9 (ci := 10) rfl u10_in (by decide) mT_5_4 dX10_isName_1 ka0 rfl rfl (fun x1_ e1 => ?_)
  have f1 : x1_.toInt = (I a0 9).toInt := by rw [e1]
  refine r_iconst hC (v := (2)) dX10_isName_4 (by decide) (by decide) (fun x2_ e2 t2 => ?_)
  refine r_icmp_ne hC (tgt := 75) dX10_isName_5 (by decide) (fun c3 => ?_) (fun c3 => ?_)
  · refine r_iconst hC (v := (0)) dX10_isName_75 (by decide) (by decide) (fun x4_ e4 t4 => ?_)
    exact r_iret hC hQ hlk hr (by rw [e4]; rfl) (by decide) (by decide) dX10_isName_76 ⟨_, rfl, rfl, (by first | exact Or.inl ⟨by omega, by omega, by assumption, by assumption, by assumption, by assumption, by assumption, by assumption, by assumption⟩ | exact Or.inr ⟨by omega, fun h9 => by first | (have h8 := h9.1; omega) | exact h9.2.1 (by assumption) | exact h9.2.2.1 (by assumption) | exact h9.2.2.2.1 (by assumption) | exact h9.2.2.2.2.1 (by assumption) | exact h9.2.2.2.2.2.1 (by assumption) | exact h9.2.2.2.2.2.2.1 (by assumption) | exact h9.2.2.2.2.2.2.2 (by assumption)⟩)⟩
  · refine r_aload_n hC dX10_isName_8 0 rfl ?_
    refine r_ldcS hC (i := 31) (by decide) rfl rfl dX10_isName_9 ?_
    refine r_callV hC (As := [.ref (g.2.2.1 31)]) (rest := []) (ci := 10) (f_X10_isWord g (xL X) K len I J R hs a0 ka0 31 (by decide) B n p hp tkm (by first | assumption | decide)) mT_5_223 mT_1_10 mT_5_220 mT_5_222 mP_53 okX10_isWord ⟨by decide, by decide⟩ rfl (by show kO (K a0) = _; rw [ka0]; rfl) rfl rfl (Nat.le_of_ble_eq_true rfl) ⟨by decide, by decide⟩ dX10_isName_11 (aI0 (F := fun st M => P g X 1 14 [(0, .ref a0)] st _ _ M) (M := (K, len, I, J, R)) fun x5_ h5 => ?_)
    have k5_0 := h5
    show P g X 1 14 [(0, .ref a0)] [.int x5_] _ _ (K, len, I, J, R)
    rcases k5_0 with ⟨hr5, hw5⟩ | ⟨hr5, hw5⟩
    · refine r_if_ne hC (tgt := 75) dX10_isName_14 (by decide) (fun c6 => ?_) (fun c6 => ?_)
      rotate_left
      · exfalso; omega
      refine r_iconst hC (v := (0)) dX10_isName_75 (by decide) (by decide) (fun x7_ e7 t7 => ?_)
      exact r_iret hC hQ hlk hr (by rw [e7]; rfl) (by decide) (by decide) dX10_isName_76 ⟨_, rfl, rfl, (by first | exact Or.inl ⟨by omega, by omega, by assumption, by assumption, by assumption, by assumption, by assumption, by assumption, by assumption⟩ | exact Or.inr ⟨by omega, fun h9 => by first | (have h8 := h9.1; omega) | exact h9.2.1 (by assumption) | exact h9.2.2.1 (by assumption) | exact h9.2.2.2.1 (by assumption) | exact h9.2.2.2.2.1 (by assumption) | exact h9.2.2.2.2.2.1 (by assumption) | exact h9.2.2.2.2.2.2.1 (by assumption) | exact h9.2.2.2.2.2.2.2 (by assumption)⟩)⟩
    · refine r_if_ne hC (tgt := 75) dX10_isName_14 (by decide) (fun c8 => ?_) (fun c8 => ?_)
      · exfalso; omega
      refine r_aload_n hC dX10_isName_17 0 rfl ?_
      refine r_ldcS hC (i := 35) (by decide) rfl rfl dX10_isName_18 ?_
      refine r_callV hC (As := [.ref (g.2.2.1 35)]) (rest := []) (ci := 10) (f_X10_isWord g (xL X) K len I J R hs a0 ka0 35 (by decide) B n p hp tkm (by first | assumption | decide)) mT_5_223 mT_1_10 mT_5_220 mT_5_222 mP_53 okX10_isWord ⟨by decide, by decide⟩ rfl (by show kO (K a0) = _; rw [ka0]; rfl) rfl rfl (Nat.le_of_ble_eq_true rfl) ⟨by decide, by decide⟩ dX10_isName_20 (aI0 (F := fun st M => P g X 1 23 [(0, .ref a0)] st _ _ M) (M := (K, len, I, J, R)) fun x9_ h9 => ?_)
      have k9_0 := h9
      show P g X 1 23 [(0, .ref a0)] [.int x9_] _ _ (K, len, I, J, R)
      rcases k9_0 with ⟨hr9, hw9⟩ | ⟨hr9, hw9⟩
      · refine r_if_ne hC (tgt := 75) dX10_isName_23 (by decide) (fun c10 => ?_) (fun c10 => ?_)
        rotate_left
        · exfalso; omega
        refine r_iconst hC (v := (0)) dX10_isName_75 (by decide) (by decide) (fun x11_ e11 t11 => ?_)
        exact r_iret hC hQ hlk hr (by rw [e11]; rfl) (by decide) (by decide) dX10_isName_76 ⟨_, rfl, rfl, (by first | exact Or.inl ⟨by omega, by omega, by assumption, by assumption, by assumption, by assumption, by assumption, by assumption, by assumption⟩ | exact Or.inr ⟨by omega, fun h9 => by first | (have h8 := h9.1; omega) | exact h9.2.1 (by assumption) | exact h9.2.2.1 (by assumption) | exact h9.2.2.2.1 (by assumption) | exact h9.2.2.2.2.1 (by assumption) | exact h9.2.2.2.2.2.1 (by assumption) | exact h9.2.2.2.2.2.2.1 (by assumption) | exact h9.2.2.2.2.2.2.2 (by assumption)⟩)⟩
      · refine r_if_ne hC (tgt := 75) dX10_isName_23 (by decide) (fun c12 => ?_) (fun c12 => ?_)
        · exfalso; omega
        refine r_aload_n hC dX10_isName_26 0 rfl ?_
        refine r_ldcS hC (i := 36) (by decide) rfl rfl dX10_isName_27 ?_
        refine r_callV hC (As := [.ref (g.2.2.1 36)]) (rest := []) (ci := 10) (f_X10_isWord g (xL X) K len I J R hs a0 ka0 36 (by decide) B n p hp tkm (by first | assumption | decide)) mT_5_223 mT_1_10 mT_5_220 mT_5_222 mP_53 okX10_isWord ⟨by decide, by decide⟩ rfl (by show kO (K a0) = _; rw [ka0]; rfl) rfl rfl (Nat.le_of_ble_eq_true rfl) ⟨by decide, by decide⟩ dX10_isName_29 (aI0 (F := fun st M => P g X 1 32 [(0, .ref a0)] st _ _ M) (M := (K, len, I, J, R)) fun x13_ h13 => ?_)
        have k13_0 := h13
        show P g X 1 32 [(0, .ref a0)] [.int x13_] _ _ (K, len, I, J, R)
        rcases k13_0 with ⟨hr13, hw13⟩ | ⟨hr13, hw13⟩
        · refine r_if_ne hC (tgt := 75) dX10_isName_32 (by decide) (fun c14 => ?_) (fun c14 => ?_)
          rotate_left
          · exfalso; omega
          refine r_iconst hC (v := (0)) dX10_isName_75 (by decide) (by decide) (fun x15_ e15 t15 => ?_)
          exact r_iret hC hQ hlk hr (by rw [e15]; rfl) (by decide) (by decide) dX10_isName_76 ⟨_, rfl, rfl, (by first | exact Or.inl ⟨by omega, by omega, by assumption, by assumption, by assumption, by assumption, by assumption, by assumption, by assumption⟩ | exact Or.inr ⟨by omega, fun h9 => by first | (have h8 := h9.1; omega) | exact h9.2.1 (by assumption) | exact h9.2.2.1 (by assumption) | exact h9.2.2.2.1 (by assumption) | exact h9.2.2.2.2.1 (by assumption) | exact h9.2.2.2.2.2.1 (by assumption) | exact h9.2.2.2.2.2.2.1 (by assumption) | exact h9.2.2.2.2.2.2.2 (by assumption)⟩)⟩
        · refine r_if_ne hC (tgt := 75) dX10_isName_32 (by decide) (fun c16 => ?_) (fun c16 => ?_)
          · exfalso; omega
          refine r_aload_n hC dX10_isName_35 0 rfl ?_
          refine r_ldcS hC (i := 37) (by decide) rfl rfl dX10_isName_36 ?_
          refine r_callV hC (As := [.ref (g.2.2.1 37)]) (rest := []) (ci := 10) (f_X10_isWord g (xL X) K len I J R hs a0 ka0 37 (by decide) B n p hp tkm (by first | assumption | decide)) mT_5_223 mT_1_10 mT_5_220 mT_5_222 mP_53 okX10_isWord ⟨by decide, by decide⟩ rfl (by show kO (K a0) = _; rw [ka0]; rfl) rfl rfl (Nat.le_of_ble_eq_true rfl) ⟨by decide, by decide⟩ dX10_isName_38 (aI0 (F := fun st M => P g X 1 41 [(0, .ref a0)] st _ _ M) (M := (K, len, I, J, R)) fun x17_ h17 => ?_)
          have k17_0 := h17
          show P g X 1 41 [(0, .ref a0)] [.int x17_] _ _ (K, len, I, J, R)
          rcases k17_0 with ⟨hr17, hw17⟩ | ⟨hr17, hw17⟩
          · refine r_if_ne hC (tgt := 75) dX10_isName_41 (by decide) (fun c18 => ?_) (fun c18 => ?_)
            rotate_left
            · exfalso; omega
            refine r_iconst hC (v := (0)) dX10_isName_75 (by decide) (by decide) (fun x19_ e19 t19 => ?_)
            exact r_iret hC hQ hlk hr (by rw [e19]; rfl) (by decide) (by decide) dX10_isName_76 ⟨_, rfl, rfl, (by first | exact Or.inl ⟨by omega, by omega, by assumption, by assumption, by assumption, by assumption, by assumption, by assumption, by assumption⟩ | exact Or.inr ⟨by omega, fun h9 => by first | (have h8 := h9.1; omega) | exact h9.2.1 (by assumption) | exact h9.2.2.1 (by assumption) | exact h9.2.2.2.1 (by assumption) | exact h9.2.2.2.2.1 (by assumption) | exact h9.2.2.2.2.2.1 (by assumption) | exact h9.2.2.2.2.2.2.1 (by assumption) | exact h9.2.2.2.2.2.2.2 (by assumption)⟩)⟩
          · refine r_if_ne hC (tgt := 75) dX10_isName_41 (by decide) (fun c20 => ?_) (fun c20 => ?_)
            · exfalso; omega
            refine r_aload_n hC dX10_isName_44 0 rfl ?_
            refine r_ldcS hC (i := 38) (by decide) rfl rfl dX10_isName_45 ?_
            refine r_callV hC (As := [.ref (g.2.2.1 38)]) (rest := []) (ci := 10) (f_X10_isWord g (xL X) K len I J R hs a0 ka0 38 (by decide) B n p hp tkm (by first | assumption | decide)) mT_5_223 mT_1_10 mT_5_220 mT_5_222 mP_53 okX10_isWord ⟨by decide, by decide⟩ rfl (by show kO (K a0) = _; rw [ka0]; rfl) rfl rfl (Nat.le_of_ble_eq_true rfl) ⟨by decide, by decide⟩ dX10_isName_47 (aI0 (F := fun st M => P g X 1 50 [(0, .ref a0)] st _ _ M) (M := (K, len, I, J, R)) fun x21_ h21 => ?_)
            have k21_0 := h21
            show P g X 1 50 [(0, .ref a0)] [.int x21_] _ _ (K, len, I, J, R)
            rcases k21_0 with ⟨hr21, hw21⟩ | ⟨hr21, hw21⟩
            · refine r_if_ne hC (tgt := 75) dX10_isName_50 (by decide) (fun c22 => ?_) (fun c22 => ?_)
              rotate_left
              · exfalso; omega
              refine r_iconst hC (v := (0)) dX10_isName_75 (by decide) (by decide) (fun x23_ e23 t23 => ?_)
              exact r_iret hC hQ hlk hr (by rw [e23]; rfl) (by decide) (by decide) dX10_isName_76 ⟨_, rfl, rfl, (by first | exact Or.inl ⟨by omega, by omega, by assumption, by assumption, by assumption, by assumption, by assumption, by assumption, by assumption⟩ | exact Or.inr ⟨by omega, fun h9 => by first | (have h8 := h9.1; omega) | exact h9.2.1 (by assumption) | exact h9.2.2.1 (by assumption) | exact h9.2.2.2.1 (by assumption) | exact h9.2.2.2.2.1 (by assumption) | exact h9.2.2.2.2.2.1 (by assumption) | exact h9.2.2.2.2.2.2.1 (by assumption) | exact h9.2.2.2.2.2.2.2 (by assumption)⟩)⟩
            · refine r_if_ne hC (tgt := 75) dX10_isName_50 (by decide) (fun c24 => ?_) (fun c24 => ?_)
              · exfalso; omega
              refine r_aload_n hC dX10_isName_53 0 rfl ?_
              refine r_ldcS hC (i := 39) (by decide) rfl rfl dX10_isName_54 ?_
              refine r_callV hC (As := [.ref (g.2.2.1 39)]) (rest := []) (ci := 10) (f_X10_isWord g (xL X) K len I J R hs a0 ka0 39 (by decide) B n p hp tkm (by first | assumption | decide)) mT_5_223 mT_1_10 mT_5_220 mT_5_222 mP_53 okX10_isWord ⟨by decide, by decide⟩ rfl (by show kO (K a0) = _; rw [ka0]; rfl) rfl rfl (Nat.le_of_ble_eq_true rfl) ⟨by decide, by decide⟩ dX10_isName_56 (aI0 (F := fun st M => P g X 1 59 [(0, .ref a0)] st _ _ M) (M := (K, len, I, J, R)) fun x25_ h25 => ?_)
              have k25_0 := h25
              show P g X 1 59 [(0, .ref a0)] [.int x25_] _ _ (K, len, I, J, R)
              rcases k25_0 with ⟨hr25, hw25⟩ | ⟨hr25, hw25⟩
              · refine r_if_ne hC (tgt := 75) dX10_isName_59 (by decide) (fun c26 => ?_) (fun c26 => ?_)
                rotate_left
                · exfalso; omega
                refine r_iconst hC (v := (0)) dX10_isName_75 (by decide) (by decide) (fun x27_ e27 t27 => ?_)
                exact r_iret hC hQ hlk hr (by rw [e27]; rfl) (by decide) (by decide) dX10_isName_76 ⟨_, rfl, rfl, (by first | exact Or.inl ⟨by omega, by omega, by assumption, by assumption, by assumption, by assumption, by assumption, by assumption, by assumption⟩ | exact Or.inr ⟨by omega, fun h9 => by first | (have h8 := h9.1; omega) | exact h9.2.1 (by assumption) | exact h9.2.2.1 (by assumption) | exact h9.2.2.2.1 (by assumption) | exact h9.2.2.2.2.1 (by assumption) | exact h9.2.2.2.2.2.1 (by assumption) | exact h9.2.2.2.2.2.2.1 (by assumption) | exact h9.2.2.2.2.2.2.2 (by assumption)⟩)⟩
              · refine r_if_ne hC (tgt := 75) dX10_isName_59 (by decide) (fun c28 => ?_) (fun c28 => ?_)
                · exfalso; omega
                refine r_aload_n hC dX10_isName_62 0 rfl ?_
                refine r_ldcS hC (i := 40) (by decide) rfl rfl dX10_isName_63 ?_
                refine r_callV hC (As := [.ref (g.2.2.1 40)]) (rest := []) (ci := 10) (f_X10_isWord g (xL X) K len I J R hs a0 ka0 40 (by decide) B n p hp tkm (by first | assumption | decide)) mT_5_223 mT_1_10 mT_5_220 mT_5_222 mP_53 okX10_isWord ⟨by decide, by decide⟩ rfl (by show kO (K a0) = _; rw [ka0]; rfl) rfl rfl (Nat.le_of_ble_eq_true rfl) ⟨by decide, by decide⟩ dX10_isName_65 (aI0 (F := fun st M => P g X 1 68 [(0, .ref a0)] st _ _ M) (M := (K, len, I, J, R)) fun x29_ h29 => ?_)
                have k29_0 := h29
                show P g X 1 68 [(0, .ref a0)] [.int x29_] _ _ (K, len, I, J, R)
                rcases k29_0 with ⟨hr29, hw29⟩ | ⟨hr29, hw29⟩
                · refine r_if_ne hC (tgt := 75) dX10_isName_68 (by decide) (fun c30 => ?_) (fun c30 => ?_)
                  rotate_left
                  · exfalso; omega
                  refine r_iconst hC (v := (0)) dX10_isName_75 (by decide) (by decide) (fun x31_ e31 t31 => ?_)
                  exact r_iret hC hQ hlk hr (by rw [e31]; rfl) (by decide) (by decide) dX10_isName_76 ⟨_, rfl, rfl, (by first | exact Or.inl ⟨by omega, by omega, by assumption, by assumption, by assumption, by assumption, by assumption, by assumption, by assumption⟩ | exact Or.inr ⟨by omega, fun h9 => by first | (have h8 := h9.1; omega) | exact h9.2.1 (by assumption) | exact h9.2.2.1 (by assumption) | exact h9.2.2.2.1 (by assumption) | exact h9.2.2.2.2.1 (by assumption) | exact h9.2.2.2.2.2.1 (by assumption) | exact h9.2.2.2.2.2.2.1 (by assumption) | exact h9.2.2.2.2.2.2.2 (by assumption)⟩)⟩
                · refine r_if_ne hC (tgt := 75) dX10_isName_68 (by decide) (fun c32 => ?_) (fun c32 => ?_)
                  · exfalso; omega
                  refine r_iconst hC (v := (1)) dX10_isName_71 (by decide) (by decide) (fun x33_ e33 t33 => ?_)
                  refine r_goto hC (tgt := 76) dX10_isName_72 (by decide) ?_
                  exact r_iret hC hQ hlk hr (by rw [e33]; rfl) (by decide) (by decide) dX10_isName_76 ⟨_, rfl, rfl, (by first | exact Or.inl ⟨by omega, by omega, by assumption, by assumption, by assumption, by assumption, by assumption, by assumption, by assumption⟩ | exact Or.inr ⟨by omega, fun h9 => by first | (have h8 := h9.1; omega) | exact h9.2.1 (by assumption) | exact h9.2.2.1 (by assumption) | exact h9.2.2.2.1 (by assumption) | exact h9.2.2.2.2.1 (by assumption) | exact h9.2.2.2.2.2.1 (by assumption) | exact h9.2.2.2.2.2.2.1 (by assumption) | exact h9.2.2.2.2.2.2.2 (by assumption)⟩)⟩
set_option maxHeartbeats 4000000 in
set_option maxRecDepth 100000 in
theorem f_X10_readWhole (g : GG) (l : Launch) (K len : Nat → Nat) (I : Nat → Nat → Int32) (J : Nat → Nat → Int64) (R : Nat → Nat → Option Nat) (hs : Sf K len I R) (a0 : Nat) (ka0 : K a0 = 11) (x1 : Int32) (x2 : Int32) (mt : Nat) (hmt : R a0 5 = some mt) (kmt : K mt = 49) (nmt : len mt = 900) (B : Nat → Int) (n : Nat) (hB : BT B n mt I) (hBr : ∀ j : Nat, j < n → -128 ≤ B j ∧ B j ≤ 127) (hn : n ≤ 900) (p : Nat) (hp : p ≤ n) (tkm : TkM B n a0 p I J) : Ct g l yX10_readWhole cX10_readWhole 4 (Option.some Jvm.ClassFile.FieldType.int) rmX10_readWhole [.ref a0, .int x1, .int x2] (K, len, I, J, R) (pI2 (K, len, I, J, R) (fun r I' J' => Sf K len I' R ∧ Fr K [(11, 8), (11, 9), (11, 10), (11, 11), (11, 12), (11, 13)] I I' ∧ Fr K [(11, 14)] J J' ∧ ((∃ (v : Int) (p' : Nat), sWhole B n p x1.toInt x2.toInt = .ok (v, p') ∧ p' ≤ n ∧ TkM B n a0 p' I' J' ∧ r.toInt = v ∧ I' a0 12 = I a0 12) ∨ (∃ (kf : Int) (qf : Nat), sWhole B n p x1.toInt x2.toInt = .error (kf, qf) ∧ (I' a0 9).toInt = 5 ∧ (I' a0 12).toInt = kf ∧ (I' a0 13).toInt = qf)))) := by
  refine Ct_intro (by decide +kernel) (Nat.le_of_ble_eq_true rfl) (fun X hC hL hKK hNm hr hlk hQ => ?_)
  subst hL
  have hC : Cx g X cX10_readWhole "HillTapModel" 4 rmX10_readWhole := hC
  show P g X 4 0 [(0, .ref a0), (1, .int x1), (2, .int x2)] [] 0 0 (K, len, I, J, R)
  have hF : Fr K [(11, 8), (11, 9), (11, 10), (11, 11), (11, 12), (11, 13)] I I := Fr.refl
  have hFJ : Fr K [(11, 14)] J J := Fr.refl
  have ek1 := tkm.e1
  have ek2 := tkm.e2
  have ek3 := tkm.e3
  have ek4 := tkm.e4
  have ek10 := tkm.2.1
  have ek11 := tkm.2.2.2.2.2
  have b_x1 := ti_rng x1
  have b_x2 := ti_rng x2
  refine r_aload_n hC dX10_readWhole_0 0 rfl ?_
  refine r_geti hC 9 (ci := 10) rfl u10_in (by decide) mT_5_4 dX10_readWhole_1 ka0 rfl rfl (fun x1_ e1 => ?_)
  have f1 : x1_.toInt = (I a0 9).toInt := by rw [e1]
  refine r_iconst hC (v := (3)) dX10_readWhole_4 (by decide) (by decide) (fun x2_ e2 t2 => ?_)
  refine r_icmp_eq hC (tgt := 16) dX10_readWhole_5 (by decide) (fun c3 => ?_) (fun c3 => ?_)
  · refine r_aload_n hC dX10_readWhole_16 0 rfl ?_
    refine r_geti hC 11 (ci := 10) rfl u10_in (by decide) mT_5_6 dX10_readWhole_17 ka0 rfl rfl (fun x4_ e4 => ?_)
    have f4 : x4_.toInt = (I a0 11).toInt := by rw [e4]
    refine r_iload_n hC dX10_readWhole_20 1 rfl ?_
    refine r_iload_n hC dX10_readWhole_21 2 rfl ?_
    refine r_callS hC (As := [.int x4_, .int x1, .int x2]) (rest := []) (f_X10_in g (xL X) K len I J R hs x4_ x1 x2) mT_6_8 mT_1_10 mT_6_6 mT_6_7 okX10_in ⟨by decide, by decide⟩ rfl rfl (Nat.le_of_ble_eq_true rfl) ⟨by decide, by decide⟩ dX10_readWhole_22 (aI0 (F := fun st M => P g X 4 25 [(0, .ref a0), (1, .int x1), (2, .int x2)] st _ _ M) (M := (K, len, I, J, R)) fun x5_ h5 => ?_)
    have k5_0 := h5
    show P g X 4 25 [(0, .ref a0), (1, .int x1), (2, .int x2)] [.int x5_] _ _ (K, len, I, J, R)
    rcases k5_0 with ⟨hr5, hw5⟩ | ⟨hr5, hw5⟩
    · refine r_if_ne hC (tgt := 33) dX10_readWhole_25 (by decide) (fun c6 => ?_) (fun c6 => ?_)
      rotate_left
      · exfalso; omega
      refine r_aload_n hC dX10_readWhole_33 0 rfl ?_
      refine r_geti hC 11 (ci := 10) rfl u10_in (by decide) mT_5_6 dX10_readWhole_34 ka0 rfl rfl (fun x7_ e7 => ?_)
      have f7 : x7_.toInt = (I a0 11).toInt := by rw [e7]
      have w7 : x7_ = x4_ := by rw [e7]; exact e4.symm
      have wt7 : x7_.toInt = x4_.toInt := by rw [w7]
      refine r_istore_n hC (lv' := [(3, .int x7_), (0, .ref a0), (1, .int x1), (2, .int x2)]) dX10_readWhole_37 (by decide) rfl ?_
      refine r_aload_n hC dX10_readWhole_38 1 rfl ?_
      refine r_callV hC (As := []) (rest := []) (ci := 10) (f_X10_goesOn g (xL X) K len I J R hs a0 ka0 mt hmt kmt nmt B n (hB.mv9 hF kmt (fun _ => rfl)) hBr hn (nx B n p) (nx_le hp).2 (tkm.e5) (tkm.2.2.1 (by first | omega | (rw [NOkdp]; decide))) (tkm.2.2.2.1)) mT_5_199 mT_1_10 mT_5_196 mT_5_198 mP_49 okX10_goesOn ⟨by decide, by decide⟩ rfl (by show kO (K a0) = _; rw [ka0]; rfl) rfl rfl (Nat.le_of_ble_eq_true rfl) ⟨by decide, by decide⟩ dX10_readWhole_39 (aV2 (F := fun st M => P g X 4 42 [(3, .int x7_), (0, .ref a0), (1, .int x1), (2, .int x2)] st _ _ M) (M := (K, len, I, J, R)) fun I8 J8 h8 => ?_)
      obtain ⟨hs8, hf8, hfj8, k8_0⟩ := h8
      show P g X 4 42 [(3, .int x7_), (0, .ref a0), (1, .int x1), (2, .int x2)] [] _ _ (K, len, I8, J8, R)
      have hF8 : Fr K [(11, 8), (11, 9), (11, 10), (11, 11), (11, 12), (11, 13)] I I8 := hF.trans hf8 rfl rfl
      have hFJ8 : Fr K [(11, 14)] J J8 := hFJ.trans hfj8 rfl rfl
      have fp8 : I8 a0 12 = I a0 12 := (hf8.get ka0 rfl).trans rfl
      refine r_iload_n hC dX10_readWhole_42 0 rfl ?_
      exact r_iret hC hQ hlk hr rfl (by decide) (by decide) dX10_readWhole_43 ⟨_, _, _, rfl, rfl, ⟨hs8, hF8, hFJ8, (by first | exact Or.inl ⟨vl B n p, nx B n p, by unfold sWhole; rw [pif_t (by omega), pif_f (by omega)], (nx_le hp).2, k8_0, by omega, fp8⟩ | exact Or.inr ⟨1, pl B n p, by unfold sWhole; rw [pif_f (by omega)], by omega, by omega, by omega⟩ | exact Or.inr ⟨4, pl B n p, by unfold sWhole; rw [pif_t (by omega), pif_t (by omega)], by omega, by omega, by omega⟩)⟩⟩
    · refine r_if_ne hC (tgt := 33) dX10_readWhole_25 (by decide) (fun c9 => ?_) (fun c9 => ?_)
      · exfalso; omega
      refine r_aload_n hC dX10_readWhole_28 0 rfl ?_
      refine r_iconst hC (v := (4)) dX10_readWhole_29 (by decide) (by decide) (fun x10_ e10 t10 => ?_)
      refine r_callV hC (As := [.int x10_]) (rest := []) (ci := 10) (f_X10_wrong g (xL X) K len I J R hs a0 ka0 x10_ (tkm.e5)) mT_5_236 mT_1_10 mT_5_233 mT_5_235 mP_55 okX10_wrong ⟨by decide, by decide⟩ rfl (by show kO (K a0) = _; rw [ka0]; rfl) rfl rfl (Nat.le_of_ble_eq_true rfl) ⟨by decide, by decide⟩ dX10_readWhole_30 (aV1 (F := fun st M => P g X 4 33 [(0, .ref a0), (1, .int x1), (2, .int x2)] st _ _ M) (M := (K, len, I, J, R)) fun I11 h11 => ?_)
      obtain ⟨hs11, hf11, k11_0, k11_1, k11_2⟩ := h11
      show P g X 4 33 [(0, .ref a0), (1, .int x1), (2, .int x2)] [] _ _ (K, len, I11, J, R)
      have hF11 : Fr K [(11, 8), (11, 9), (11, 10), (11, 11), (11, 12), (11, 13)] I I11 := hF.trans hf11 rfl rfl
      have hwp11 := tkm.2.1
      refine r_aload_n hC dX10_readWhole_33 0 rfl ?_
      refine r_geti hC 11 (ci := 10) rfl u10_in (by decide) mT_5_6 dX10_readWhole_34 ka0 rfl rfl (fun x12_ e12 => ?_)
      have f12 : x12_.toInt = (I11 a0 11).toInt := by rw [e12]
      have w12 : x12_ = x4_ := by rw [e12]; exact (Eq.trans (hf11.get ka0 rfl) e4.symm)
      have wt12 : x12_.toInt = x4_.toInt := by rw [w12]
      refine r_istore_n hC (lv' := [(3, .int x12_), (0, .ref a0), (1, .int x1), (2, .int x2)]) dX10_readWhole_37 (by decide) rfl ?_
      refine r_aload_n hC dX10_readWhole_38 1 rfl ?_
      refine r_callV hC (As := []) (rest := []) (ci := 10) (e_X10_goesOn g (xL X) K len I11 J R hs11 a0 ka0 (by omega)) mT_5_199 mT_1_10 mT_5_196 mT_5_198 mP_49 okX10_goesOn ⟨by decide, by decide⟩ rfl (by show kO (K a0) = _; rw [ka0]; rfl) rfl rfl (Nat.le_of_ble_eq_true rfl) ⟨by decide, by decide⟩ dX10_readWhole_39 (aV2 (F := fun st M => P g X 4 42 [(3, .int x12_), (0, .ref a0), (1, .int x1), (2, .int x2)] st _ _ M) (M := (K, len, I11, J, R)) fun I13 J13 h13 => ?_)
      obtain ⟨hs13, hf13, hfj13, k13_0, k13_1, k13_2⟩ := h13
      show P g X 4 42 [(3, .int x12_), (0, .ref a0), (1, .int x1), (2, .int x2)] [] _ _ (K, len, I13, J13, R)
      have hF13 : Fr K [(11, 8), (11, 9), (11, 10), (11, 11), (11, 12), (11, 13)] I I13 := hF11.trans hf13 rfl rfl
      have hFJ13 : Fr K [(11, 14)] J J13 := hFJ.trans hfj13 rfl rfl
      refine r_iload_n hC dX10_readWhole_42 0 rfl ?_
      exact r_iret hC hQ hlk hr rfl (by decide) (by decide) dX10_readWhole_43 ⟨_, _, _, rfl, rfl, ⟨hs13, hF13, hFJ13, (by first | exact Or.inl ⟨vl B n p, nx B n p, by unfold sWhole; rw [pif_t (by omega), pif_f (by omega)], (nx_le hp).2, tkm, by omega, rfl⟩ | exact Or.inr ⟨1, pl B n p, by unfold sWhole; rw [pif_f (by omega)], by omega, by omega, by omega⟩ | exact Or.inr ⟨4, pl B n p, by unfold sWhole; rw [pif_t (by omega), pif_t (by omega)], by omega, by omega, by omega⟩)⟩⟩
  · refine r_aload_n hC dX10_readWhole_8 0 rfl ?_
    refine r_iconst hC (v := (1)) dX10_readWhole_9 (by decide) (by decide) (fun x14_ e14 t14 => ?_)
    refine r_callV hC (As := [.int x14_]) (rest := []) (ci := 10) (f_X10_wrong g (xL X) K len I J R hs a0 ka0 x14_ (tkm.e5)) mT_5_236 mT_1_10 mT_5_233 mT_5_235 mP_55 okX10_wrong ⟨by decide, by decide⟩ rfl (by show kO (K a0) = _; rw [ka0]; rfl) rfl rfl (Nat.le_of_ble_eq_true rfl) ⟨by decide, by decide⟩ dX10_readWhole_10 (aV1 (F := fun st M => P g X 4 13 [(0, .ref a0), (1, .int x1), (2, .int x2)] st _ _ M) (M := (K, len, I, J, R)) fun I15 h15 => ?_)
    obtain ⟨hs15, hf15, k15_0, k15_1, k15_2⟩ := h15
    show P g X 4 13 [(0, .ref a0), (1, .int x1), (2, .int x2)] [] _ _ (K, len, I15, J, R)
    have hF15 : Fr K [(11, 8), (11, 9), (11, 10), (11, 11), (11, 12), (11, 13)] I I15 := hF.trans hf15 rfl rfl
    have hwp15 := tkm.2.1
    refine r_goto hC (tgt := 33) dX10_readWhole_13 (by decide) ?_
    refine r_aload_n hC dX10_readWhole_33 0 rfl ?_
    refine r_geti hC 11 (ci := 10) rfl u10_in (by decide) mT_5_6 dX10_readWhole_34 ka0 rfl rfl (fun x16_ e16 => ?_)
    have f16 : x16_.toInt = (I15 a0 11).toInt := by rw [e16]
    refine r_istore_n hC (lv' := [(3, .int x16_), (0, .ref a0), (1, .int x1), (2, .int x2)]) dX10_readWhole_37 (by decide) rfl ?_
    refine r_aload_n hC dX10_readWhole_38 1 rfl ?_
    refine r_callV hC (As := []) (rest := []) (ci := 10) (e_X10_goesOn g (xL X) K len I15 J R hs15 a0 ka0 (by omega)) mT_5_199 mT_1_10 mT_5_196 mT_5_198 mP_49 okX10_goesOn ⟨by decide, by decide⟩ rfl (by show kO (K a0) = _; rw [ka0]; rfl) rfl rfl (Nat.le_of_ble_eq_true rfl) ⟨by decide, by decide⟩ dX10_readWhole_39 (aV2 (F := fun st M => P g X 4 42 [(3, .int x16_), (0, .ref a0), (1, .int x1), (2, .int x2)] st _ _ M) (M := (K, len, I15, J, R)) fun I17 J17 h17 => ?_)
    obtain ⟨hs17, hf17, hfj17, k17_0, k17_1, k17_2⟩ := h17
    show P g X 4 42 [(3, .int x16_), (0, .ref a0), (1, .int x1), (2, .int x2)] [] _ _ (K, len, I17, J17, R)
    have hF17 : Fr K [(11, 8), (11, 9), (11, 10), (11, 11), (11, 12), (11, 13)] I I17 := hF15.trans hf17 rfl rfl
    have hFJ17 : Fr K [(11, 14)] J J17 := hFJ.trans hfj17 rfl rfl
    refine r_iload_n hC dX10_readWhole_42 0 rfl ?_
    exact r_iret hC hQ hlk hr rfl (by decide) (by decide) dX10_readWhole_43 ⟨_, _, _, rfl, rfl, ⟨hs17, hF17, hFJ17, (by first | exact Or.inl ⟨vl B n p, nx B n p, by unfold sWhole; rw [pif_t (by omega), pif_f (by omega)], (nx_le hp).2, tkm, by omega, rfl⟩ | exact Or.inr ⟨1, pl B n p, by unfold sWhole; rw [pif_f (by omega)], by omega, by omega, by omega⟩ | exact Or.inr ⟨4, pl B n p, by unfold sWhole; rw [pif_t (by omega), pif_t (by omega)], by omega, by omega, by omega⟩)⟩⟩
set_option maxHeartbeats 4000000 in
set_option maxRecDepth 100000 in
theorem f_X10_readPart (g : GG) (l : Launch) (K len : Nat → Nat) (I : Nat → Nat → Int32) (J : Nat → Nat → Int64) (R : Nat → Nat → Option Nat) (hs : Sf K len I R) (a0 : Nat) (ka0 : K a0 = 11) (i1 : Nat) (pi1 : i1 < 60) (x2 : Int32) (x3 : Int32) (mt : Nat) (hmt : R a0 5 = some mt) (kmt : K mt = 49) (nmt : len mt = 900) (B : Nat → Int) (n : Nat) (hB : BT B n mt I) (hBr : ∀ j : Nat, j < n → -128 ≤ B j ∧ B j ≤ 127) (hn : n ≤ 900) (p : Nat) (hp : p ≤ n) (tkm : TkM B n a0 p I J) (h31 : 31 ≤ i1) : Ct g l yX10_readPart cX10_readPart 4 (Option.some Jvm.ClassFile.FieldType.int) rmX10_readPart [.ref a0, .ref (g.2.2.1 i1), .int x2, .int x3] (K, len, I, J, R) (pI2 (K, len, I, J, R) (fun r I' J' => Sf K len I' R ∧ Fr K [(11, 8), (11, 9), (11, 10), (11, 11), (11, 12), (11, 13)] I I' ∧ Fr K [(11, 14)] J J' ∧ ((∃ (v : Int) (p' : Nat), sNum B n p (i1 - 31) x2.toInt x3.toInt = .ok (v, p') ∧ p' ≤ n ∧ TkM B n a0 p' I' J' ∧ r.toInt = v ∧ I' a0 12 = I a0 12) ∨ (∃ (kf : Int) (qf : Nat), sNum B n p (i1 - 31) x2.toInt x3.toInt = .error (kf, qf) ∧ (I' a0 9).toInt = 5 ∧ (I' a0 12).toInt = kf ∧ (I' a0 13).toInt = qf)))) := by
  refine Ct_intro (by decide +kernel) (Nat.le_of_ble_eq_true rfl) (fun X hC hL hKK hNm hr hlk hQ => ?_)
  subst hL
  have hC : Cx g X cX10_readPart "HillTapModel" 4 rmX10_readPart := hC
  show P g X 4 0 [(0, .ref a0), (1, .ref (g.2.2.1 i1)), (2, .int x2), (3, .int x3)] [] 0 0 (K, len, I, J, R)
  have hF : Fr K [(11, 8), (11, 9), (11, 10), (11, 11), (11, 12), (11, 13)] I I := Fr.refl
  have hFJ : Fr K [(11, 14)] J J := Fr.refl
  have ek1 := tkm.e1
  have ek2 := tkm.e2
  have ek3 := tkm.e3
  have ek4 := tkm.e4
  have ek10 := tkm.2.1
  have ek11 := tkm.2.2.2.2.2
  have b_x2 := ti_rng x2
  have b_x3 := ti_rng x3
  refine r_aload_n hC dX10_readPart_0 0 rfl ?_
  refine r_aload_n hC dX10_readPart_1 1 rfl ?_
  refine r_callV hC (As := [.ref (g.2.2.1 i1)]) (rest := []) (ci := 10) (f_X10_isWord g (xL X) K len I J R hs a0 ka0 i1 pi1 B n p hp tkm (by first | assumption | decide)) mT_5_223 mT_1_10 mT_5_220 mT_5_222 mP_53 okX10_isWord ⟨by decide, by decide⟩ rfl (by show kO (K a0) = _; rw [ka0]; rfl) rfl rfl (Nat.le_of_ble_eq_true rfl) ⟨by decide, by decide⟩ dX10_readPart_2 (aI0 (F := fun st M => P g X 4 5 [(0, .ref a0), (1, .ref (g.2.2.1 i1)), (2, .int x2), (3, .int x3)] st _ _ M) (M := (K, len, I, J, R)) fun x1_ h1 => ?_)
  have k1_0 := h1
  show P g X 4 5 [(0, .ref a0), (1, .ref (g.2.2.1 i1)), (2, .int x2), (3, .int x3)] [.int x1_] _ _ (K, len, I, J, R)
  rcases k1_0 with ⟨hr1, hw1⟩ | ⟨hr1, hw1⟩
  · refine r_if_ne hC (tgt := 13) dX10_readPart_5 (by decide) (fun c2 => ?_) (fun c2 => ?_)
    rotate_left
    · exfalso; omega
    refine r_aload_n hC dX10_readPart_13 0 rfl ?_
    refine r_callV hC (As := []) (rest := []) (ci := 10) (f_X10_goesOn g (xL X) K len I J R hs a0 ka0 mt hmt kmt nmt B n (hB.mv9 hF kmt (fun _ => rfl)) hBr hn (nx B n p) (nx_le hp).2 (tkm.e5) (tkm.2.2.1 (by first | omega | (rw [hw1.1]; decide))) (tkm.2.2.2.1)) mT_5_199 mT_1_10 mT_5_196 mT_5_198 mP_49 okX10_goesOn ⟨by decide, by decide⟩ rfl (by show kO (K a0) = _; rw [ka0]; rfl) rfl rfl (Nat.le_of_ble_eq_true rfl) ⟨by decide, by decide⟩ dX10_readPart_14 (aV2 (F := fun st M => P g X 4 17 [(0, .ref a0), (1, .ref (g.2.2.1 i1)), (2, .int x2), (3, .int x3)] st _ _ M) (M := (K, len, I, J, R)) fun I3 J3 h3 => ?_)
    obtain ⟨hs3, hf3, hfj3, k3_0⟩ := h3
    show P g X 4 17 [(0, .ref a0), (1, .ref (g.2.2.1 i1)), (2, .int x2), (3, .int x3)] [] _ _ (K, len, I3, J3, R)
    have hF3 : Fr K [(11, 8), (11, 9), (11, 10), (11, 11), (11, 12), (11, 13)] I I3 := hF.trans hf3 rfl rfl
    have hFJ3 : Fr K [(11, 14)] J J3 := hFJ.trans hfj3 rfl rfl
    have fp3 : I3 a0 12 = I a0 12 := (hf3.get ka0 rfl).trans rfl
    refine r_aload_n hC dX10_readPart_17 0 rfl ?_
    refine r_iload_n hC dX10_readPart_18 2 rfl ?_
    refine r_iload_n hC dX10_readPart_19 3 rfl ?_
    refine r_callV hC (As := [.int x2, .int x3]) (rest := []) (ci := 10) (f_X10_readWhole g (xL X) K len I3 J3 R hs3 a0 ka0 x2 x3 mt hmt kmt nmt B n (hB.mv9 hF3 kmt (fun _ => rfl)) hBr hn (nx B n p) (nx_le hp).2 k3_0) mT_6_5 mT_1_10 mT_6_2 mT_6_4 mP_57 okX10_readWhole ⟨by decide, by decide⟩ rfl (by show kO (K a0) = _; rw [ka0]; rfl) rfl rfl (Nat.le_of_ble_eq_true rfl) ⟨by decide, by decide⟩ dX10_readPart_20 (aI2 (F := fun st M => P g X 4 23 [(0, .ref a0), (1, .ref (g.2.2.1 i1)), (2, .int x2), (3, .int x3)] st _ _ M) (M := (K, len, I3, J3, R)) fun x4_ I4 J4 h4 => ?_)
    obtain ⟨hs4, hf4, hfj4, k4_0⟩ := h4
    show P g X 4 23 [(0, .ref a0), (1, .ref (g.2.2.1 i1)), (2, .int x2), (3, .int x3)] [.int x4_] _ _ (K, len, I4, J4, R)
    have hF4 : Fr K [(11, 8), (11, 9), (11, 10), (11, 11), (11, 12), (11, 13)] I I4 := hF3.trans hf4 rfl rfl
    have hFJ4 : Fr K [(11, 14)] J J4 := hFJ3.trans hfj4 rfl rfl
    rcases k4_0 with ⟨v4, p4, hsp4, hp4, tk4, hv4, fl4⟩ | ⟨kf4, qf4, hsp4, hf04, hf14, hf24⟩
    · have fq4 : I4 a0 12 = I a0 12 := fl4.trans fp3
      exact r_iret hC hQ hlk hr rfl (by decide) (by decide) dX10_readPart_23 ⟨_, _, _, rfl, rfl, ⟨hs4, hF4, hFJ4, (by first | exact Or.inl ⟨v4, p4, by unfold sNum; rw [pif_t (by assumption)]; exact hsp4, hp4, tk4, hv4, fq4⟩ | exact Or.inr ⟨kf4, qf4, by unfold sNum; rw [pif_t (by assumption)]; exact hsp4, hf04, hf14, hf24⟩ | exact Or.inr ⟨1, pl B n p, by unfold sNum; rw [pif_f (by assumption)], by omega, by omega, by omega⟩)⟩⟩
    · exact r_iret hC hQ hlk hr rfl (by decide) (by decide) dX10_readPart_23 ⟨_, _, _, rfl, rfl, ⟨hs4, hF4, hFJ4, (by first | exact Or.inl ⟨v4, p4, by unfold sNum; rw [pif_t (by assumption)]; exact hsp4, hp4, tk4, hv4, fp3⟩ | exact Or.inr ⟨kf4, qf4, by unfold sNum; rw [pif_t (by assumption)]; exact hsp4, hf04, hf14, hf24⟩ | exact Or.inr ⟨1, pl B n p, by unfold sNum; rw [pif_f (by assumption)], by omega, by omega, by omega⟩)⟩⟩
  · refine r_if_ne hC (tgt := 13) dX10_readPart_5 (by decide) (fun c5 => ?_) (fun c5 => ?_)
    · exfalso; omega
    refine r_aload_n hC dX10_readPart_8 0 rfl ?_
    refine r_iconst hC (v := (1)) dX10_readPart_9 (by decide) (by decide) (fun x6_ e6 t6 => ?_)
    refine r_callV hC (As := [.int x6_]) (rest := []) (ci := 10) (f_X10_wrong g (xL X) K len I J R hs a0 ka0 x6_ (tkm.e5)) mT_5_236 mT_1_10 mT_5_233 mT_5_235 mP_55 okX10_wrong ⟨by decide, by decide⟩ rfl (by show kO (K a0) = _; rw [ka0]; rfl) rfl rfl (Nat.le_of_ble_eq_true rfl) ⟨by decide, by decide⟩ dX10_readPart_10 (aV1 (F := fun st M => P g X 4 13 [(0, .ref a0), (1, .ref (g.2.2.1 i1)), (2, .int x2), (3, .int x3)] st _ _ M) (M := (K, len, I, J, R)) fun I7 h7 => ?_)
    obtain ⟨hs7, hf7, k7_0, k7_1, k7_2⟩ := h7
    show P g X 4 13 [(0, .ref a0), (1, .ref (g.2.2.1 i1)), (2, .int x2), (3, .int x3)] [] _ _ (K, len, I7, J, R)
    have hF7 : Fr K [(11, 8), (11, 9), (11, 10), (11, 11), (11, 12), (11, 13)] I I7 := hF.trans hf7 rfl rfl
    have hwp7 := tkm.2.1
    refine r_aload_n hC dX10_readPart_13 0 rfl ?_
    refine r_callV hC (As := []) (rest := []) (ci := 10) (e_X10_goesOn g (xL X) K len I7 J R hs7 a0 ka0 (by omega)) mT_5_199 mT_1_10 mT_5_196 mT_5_198 mP_49 okX10_goesOn ⟨by decide, by decide⟩ rfl (by show kO (K a0) = _; rw [ka0]; rfl) rfl rfl (Nat.le_of_ble_eq_true rfl) ⟨by decide, by decide⟩ dX10_readPart_14 (aV2 (F := fun st M => P g X 4 17 [(0, .ref a0), (1, .ref (g.2.2.1 i1)), (2, .int x2), (3, .int x3)] st _ _ M) (M := (K, len, I7, J, R)) fun I8 J8 h8 => ?_)
    obtain ⟨hs8, hf8, hfj8, k8_0, k8_1, k8_2⟩ := h8
    show P g X 4 17 [(0, .ref a0), (1, .ref (g.2.2.1 i1)), (2, .int x2), (3, .int x3)] [] _ _ (K, len, I8, J8, R)
    have hF8 : Fr K [(11, 8), (11, 9), (11, 10), (11, 11), (11, 12), (11, 13)] I I8 := hF7.trans hf8 rfl rfl
    have hFJ8 : Fr K [(11, 14)] J J8 := hFJ.trans hfj8 rfl rfl
    refine r_aload_n hC dX10_readPart_17 0 rfl ?_
    refine r_iload_n hC dX10_readPart_18 2 rfl ?_
    refine r_iload_n hC dX10_readPart_19 3 rfl ?_
    refine r_callV hC (As := [.int x2, .int x3]) (rest := []) (ci := 10) (e_X10_readWhole g (xL X) K len I8 J8 R hs8 a0 ka0 x2 x3 (by omega)) mT_6_5 mT_1_10 mT_6_2 mT_6_4 mP_57 okX10_readWhole ⟨by decide, by decide⟩ rfl (by show kO (K a0) = _; rw [ka0]; rfl) rfl rfl (Nat.le_of_ble_eq_true rfl) ⟨by decide, by decide⟩ dX10_readPart_20 (aI2 (F := fun st M => P g X 4 23 [(0, .ref a0), (1, .ref (g.2.2.1 i1)), (2, .int x2), (3, .int x3)] st _ _ M) (M := (K, len, I8, J8, R)) fun x9_ I9 J9 h9 => ?_)
    obtain ⟨hs9, hf9, hfj9, k9_0, k9_1, k9_2⟩ := h9
    show P g X 4 23 [(0, .ref a0), (1, .ref (g.2.2.1 i1)), (2, .int x2), (3, .int x3)] [.int x9_] _ _ (K, len, I9, J9, R)
    have hF9 : Fr K [(11, 8), (11, 9), (11, 10), (11, 11), (11, 12), (11, 13)] I I9 := hF8.trans hf9 rfl rfl
    have hFJ9 : Fr K [(11, 14)] J J9 := hFJ8.trans hfj9 rfl rfl
    exact r_iret hC hQ hlk hr rfl (by decide) (by decide) dX10_readPart_23 ⟨_, _, _, rfl, rfl, ⟨hs9, hF9, hFJ9, (by first | exact Or.inl ⟨v9, p9, by unfold sNum; rw [pif_t (by assumption)]; exact hsp9, hp9, tk9, hv9, rfl⟩ | exact Or.inr ⟨kf9, qf9, by unfold sNum; rw [pif_t (by assumption)]; exact hsp9, hf09, hf19, hf29⟩ | exact Or.inr ⟨1, pl B n p, by unfold sNum; rw [pif_f (by assumption)], by omega, by omega, by omega⟩)⟩⟩
set_option maxHeartbeats 4000000 in
set_option maxRecDepth 100000 in
theorem f_X10_begins (g : GG) (l : Launch) (K len : Nat → Nat) (I : Nat → Nat → Int32) (J : Nat → Nat → Int64) (R : Nat → Nat → Option Nat) (hs : Sf K len I R) (a0 : Nat) (ka0 : K a0 = 11) (x1 : Int32) (x2 : Int32) (mt : Nat) (hmt : R a0 5 = some mt) (kmt : K mt = 49) (nmt : len mt = 900) (B : Nat → Int) (n : Nat) (hB : BT B n mt I) (hBr : ∀ j : Nat, j < n → -128 ≤ B j ∧ B j ≤ 127) (hn : n ≤ 900) (p : Nat) (hp : p ≤ n) (tkm : TkM B n a0 p I J) (p0 : kd B n p = 1) : Ct g l yX10_begins cX10_begins 3 (Option.none : Option Jvm.ClassFile.FieldType) rmX10_begins [.ref a0, .int x1, .int x2] (K, len, I, J, R) (pV2 (K, len, I, J, R) (fun I' J' => Sf K len I' R ∧ Fr K [(11, 8), (11, 9), (11, 10), (11, 11), (11, 12), (11, 13)] I I' ∧ Fr K [(11, 14)] J J' ∧ ((x1.toInt ≠ x2.toInt ∧ TkM B n a0 (nx B n p) I' J' ∧ I' a0 12 = I a0 12) ∨ (x1.toInt = x2.toInt ∧ (I' a0 9).toInt = 5 ∧ (I' a0 12).toInt = 5 ∧ (I' a0 13).toInt = pl B n p)))) := by
  refine Ct_intro (by decide +kernel) (Nat.le_of_ble_eq_true rfl) (fun X hC hL hKK hNm hr hlk hQ => ?_)
  subst hL
  have hC : Cx g X cX10_begins "HillTapModel" 3 rmX10_begins := hC
  show P g X 3 0 [(0, .ref a0), (1, .int x1), (2, .int x2)] [] 0 0 (K, len, I, J, R)
  have hF : Fr K [(11, 8), (11, 9), (11, 10), (11, 11), (11, 12), (11, 13)] I I := Fr.refl
  have hFJ : Fr K [(11, 14)] J J := Fr.refl
  have ek1 := tkm.e1
  have ek2 := tkm.e2
  have ek3 := tkm.e3
  have ek4 := tkm.e4
  have ek10 := tkm.2.1
  have ek11 := tkm.2.2.2.2.2
  have b_x1 := ti_rng x1
  have b_x2 := ti_rng x2
  refine r_iload_n hC dX10_begins_0 1 rfl ?_
  refine r_iload_n hC dX10_begins_1 2 rfl ?_
  refine r_icmp_ne hC (tgt := 10) dX10_begins_2 (by decide) (fun c1 => ?_) (fun c1 => ?_)
  · refine r_aload_n hC dX10_begins_10 0 rfl ?_
    refine r_callV hC (As := []) (rest := []) (ci := 10) (f_X10_goesOn g (xL X) K len I J R hs a0 ka0 mt hmt kmt nmt B n (hB.mv9 hF kmt (fun _ => rfl)) hBr hn (nx B n p) (nx_le hp).2 (tkm.e5) (tkm.2.2.1 (by first | omega | (rw [NOkdp]; decide))) (tkm.2.2.2.1)) mT_5_199 mT_1_10 mT_5_196 mT_5_198 mP_49 okX10_goesOn ⟨by decide, by decide⟩ rfl (by show kO (K a0) = _; rw [ka0]; rfl) rfl rfl (Nat.le_of_ble_eq_true rfl) ⟨by decide, by decide⟩ dX10_begins_11 (aV2 (F := fun st M => P g X 3 14 [(0, .ref a0), (1, .int x1), (2, .int x2)] st _ _ M) (M := (K, len, I, J, R)) fun I2 J2 h2 => ?_)
    obtain ⟨hs2, hf2, hfj2, k2_0⟩ := h2
    show P g X 3 14 [(0, .ref a0), (1, .int x1), (2, .int x2)] [] _ _ (K, len, I2, J2, R)
    have hF2 : Fr K [(11, 8), (11, 9), (11, 10), (11, 11), (11, 12), (11, 13)] I I2 := hF.trans hf2 rfl rfl
    have hFJ2 : Fr K [(11, 14)] J J2 := hFJ.trans hfj2 rfl rfl
    have fp2 : I2 a0 12 = I a0 12 := (hf2.get ka0 rfl).trans rfl
    exact r_vret hC hQ hlk hr (by decide) (by decide) dX10_begins_14 ⟨_, _, rfl, rfl, ⟨hs2, hF2, hFJ2, (by first | exact Or.inl ⟨by omega, k2_0, fp2⟩ | exact Or.inr ⟨by omega, by omega, by omega, by omega⟩)⟩⟩
  · refine r_aload_n hC dX10_begins_5 0 rfl ?_
    refine r_iconst hC (v := (5)) dX10_begins_6 (by decide) (by decide) (fun x3_ e3 t3 => ?_)
    refine r_callV hC (As := [.int x3_]) (rest := []) (ci := 10) (f_X10_wrong g (xL X) K len I J R hs a0 ka0 x3_ (tkm.e5)) mT_5_236 mT_1_10 mT_5_233 mT_5_235 mP_55 okX10_wrong ⟨by decide, by decide⟩ rfl (by show kO (K a0) = _; rw [ka0]; rfl) rfl rfl (Nat.le_of_ble_eq_true rfl) ⟨by decide, by decide⟩ dX10_begins_7 (aV1 (F := fun st M => P g X 3 10 [(0, .ref a0), (1, .int x1), (2, .int x2)] st _ _ M) (M := (K, len, I, J, R)) fun I4 h4 => ?_)
    obtain ⟨hs4, hf4, k4_0, k4_1, k4_2⟩ := h4
    show P g X 3 10 [(0, .ref a0), (1, .int x1), (2, .int x2)] [] _ _ (K, len, I4, J, R)
    have hF4 : Fr K [(11, 8), (11, 9), (11, 10), (11, 11), (11, 12), (11, 13)] I I4 := hF.trans hf4 rfl rfl
    have hwp4 := tkm.2.1
    refine r_aload_n hC dX10_begins_10 0 rfl ?_
    refine r_callV hC (As := []) (rest := []) (ci := 10) (e_X10_goesOn g (xL X) K len I4 J R hs4 a0 ka0 (by omega)) mT_5_199 mT_1_10 mT_5_196 mT_5_198 mP_49 okX10_goesOn ⟨by decide, by decide⟩ rfl (by show kO (K a0) = _; rw [ka0]; rfl) rfl rfl (Nat.le_of_ble_eq_true rfl) ⟨by decide, by decide⟩ dX10_begins_11 (aV2 (F := fun st M => P g X 3 14 [(0, .ref a0), (1, .int x1), (2, .int x2)] st _ _ M) (M := (K, len, I4, J, R)) fun I5 J5 h5 => ?_)
    obtain ⟨hs5, hf5, hfj5, k5_0, k5_1, k5_2⟩ := h5
    show P g X 3 14 [(0, .ref a0), (1, .int x1), (2, .int x2)] [] _ _ (K, len, I5, J5, R)
    have hF5 : Fr K [(11, 8), (11, 9), (11, 10), (11, 11), (11, 12), (11, 13)] I I5 := hF4.trans hf5 rfl rfl
    have hFJ5 : Fr K [(11, 14)] J J5 := hFJ.trans hfj5 rfl rfl
    exact r_vret hC hQ hlk hr (by decide) (by decide) dX10_begins_14 ⟨_, _, rfl, rfl, ⟨hs5, hF5, hFJ5, (by first | exact Or.inl ⟨by omega, tkm, rfl⟩ | exact Or.inr ⟨by omega, by omega, by omega, by omega⟩)⟩⟩

