abbrev rmX10_feed : Room := { frames := 0, cells := 0, slots := 0, locals := 0 }
abbrev rmX10_trouble : Room := { frames := 0, cells := 0, slots := 0, locals := 0 }
abbrev rmX10_fault : Room := { frames := 0, cells := 0, slots := 0, locals := 0 }
abbrev rmX10_where : Room := { frames := 0, cells := 0, slots := 0, locals := 0 }
abbrev rmX10_forget : Room := { frames := 0, cells := 0, slots := 0, locals := 0 }
abbrev rmX10_fits : Room := { frames := 6, cells := 0, slots := 0, locals := 145 }
abbrev rmX10_fit : Room := { frames := 5, cells := 0, slots := 0, locals := 122 }
abbrev rmX10_weight : Room := { frames := 6, cells := 0, slots := 0, locals := 144 }
abbrev rmX10_clear : Room := { frames := 6, cells := 0, slots := 0, locals := 145 }
abbrev rmX10_lettings : Room := { frames := 3, cells := 0, slots := 0, locals := 64 }
abbrev rmX10_tap : Room := { frames := 5, cells := 0, slots := 0, locals := 121 }
abbrev rmX10_fooled : Room := { frames := 5, cells := 0, slots := 0, locals := 121 }
abbrev rmX10_nought : Room := { frames := 4, cells := 0, slots := 0, locals := 98 }
abbrev rmX10_span : Room := { frames := 4, cells := 0, slots := 0, locals := 98 }
abbrev rmX10_helps : Room := { frames := 4, cells := 0, slots := 0, locals := 99 }
abbrev rmX10_last : Room := { frames := 4, cells := 0, slots := 0, locals := 99 }
abbrev rmX10_safe : Room := { frames := 3, cells := 0, slots := 0, locals := 77 }
abbrev rmX10_found : Room := { frames := 1, cells := 0, slots := 0, locals := 23 }
abbrev rmX10_bore : Room := { frames := 6, cells := 0, slots := 0, locals := 144 }
abbrev rmX10_struck : Room := { frames := 4, cells := 0, slots := 0, locals := 98 }
abbrev rmX10_dead : Room := { frames := 4, cells := 0, slots := 0, locals := 98 }
abbrev rmX10_tell : Room := { frames := 6, cells := 0, slots := 0, locals := 144 }
abbrev rmX10_part : Room := { frames := 4, cells := 0, slots := 0, locals := 98 }
abbrev rmX10_knew : Room := { frames := 1, cells := 0, slots := 0, locals := 21 }
abbrev rmX10_led : Room := { frames := 4, cells := 0, slots := 0, locals := 98 }
abbrev rmX10_size : Room := { frames := 1, cells := 0, slots := 0, locals := 22 }
abbrev rmX10_peg : Room := { frames := 4, cells := 0, slots := 0, locals := 98 }
abbrev rmX10_gone : Room := { frames := 4, cells := 0, slots := 0, locals := 98 }
abbrev rmX10_wave : Room := { frames := 4, cells := 0, slots := 0, locals := 98 }
abbrev rmX10_read : Room := { frames := 1, cells := 0, slots := 0, locals := 22 }
set_option maxHeartbeats 4000000 in
set_option maxRecDepth 100000 in
theorem c_X10_trouble (g : GG) (l : Launch) (K len : Nat → Nat) (I : Nat → Nat → Int32) (J : Nat → Nat → Int64) (R : Nat → Nat → Option Nat) (hs : Sf K len I R) (a0 : Nat) (ka0 : K a0 = 11) : Ct g l yX10_trouble cX10_trouble 1 (Option.some Jvm.ClassFile.FieldType.int) rmX10_trouble [.ref a0] (K, len, I, J, R) (pI1 (K, len, I, J, R) (fun r I' => Sf K len I' R ∧ Fr K [(11, 0)] I I')) := by
  refine Ct_intro (by decide +kernel) (Nat.le_of_ble_eq_true rfl) (fun X hC hL hKK hNm hr hlk hQ => ?_)
  subst hL
  have hC : Cx g X cX10_trouble "HillTapModel" 1 rmX10_trouble := hC
  show P g X 1 0 [(0, .ref a0)] [] 0 0 (K, len, I, J, R)
  have hF : Fr K [(11, 0)] I I := Fr.refl
  refine r_aload_n hC dX10_trouble_0 0 rfl ?_
  refine r_iconst hC (v := (0)) dX10_trouble_1 (by decide) (by decide) (fun x1_ e1 t1 => ?_)
  refine r_puti hC 0 (ci := 10) rfl u10_in tyX10_ok nmX10 (by decide) mT_4_235 rfl rfl rfl dX10_trouble_2 ka0 rfl rfl (fun I2 eI2 => ?_)
  have hs2 := hs.put0 eI2 ka0 rfl rfl rfl (by decide)
  have hF2 := hF.put eI2 ka0 rfl
  refine r_aload_n hC dX10_trouble_5 0 rfl ?_
  refine r_geti hC 1 (ci := 10) rfl u10_in (by decide) mT_4_236 dX10_trouble_6 ka0 rfl rfl (fun x3_ e3 => ?_)
  exact r_iret hC hQ hlk hr rfl (by decide) (by decide) dX10_trouble_9 ⟨_, _, rfl, rfl, ⟨hs2, hF2⟩⟩
set_option maxHeartbeats 4000000 in
set_option maxRecDepth 100000 in
theorem c_X10_fits (g : GG) (l : Launch) (K len : Nat → Nat) (I : Nat → Nat → Int32) (J : Nat → Nat → Int64) (R : Nat → Nat → Option Nat) (hs : Sf K len I R) (a0 : Nat) (ka0 : K a0 = 11) : Ct g l yX10_fits cX10_fits 1 (Option.some Jvm.ClassFile.FieldType.int) rmX10_fits [.ref a0] (K, len, I, J, R) (pI1 (K, len, I, J, R) (fun r I' => Sf K len I' R ∧ Fr K [(11, 0), (11, 1), (11, 2), (11, 19), (85, 999), (86, 999), (87, 999), (88, 999)] I I' ∧ ((I' a0 2).toInt = -1))) := by
  refine Ct_intro (by decide +kernel) (Nat.le_of_ble_eq_true rfl) (fun X hC hL hKK hNm hr hlk hQ => ?_)
  subst hL
  have hC : Cx g X cX10_fits "HillTapModel" 1 rmX10_fits := hC
  show P g X 1 0 [(0, .ref a0)] [] 0 0 (K, len, I, J, R)
  have hF : Fr K [(11, 0), (11, 1), (11, 2), (11, 19), (85, 999), (86, 999), (87, 999), (88, 999)] I I := Fr.refl
  rcases hs.2.1.2.2.1 a0 ka0 with hz | ⟨hm, hbm, khm⟩
  · refine r_aload_n hC dX10_fits_0 0 rfl ?_
    refine r_iconst hC (v := (0)) dX10_fits_1 (by decide) (by decide) (fun x1_ e1 t1 => ?_)
    refine r_puti hC 0 (ci := 10) rfl u10_in tyX10_ok nmX10 (by decide) mT_4_235 rfl rfl rfl dX10_fits_2 ka0 rfl rfl (fun I2 eI2 => ?_)
    have hs2 := hs.put0 eI2 ka0 rfl rfl rfl (by decide)
    have hF2 := hF.put eI2 ka0 rfl
    refine r_aload_n hC dX10_fits_5 0 rfl ?_
    refine r_getz hC 3 (ci := 10) rfl u10_in (by decide) mT_4_238 dX10_fits_6 ka0 rfl rfl hz ?_
    refine r_ifnonnullN hC dX10_fits_9 ?_
    refine r_aload_n hC dX10_fits_12 0 rfl ?_
    refine r_iconst hC (v := (1)) dX10_fits_13 (by decide) (by decide) (fun x3_ e3 t3 => ?_)
    refine r_callV hC (As := [.int x3_]) (rest := []) (ci := 10) (c_X10_refused g (xL X) K len I2 J R hs2 a0 ka0 x3_) mT_5_85 mT_1_10 mT_5_82 mT_5_84 mP_48 okX10_refused ⟨by decide, by decide⟩ rfl (by show kO (K a0) = _; rw [ka0]; rfl) rfl rfl (Nat.le_of_ble_eq_true rfl) ⟨by decide, by decide⟩ dX10_fits_14 (aI1 (F := fun st M => P g X 1 17 [(0, .ref a0)] st _ _ M) (M := (K, len, I2, J, R)) fun x4_ I4 h4 => ?_)
    obtain ⟨hs4, hf4, k4_0, k4_1, k4_2⟩ := h4
    show P g X 1 17 [(0, .ref a0)] [.int x4_] _ _ (K, len, I4, J, R)
    have hF4 : Fr K [(11, 0), (11, 1), (11, 2), (11, 19), (85, 999), (86, 999), (87, 999), (88, 999)] I I4 := hF2.trans hf4 rfl rfl
    refine r_goto hC (tgt := 30) dX10_fits_17 (by decide) ?_
    exact r_iret hC hQ hlk hr rfl (by decide) (by decide) dX10_fits_30 ⟨_, _, rfl, rfl, ⟨hs4, hF4, (by omega)⟩⟩
  · obtain ⟨S0, eS0⟩ : ∃ z : Int32, z = I hm 7 := ⟨_, rfl⟩
    have fS0 : S0.toInt = (I hm 7).toInt := by rw [eS0]
    have rS0 := hs.rng khm rfl eS0
    refine r_aload_n hC dX10_fits_0 0 rfl ?_
    refine r_iconst hC (v := (0)) dX10_fits_1 (by decide) (by decide) (fun x5_ e5 t5 => ?_)
    refine r_puti hC 0 (ci := 10) rfl u10_in tyX10_ok nmX10 (by decide) mT_4_235 rfl rfl rfl dX10_fits_2 ka0 rfl rfl (fun I6 eI6 => ?_)
    have hs6 := hs.put0 eI6 ka0 rfl rfl rfl (by decide)
    have hF6 := hF.put eI6 ka0 rfl
    refine r_aload_n hC dX10_fits_5 0 rfl ?_
    refine r_getr hC 3 (ci := 10) rfl u10_in (by decide) mT_4_238 dX10_fits_6 ka0 rfl rfl hbm ?_
    refine r_ifnonnull hC (tgt := 20) dX10_fits_9 (by decide) ?_
    refine r_aload_n hC dX10_fits_20 0 rfl ?_
    refine r_aload_n hC dX10_fits_21 0 rfl ?_
    refine r_bipush hC (v := (59)) dX10_fits_22 (by decide) (by decide) (fun x7_ e7 t7 => ?_)
    refine r_callV hC (As := [.int x7_]) (rest := [.ref a0]) (ci := 10) (c_X10_fitsUpTo g (xL X) K len I6 J R hs6 a0 ka0 x7_ hm hbm khm) mT_6_184 mT_1_10 mT_6_181 mT_6_183 mP_82 okX10_fitsUpTo ⟨by decide, by decide⟩ rfl (by show kO (K a0) = _; rw [ka0]; rfl) rfl rfl (Nat.le_of_ble_eq_true rfl) ⟨by decide, by decide⟩ dX10_fits_24 (aI1 (F := fun st M => P g X 1 27 [(0, .ref a0)] st _ _ M) (M := (K, len, I6, J, R)) fun x8_ I8 h8 => ?_)
    obtain ⟨hs8, hf8⟩ := h8
    show P g X 1 27 [(0, .ref a0)] [.int x8_, .ref a0] _ _ (K, len, I8, J, R)
    have hF8 : Fr K [(11, 0), (11, 1), (11, 2), (11, 19), (85, 999), (86, 999), (87, 999), (88, 999)] I I8 := hF6.trans hf8 rfl rfl
    refine r_callV hC (As := [.int x8_]) (rest := []) (ci := 10) (c_X10_done g (xL X) K len I8 J R hs8 a0 ka0 x8_) mT_6_79 mT_1_10 mT_6_76 mT_6_78 mP_67 okX10_done ⟨by decide, by decide⟩ rfl (by show kO (K a0) = _; rw [ka0]; rfl) rfl rfl (Nat.le_of_ble_eq_true rfl) ⟨by decide, by decide⟩ dX10_fits_27 (aI1 (F := fun st M => P g X 1 30 [(0, .ref a0)] st _ _ M) (M := (K, len, I8, J, R)) fun x9_ I9 h9 => ?_)
    obtain ⟨hs9, hf9, k9_0, k9_1, k9_2⟩ := h9
    show P g X 1 30 [(0, .ref a0)] [.int x9_] _ _ (K, len, I9, J, R)
    have hF9 : Fr K [(11, 0), (11, 1), (11, 2), (11, 19), (85, 999), (86, 999), (87, 999), (88, 999)] I I9 := hF8.trans hf9 rfl rfl
    exact r_iret hC hQ hlk hr rfl (by decide) (by decide) dX10_fits_30 ⟨_, _, rfl, rfl, ⟨hs9, hF9, (by omega)⟩⟩
set_option maxHeartbeats 4000000 in
set_option maxRecDepth 100000 in
theorem c_X10_fit (g : GG) (l : Launch) (K len : Nat → Nat) (I : Nat → Nat → Int32) (J : Nat → Nat → Int64) (R : Nat → Nat → Option Nat) (hs : Sf K len I R) (a0 : Nat) (ka0 : K a0 = 11) (x1 : Int32) : Ct g l yX10_fit cX10_fit 4 (Option.some Jvm.ClassFile.FieldType.int) rmX10_fit [.ref a0, .int x1] (K, len, I, J, R) (pI1 (K, len, I, J, R) (fun r I' => Sf K len I' R ∧ Fr K [(11, 0), (11, 1), (11, 2), (11, 19), (85, 999), (86, 999), (87, 999), (88, 999)] I I' ∧ ((I' a0 2).toInt = -1))) := by
  refine Ct_intro (by decide +kernel) (Nat.le_of_ble_eq_true rfl) (fun X hC hL hKK hNm hr hlk hQ => ?_)
  subst hL
  have hC : Cx g X cX10_fit "HillTapModel" 4 rmX10_fit := hC
  show P g X 4 0 [(0, .ref a0), (1, .int x1)] [] 0 0 (K, len, I, J, R)
  have hF : Fr K [(11, 0), (11, 1), (11, 2), (11, 19), (85, 999), (86, 999), (87, 999), (88, 999)] I I := Fr.refl
  have b_x1 := ti_rng x1
  rcases hs.2.1.2.2.1 a0 ka0 with hz | ⟨hm, hbm, khm⟩
  · refine r_aload_n hC dX10_fit_0 0 rfl ?_
    refine r_iconst hC (v := (0)) dX10_fit_1 (by decide) (by decide) (fun x1_ e1 t1 => ?_)
    refine r_puti hC 0 (ci := 10) rfl u10_in tyX10_ok nmX10 (by decide) mT_4_235 rfl rfl rfl dX10_fit_2 ka0 rfl rfl (fun I2 eI2 => ?_)
    have hs2 := hs.put0 eI2 ka0 rfl rfl rfl (by decide)
    have hF2 := hF.put eI2 ka0 rfl
    refine r_aload_n hC dX10_fit_5 0 rfl ?_
    refine r_getz hC 3 (ci := 10) rfl u10_in (by decide) mT_4_238 dX10_fit_6 ka0 rfl rfl hz ?_
    refine r_ifnonnullN hC dX10_fit_9 ?_
    refine r_aload_n hC dX10_fit_12 0 rfl ?_
    refine r_iconst hC (v := (1)) dX10_fit_13 (by decide) (by decide) (fun x3_ e3 t3 => ?_)
    refine r_callV hC (As := [.int x3_]) (rest := []) (ci := 10) (c_X10_refused g (xL X) K len I2 J R hs2 a0 ka0 x3_) mT_5_85 mT_1_10 mT_5_82 mT_5_84 mP_48 okX10_refused ⟨by decide, by decide⟩ rfl (by show kO (K a0) = _; rw [ka0]; rfl) rfl rfl (Nat.le_of_ble_eq_true rfl) ⟨by decide, by decide⟩ dX10_fit_14 (aI1 (F := fun st M => P g X 4 17 [(0, .ref a0), (1, .int x1)] st _ _ M) (M := (K, len, I2, J, R)) fun x4_ I4 h4 => ?_)
    obtain ⟨hs4, hf4, k4_0, k4_1, k4_2⟩ := h4
    show P g X 4 17 [(0, .ref a0), (1, .int x1)] [.int x4_] _ _ (K, len, I4, J, R)
    have hF4 : Fr K [(11, 0), (11, 1), (11, 2), (11, 19), (85, 999), (86, 999), (87, 999), (88, 999)] I I4 := hF2.trans hf4 rfl rfl
    exact r_iret hC hQ hlk hr rfl (by decide) (by decide) dX10_fit_17 ⟨_, _, rfl, rfl, ⟨hs4, hF4, (by omega)⟩⟩
  · obtain ⟨S0, eS0⟩ : ∃ z : Int32, z = I hm 7 := ⟨_, rfl⟩
    have fS0 : S0.toInt = (I hm 7).toInt := by rw [eS0]
    have rS0 := hs.rng khm rfl eS0
    refine r_aload_n hC dX10_fit_0 0 rfl ?_
    refine r_iconst hC (v := (0)) dX10_fit_1 (by decide) (by decide) (fun x5_ e5 t5 => ?_)
    refine r_puti hC 0 (ci := 10) rfl u10_in tyX10_ok nmX10 (by decide) mT_4_235 rfl rfl rfl dX10_fit_2 ka0 rfl rfl (fun I6 eI6 => ?_)
    have hs6 := hs.put0 eI6 ka0 rfl rfl rfl (by decide)
    have hF6 := hF.put eI6 ka0 rfl
    refine r_aload_n hC dX10_fit_5 0 rfl ?_
    refine r_getr hC 3 (ci := 10) rfl u10_in (by decide) mT_4_238 dX10_fit_6 ka0 rfl rfl hbm ?_
    refine r_ifnonnull hC (tgt := 18) dX10_fit_9 (by decide) ?_
    refine r_iconst hC (v := (0)) dX10_fit_18 (by decide) (by decide) (fun x7_ e7 t7 => ?_)
    refine r_istore_n hC (lv' := [(2, .int x7_), (0, .ref a0), (1, .int x1)]) dX10_fit_19 (by decide) rfl ?_
    refine r_iconst hC (v := (0)) dX10_fit_20 (by decide) (by decide) (fun x8_ e8 t8 => ?_)
    refine r_istore_n hC (lv' := [(3, .int x8_), (2, .int x7_), (0, .ref a0), (1, .int x1)]) dX10_fit_21 (by decide) rfl ?_
    have LP9 : ∀ (mu : Nat) (x9_3 : Int32) (x9_2 : Int32) (I9 : Nat → Nat → Int32) (hs9 : Sf K len I9 R) (hF9 : Fr K [(11, 0), (11, 1), (11, 2), (11, 19), (85, 999), (86, 999), (87, 999), (88, 999)] I I9) (v9_0 : 0 ≤ x9_3.toInt) (v9_1 : x9_3.toInt ≤ 6), (6 - x9_3.toInt).toNat = mu → P g X 4 22 [(0, .ref a0), (1, .int x1), (2, .int x9_2), (3, .int x9_3)] [] 0 0 (K, len, I9, J, R) := by
      intro mu; induction mu using Nat.strongRecOn with | ind mu ih => ?_
      intro x9_3 x9_2 I9 hs9 hF9 v9_0 v9_1 hmu
      have ih9 := ih
      clear ih
      have hmu9 := hmu
      clear hmu
      refine r_iload_n hC dX10_fit_22 3 rfl ?_
      refine r_aload_n hC dX10_fit_23 0 rfl ?_
      refine r_getr hC 3 (ci := 10) rfl u10_in (by decide) mT_4_238 dX10_fit_24 ka0 rfl rfl hbm ?_
      refine r_getiN hC 7 (ci := 9) rfl u9_in (by decide) nF_7 dX10_fit_27 khm rfl rfl (fun x10_ e10 => ?_)
      have r10 := hs9.rng khm rfl e10
      have f10 : x10_.toInt = (I9 hm 7).toInt := by rw [e10]
      have w10 : x10_ = S0 := by rw [e10]; exact (Eq.trans (hF9.get khm rfl) eS0.symm)
      have wt10 : x10_.toInt = S0.toInt := by rw [w10]
      refine r_icmp_ge hC (tgt := 66) dX10_fit_30 (by decide) (fun c11 => ?_) (fun c11 => ?_)
      · refine r_aload_n hC dX10_fit_66 0 rfl ?_
        refine r_iconst hC (v := (1)) dX10_fit_67 (by decide) (by decide) (fun x12_ e12 t12 => ?_)
        refine r_callV hC (As := [.int x12_]) (rest := []) (ci := 10) (c_X10_refused g (xL X) K len I9 J R hs9 a0 ka0 x12_) mT_5_85 mT_1_10 mT_5_82 mT_5_84 mP_48 okX10_refused ⟨by decide, by decide⟩ rfl (by show kO (K a0) = _; rw [ka0]; rfl) rfl rfl (Nat.le_of_ble_eq_true rfl) ⟨by decide, by decide⟩ dX10_fit_68 (aI1 (F := fun st M => P g X 4 71 [(0, .ref a0), (1, .int x1), (2, .int x9_2), (3, .int x9_3)] st _ _ M) (M := (K, len, I9, J, R)) fun x13_ I13 h13 => ?_)
        obtain ⟨hs13, hf13, k13_0, k13_1, k13_2⟩ := h13
        show P g X 4 71 [(0, .ref a0), (1, .int x1), (2, .int x9_2), (3, .int x9_3)] [.int x13_] _ _ (K, len, I13, J, R)
        have hF13 : Fr K [(11, 0), (11, 1), (11, 2), (11, 19), (85, 999), (86, 999), (87, 999), (88, 999)] I I13 := hF9.trans hf13 rfl rfl
        exact r_iret hC hQ hlk hr rfl (by decide) (by decide) dX10_fit_71 ⟨_, _, rfl, rfl, ⟨hs13, hF13, (by omega)⟩⟩
      · refine r_aload_n hC dX10_fit_33 0 rfl ?_
        refine r_iload_n hC dX10_fit_34 3 rfl ?_
        refine r_bipush hC (v := (59)) dX10_fit_35 (by decide) (by decide) (fun x14_ e14 t14 => ?_)
        have hv15 : I9 hm 7 = x10_ := e10.symm
        refine r_callV hC (As := [.int x9_3, .int x14_]) (rest := []) (ci := 10) (c_X10_agrees g (xL X) K len I9 J R hs9 a0 ka0 x9_3 x14_ hm hbm khm (by rw [hv15]; omega) (by omega) (by omega)) mT_6_188 mT_1_10 mT_6_185 mT_6_187 mP_83 okX10_agrees ⟨by decide, by decide⟩ rfl (by show kO (K a0) = _; rw [ka0]; rfl) rfl rfl (Nat.le_of_ble_eq_true rfl) ⟨by decide, by decide⟩ dX10_fit_37 (aI1 (F := fun st M => P g X 4 40 [(0, .ref a0), (1, .int x1), (2, .int x9_2), (3, .int x9_3)] st _ _ M) (M := (K, len, I9, J, R)) fun x16_ I16 h16 => ?_)
        obtain ⟨hs16, hf16, k16_0, k16_1⟩ := h16
        show P g X 4 40 [(0, .ref a0), (1, .int x1), (2, .int x9_2), (3, .int x9_3)] [.int x16_] _ _ (K, len, I16, J, R)
        have hF16 : Fr K [(11, 0), (11, 1), (11, 2), (11, 19), (85, 999), (86, 999), (87, 999), (88, 999)] I I16 := hF9.trans hf16 rfl rfl
        refine r_if_ne hC (tgt := 46) dX10_fit_40 (by decide) (fun c17 => ?_) (fun c17 => ?_)
        · refine r_iload_n hC dX10_fit_46 2 rfl ?_
          refine r_iload_n hC dX10_fit_47 1 rfl ?_
          refine r_icmp_ne hC (tgt := 57) dX10_fit_48 (by decide) (fun c18 => ?_) (fun c18 => ?_)
          · obtain ⟨x19_, e19⟩ : ∃ z : Int32, z = x9_2 + Int32.ofInt (1) := ⟨_, rfl⟩
            refine r_iinc hC (j := 2) (v := x19_) (lv' := [(2, .int x19_), (0, .ref a0), (1, .int x1), (3, .int x9_3)]) dX10_fit_57 rfl (by rw [e19]) (by decide) rfl ?_
            try have t19 : x19_.toInt = x9_2.toInt + (1) := by rw [e19]; exact (ti_add (b := Int32.ofInt (1)) (by show _ ≤ _ + (1 : Int); omega) (by show _ + (1 : Int) ≤ _; omega))
            obtain ⟨x20_, e20⟩ : ∃ z : Int32, z = x9_3 + Int32.ofInt (1) := ⟨_, rfl⟩
            refine r_iinc hC (j := 3) (v := x20_) (lv' := [(3, .int x20_), (2, .int x19_), (0, .ref a0), (1, .int x1)]) dX10_fit_60 rfl (by rw [e20]) (by decide) rfl ?_
            try have t20 : x20_.toInt = x9_3.toInt + (1) := by rw [e20]; exact (ti_add (b := Int32.ofInt (1)) (by show _ ≤ _ + (1 : Int); omega) (by show _ + (1 : Int) ≤ _; omega))
            refine r_goto hC (tgt := 22) dX10_fit_63 (by decide) ?_
            refine r_sub [2, 3, 1, 0] rfl ?_
            exact ih9 ((6 - x20_.toInt).toNat) (by omega) x20_ x19_ I16 hs16 hF16 (by omega) (by omega) rfl
          · refine r_aload_n hC dX10_fit_51 0 rfl ?_
            refine r_iload_n hC dX10_fit_52 3 rfl ?_
            refine r_callV hC (As := [.int x9_3]) (rest := []) (ci := 10) (c_X10_done g (xL X) K len I16 J R hs16 a0 ka0 x9_3) mT_6_79 mT_1_10 mT_6_76 mT_6_78 mP_67 okX10_done ⟨by decide, by decide⟩ rfl (by show kO (K a0) = _; rw [ka0]; rfl) rfl rfl (Nat.le_of_ble_eq_true rfl) ⟨by decide, by decide⟩ dX10_fit_53 (aI1 (F := fun st M => P g X 4 56 [(0, .ref a0), (1, .int x1), (2, .int x9_2), (3, .int x9_3)] st _ _ M) (M := (K, len, I16, J, R)) fun x21_ I21 h21 => ?_)
            obtain ⟨hs21, hf21, k21_0, k21_1, k21_2⟩ := h21
            show P g X 4 56 [(0, .ref a0), (1, .int x1), (2, .int x9_2), (3, .int x9_3)] [.int x21_] _ _ (K, len, I21, J, R)
            have hF21 : Fr K [(11, 0), (11, 1), (11, 2), (11, 19), (85, 999), (86, 999), (87, 999), (88, 999)] I I21 := hF16.trans hf21 rfl rfl
            exact r_iret hC hQ hlk hr rfl (by decide) (by decide) dX10_fit_56 ⟨_, _, rfl, rfl, ⟨hs21, hF21, (by omega)⟩⟩
        · refine r_goto hC (tgt := 60) dX10_fit_43 (by decide) ?_
          obtain ⟨x22_, e22⟩ : ∃ z : Int32, z = x9_3 + Int32.ofInt (1) := ⟨_, rfl⟩
          refine r_iinc hC (j := 3) (v := x22_) (lv' := [(3, .int x22_), (0, .ref a0), (1, .int x1), (2, .int x9_2)]) dX10_fit_60 rfl (by rw [e22]) (by decide) rfl ?_
          try have t22 : x22_.toInt = x9_3.toInt + (1) := by rw [e22]; exact (ti_add (b := Int32.ofInt (1)) (by show _ ≤ _ + (1 : Int); omega) (by show _ + (1 : Int) ≤ _; omega))
          refine r_goto hC (tgt := 22) dX10_fit_63 (by decide) ?_
          refine r_sub [1, 2, 3, 0] rfl ?_
          exact ih9 ((6 - x22_.toInt).toNat) (by omega) x22_ x9_2 I16 hs16 hF16 (by omega) (by omega) rfl
    refine r_sub [2, 3, 1, 0] rfl ?_
    exact LP9 _ x8_ x7_ I6 hs6 hF6 (by omega) (by omega) rfl
set_option maxHeartbeats 4000000 in
set_option maxRecDepth 100000 in
theorem c_X10_weight (g : GG) (l : Launch) (K len : Nat → Nat) (I : Nat → Nat → Int32) (J : Nat → Nat → Int64) (R : Nat → Nat → Option Nat) (hs : Sf K len I R) (a0 : Nat) (ka0 : K a0 = 11) (x1 : Int32) : Ct g l yX10_weight cX10_weight 2 (Option.some Jvm.ClassFile.FieldType.int) rmX10_weight [.ref a0, .int x1] (K, len, I, J, R) (pI1 (K, len, I, J, R) (fun r I' => Sf K len I' R ∧ Fr K [(11, 0), (11, 1), (11, 2), (11, 19), (85, 999), (86, 999), (87, 999), (88, 999), (93, 999)] I I' ∧ ((I' a0 2).toInt = -1))) := by
  refine Ct_intro (by decide +kernel) (Nat.le_of_ble_eq_true rfl) (fun X hC hL hKK hNm hr hlk hQ => ?_)
  subst hL
  have hC : Cx g X cX10_weight "HillTapModel" 2 rmX10_weight := hC
  show P g X 2 0 [(0, .ref a0), (1, .int x1)] [] 0 0 (K, len, I, J, R)
  have hF : Fr K [(11, 0), (11, 1), (11, 2), (11, 19), (85, 999), (86, 999), (87, 999), (88, 999), (93, 999)] I I := Fr.refl
  have b_x1 := ti_rng x1
  rcases hs.2.1.2.2.1 a0 ka0 with hz | ⟨hm, hbm, khm⟩
  · refine r_aload_n hC dX10_weight_0 0 rfl ?_
    refine r_iconst hC (v := (0)) dX10_weight_1 (by decide) (by decide) (fun x1_ e1 t1 => ?_)
    refine r_puti hC 0 (ci := 10) rfl u10_in tyX10_ok nmX10 (by decide) mT_4_235 rfl rfl rfl dX10_weight_2 ka0 rfl rfl (fun I2 eI2 => ?_)
    have hs2 := hs.put0 eI2 ka0 rfl rfl rfl (by decide)
    have hF2 := hF.put eI2 ka0 rfl
    refine r_aload_n hC dX10_weight_5 0 rfl ?_
    refine r_getz hC 3 (ci := 10) rfl u10_in (by decide) mT_4_238 dX10_weight_6 ka0 rfl rfl hz ?_
    refine r_ifnullN hC (tgt := 25) dX10_weight_9 (by decide) ?_
    refine r_aload_n hC dX10_weight_25 0 rfl ?_
    refine r_iconst hC (v := (1)) dX10_weight_26 (by decide) (by decide) (fun x3_ e3 t3 => ?_)
    refine r_callV hC (As := [.int x3_]) (rest := []) (ci := 10) (c_X10_refused g (xL X) K len I2 J R hs2 a0 ka0 x3_) mT_5_85 mT_1_10 mT_5_82 mT_5_84 mP_48 okX10_refused ⟨by decide, by decide⟩ rfl (by show kO (K a0) = _; rw [ka0]; rfl) rfl rfl (Nat.le_of_ble_eq_true rfl) ⟨by decide, by decide⟩ dX10_weight_27 (aI1 (F := fun st M => P g X 2 30 [(0, .ref a0), (1, .int x1)] st _ _ M) (M := (K, len, I2, J, R)) fun x4_ I4 h4 => ?_)
    obtain ⟨hs4, hf4, k4_0, k4_1, k4_2⟩ := h4
    show P g X 2 30 [(0, .ref a0), (1, .int x1)] [.int x4_] _ _ (K, len, I4, J, R)
    have hF4 : Fr K [(11, 0), (11, 1), (11, 2), (11, 19), (85, 999), (86, 999), (87, 999), (88, 999), (93, 999)] I I4 := hF2.trans hf4 rfl rfl
    exact r_iret hC hQ hlk hr rfl (by decide) (by decide) dX10_weight_30 ⟨_, _, rfl, rfl, ⟨hs4, hF4, (by omega)⟩⟩
  · obtain ⟨S0, eS0⟩ : ∃ z : Int32, z = I hm 7 := ⟨_, rfl⟩
    have fS0 : S0.toInt = (I hm 7).toInt := by rw [eS0]
    have rS0 := hs.rng khm rfl eS0
    refine r_aload_n hC dX10_weight_0 0 rfl ?_
    refine r_iconst hC (v := (0)) dX10_weight_1 (by decide) (by decide) (fun x5_ e5 t5 => ?_)
    refine r_puti hC 0 (ci := 10) rfl u10_in tyX10_ok nmX10 (by decide) mT_4_235 rfl rfl rfl dX10_weight_2 ka0 rfl rfl (fun I6 eI6 => ?_)
    have hs6 := hs.put0 eI6 ka0 rfl rfl rfl (by decide)
    have hF6 := hF.put eI6 ka0 rfl
    refine r_aload_n hC dX10_weight_5 0 rfl ?_
    refine r_getr hC 3 (ci := 10) rfl u10_in (by decide) mT_4_238 dX10_weight_6 ka0 rfl rfl hbm ?_
    refine r_ifnull hC dX10_weight_9 ?_
    refine r_iload_n hC dX10_weight_12 1 rfl ?_
    refine r_iconst hC (v := (-1)) dX10_weight_13 (by decide) (by decide) (fun x7_ e7 t7 => ?_)
    refine r_icmp_eq hC (tgt := 31) dX10_weight_14 (by decide) (fun c8 => ?_) (fun c8 => ?_)
    · refine r_iload_n hC dX10_weight_31 1 rfl ?_
      refine r_iconst hC (v := (-1)) dX10_weight_32 (by decide) (by decide) (fun x9_ e9 t9 => ?_)
      refine r_icmp_ne hC (tgt := 45) dX10_weight_33 (by decide) (fun c10 => ?_) (fun c10 => ?_)
      · refine r_aload_n hC dX10_weight_45 0 rfl ?_
        refine r_aload_n hC dX10_weight_46 0 rfl ?_
        refine r_iload_n hC dX10_weight_47 1 rfl ?_
        refine r_bipush hC (v := (59)) dX10_weight_48 (by decide) (by decide) (fun x11_ e11 t11 => ?_)
        have hv12 : I6 hm 7 = S0 := (Eq.trans (up2_kk eI6 ka0 khm (by decide)) eS0.symm)
        refine r_callV hC (As := [.int x1, .int x11_]) (rest := [.ref a0]) (ci := 10) (c_X10_agrees g (xL X) K len I6 J R hs6 a0 ka0 x1 x11_ hm hbm khm (by rw [hv12]; omega) (by omega) (by omega)) mT_6_188 mT_1_10 mT_6_185 mT_6_187 mP_83 okX10_agrees ⟨by decide, by decide⟩ rfl (by show kO (K a0) = _; rw [ka0]; rfl) rfl rfl (Nat.le_of_ble_eq_true rfl) ⟨by decide, by decide⟩ dX10_weight_50 (aI1 (F := fun st M => P g X 2 53 [(0, .ref a0), (1, .int x1)] st _ _ M) (M := (K, len, I6, J, R)) fun x13_ I13 h13 => ?_)
        obtain ⟨hs13, hf13, k13_0, k13_1⟩ := h13
        show P g X 2 53 [(0, .ref a0), (1, .int x1)] [.int x13_, .ref a0] _ _ (K, len, I13, J, R)
        have hF13 : Fr K [(11, 0), (11, 1), (11, 2), (11, 19), (85, 999), (86, 999), (87, 999), (88, 999), (93, 999)] I I13 := hF6.trans hf13 rfl rfl
        refine r_if_eq hC (tgt := 68) dX10_weight_53 (by decide) (fun c14 => ?_) (fun c14 => ?_)
        · refine r_iconst hC (v := (0)) dX10_weight_68 (by decide) (by decide) (fun x15_ e15 t15 => ?_)
          refine r_callV hC (As := [.int x15_]) (rest := []) (ci := 10) (c_X10_done g (xL X) K len I13 J R hs13 a0 ka0 x15_) mT_6_79 mT_1_10 mT_6_76 mT_6_78 mP_67 okX10_done ⟨by decide, by decide⟩ rfl (by show kO (K a0) = _; rw [ka0]; rfl) rfl rfl (Nat.le_of_ble_eq_true rfl) ⟨by decide, by decide⟩ dX10_weight_69 (aI1 (F := fun st M => P g X 2 72 [(0, .ref a0), (1, .int x1)] st _ _ M) (M := (K, len, I13, J, R)) fun x16_ I16 h16 => ?_)
          obtain ⟨hs16, hf16, k16_0, k16_1, k16_2⟩ := h16
          show P g X 2 72 [(0, .ref a0), (1, .int x1)] [.int x16_] _ _ (K, len, I16, J, R)
          have hF16 : Fr K [(11, 0), (11, 1), (11, 2), (11, 19), (85, 999), (86, 999), (87, 999), (88, 999), (93, 999)] I I16 := hF13.trans hf16 rfl rfl
          exact r_iret hC hQ hlk hr rfl (by decide) (by decide) dX10_weight_72 ⟨_, _, rfl, rfl, ⟨hs16, hF16, (by omega)⟩⟩
        · refine r_aload_n hC dX10_weight_56 0 rfl ?_
          refine r_getr hC 3 (ci := 10) rfl u10_in (by decide) mT_4_238 dX10_weight_57 ka0 rfl rfl hbm ?_
          obtain ⟨a17_, hb17, hk17, hn17⟩ := hs13.row khm 16 75 6 (by decide) (by decide)
          refine r_getrN hC 16 (ci := 9) rfl u9_in (by decide) nF_16 dX10_weight_60 khm rfl rfl hb17 ?_
          refine r_iload_n hC dX10_weight_63 1 rfl ?_
          refine x_iaload hC hk17 hn17 (by decide) rfl rfl dX10_weight_64 (by omega) (by omega) (fun x18_ e18 => ?_)
          refine r_goto hC (tgt := 69) dX10_weight_65 (by decide) ?_
          refine r_callV hC (As := [.int x18_]) (rest := []) (ci := 10) (c_X10_done g (xL X) K len I13 J R hs13 a0 ka0 x18_) mT_6_79 mT_1_10 mT_6_76 mT_6_78 mP_67 okX10_done ⟨by decide, by decide⟩ rfl (by show kO (K a0) = _; rw [ka0]; rfl) rfl rfl (Nat.le_of_ble_eq_true rfl) ⟨by decide, by decide⟩ dX10_weight_69 (aI1 (F := fun st M => P g X 2 72 [(0, .ref a0), (1, .int x1)] st _ _ M) (M := (K, len, I13, J, R)) fun x19_ I19 h19 => ?_)
          obtain ⟨hs19, hf19, k19_0, k19_1, k19_2⟩ := h19
          show P g X 2 72 [(0, .ref a0), (1, .int x1)] [.int x19_] _ _ (K, len, I19, J, R)
          have hF19 : Fr K [(11, 0), (11, 1), (11, 2), (11, 19), (85, 999), (86, 999), (87, 999), (88, 999), (93, 999)] I I19 := hF13.trans hf19 rfl rfl
          exact r_iret hC hQ hlk hr rfl (by decide) (by decide) dX10_weight_72 ⟨_, _, rfl, rfl, ⟨hs19, hF19, (by omega)⟩⟩
      · refine r_aload_n hC dX10_weight_36 0 rfl ?_
        refine r_aload_n hC dX10_weight_37 0 rfl ?_
        refine r_callV hC (As := []) (rest := [.ref a0]) (ci := 10) (c_X10_weighs g (xL X) K len I6 J R hs6 a0 ka0 hm hbm khm) mT_6_200 mT_1_10 mT_6_197 mT_6_199 mP_84 okX10_weighs ⟨by decide, by decide⟩ rfl (by show kO (K a0) = _; rw [ka0]; rfl) rfl rfl (Nat.le_of_ble_eq_true rfl) ⟨by decide, by decide⟩ dX10_weight_38 (aI1 (F := fun st M => P g X 2 41 [(0, .ref a0), (1, .int x1)] st _ _ M) (M := (K, len, I6, J, R)) fun x20_ I20 h20 => ?_)
        obtain ⟨hs20, hf20⟩ := h20
        show P g X 2 41 [(0, .ref a0), (1, .int x1)] [.int x20_, .ref a0] _ _ (K, len, I20, J, R)
        have hF20 : Fr K [(11, 0), (11, 1), (11, 2), (11, 19), (85, 999), (86, 999), (87, 999), (88, 999), (93, 999)] I I20 := hF6.trans hf20 rfl rfl
        refine r_callV hC (As := [.int x20_]) (rest := []) (ci := 10) (c_X10_done g (xL X) K len I20 J R hs20 a0 ka0 x20_) mT_6_79 mT_1_10 mT_6_76 mT_6_78 mP_67 okX10_done ⟨by decide, by decide⟩ rfl (by show kO (K a0) = _; rw [ka0]; rfl) rfl rfl (Nat.le_of_ble_eq_true rfl) ⟨by decide, by decide⟩ dX10_weight_41 (aI1 (F := fun st M => P g X 2 44 [(0, .ref a0), (1, .int x1)] st _ _ M) (M := (K, len, I20, J, R)) fun x21_ I21 h21 => ?_)
        obtain ⟨hs21, hf21, k21_0, k21_1, k21_2⟩ := h21
        show P g X 2 44 [(0, .ref a0), (1, .int x1)] [.int x21_] _ _ (K, len, I21, J, R)
        have hF21 : Fr K [(11, 0), (11, 1), (11, 2), (11, 19), (85, 999), (86, 999), (87, 999), (88, 999), (93, 999)] I I21 := hF20.trans hf21 rfl rfl
        exact r_iret hC hQ hlk hr rfl (by decide) (by decide) dX10_weight_44 ⟨_, _, rfl, rfl, ⟨hs21, hF21, (by omega)⟩⟩
    · refine r_aload_n hC dX10_weight_17 0 rfl ?_
      refine r_iload_n hC dX10_weight_18 1 rfl ?_
      refine r_callV hC (As := [.int x1]) (rest := []) (ci := 10) (c_X10_isStory g (xL X) K len I6 J R hs6 a0 ka0 x1) mT_6_119 mT_1_10 mT_6_116 mT_6_118 mP_71 okX10_isStory ⟨by decide, by decide⟩ rfl (by show kO (K a0) = _; rw [ka0]; rfl) rfl rfl (Nat.le_of_ble_eq_true rfl) ⟨by decide, by decide⟩ dX10_weight_19 (aI0 (F := fun st M => P g X 2 22 [(0, .ref a0), (1, .int x1)] st _ _ M) (M := (K, len, I6, J, R)) fun x22_ h22 => ?_)
      obtain ⟨k22_0, k22_1, k22_2, k22_3, k22_4⟩ := h22
      show P g X 2 22 [(0, .ref a0), (1, .int x1)] [.int x22_] _ _ (K, len, I6, J, R)
      have z22 := fun h9 => k22_4 h9 hm hbm
      have vz22 : (I6 hm 7).toInt = S0.toInt := congrArg Int32.toInt (Eq.trans (up2_kk eI6 ka0 khm (by decide)) eS0.symm)
      refine r_if_ne hC (tgt := 31) dX10_weight_22 (by decide) (fun c23 => ?_) (fun c23 => ?_)
      · refine r_iload_n hC dX10_weight_31 1 rfl ?_
        refine r_iconst hC (v := (-1)) dX10_weight_32 (by decide) (by decide) (fun x24_ e24 t24 => ?_)
        refine r_icmp_ne hC (tgt := 45) dX10_weight_33 (by decide) (fun c25 => ?_) (fun c25 => ?_)
        · refine r_aload_n hC dX10_weight_45 0 rfl ?_
          refine r_aload_n hC dX10_weight_46 0 rfl ?_
          refine r_iload_n hC dX10_weight_47 1 rfl ?_
          refine r_bipush hC (v := (59)) dX10_weight_48 (by decide) (by decide) (fun x26_ e26 t26 => ?_)
          have hv27 : I6 hm 7 = S0 := (Eq.trans (up2_kk eI6 ka0 khm (by decide)) eS0.symm)
          refine r_callV hC (As := [.int x1, .int x26_]) (rest := [.ref a0]) (ci := 10) (c_X10_agrees g (xL X) K len I6 J R hs6 a0 ka0 x1 x26_ hm hbm khm (by rw [hv27]; omega) (by omega) (by omega)) mT_6_188 mT_1_10 mT_6_185 mT_6_187 mP_83 okX10_agrees ⟨by decide, by decide⟩ rfl (by show kO (K a0) = _; rw [ka0]; rfl) rfl rfl (Nat.le_of_ble_eq_true rfl) ⟨by decide, by decide⟩ dX10_weight_50 (aI1 (F := fun st M => P g X 2 53 [(0, .ref a0), (1, .int x1)] st _ _ M) (M := (K, len, I6, J, R)) fun x28_ I28 h28 => ?_)
          obtain ⟨hs28, hf28, k28_0, k28_1⟩ := h28
          show P g X 2 53 [(0, .ref a0), (1, .int x1)] [.int x28_, .ref a0] _ _ (K, len, I28, J, R)
          have hF28 : Fr K [(11, 0), (11, 1), (11, 2), (11, 19), (85, 999), (86, 999), (87, 999), (88, 999), (93, 999)] I I28 := hF6.trans hf28 rfl rfl
          refine r_if_eq hC (tgt := 68) dX10_weight_53 (by decide) (fun c29 => ?_) (fun c29 => ?_)
          · refine r_iconst hC (v := (0)) dX10_weight_68 (by decide) (by decide) (fun x30_ e30 t30 => ?_)
            refine r_callV hC (As := [.int x30_]) (rest := []) (ci := 10) (c_X10_done g (xL X) K len I28 J R hs28 a0 ka0 x30_) mT_6_79 mT_1_10 mT_6_76 mT_6_78 mP_67 okX10_done ⟨by decide, by decide⟩ rfl (by show kO (K a0) = _; rw [ka0]; rfl) rfl rfl (Nat.le_of_ble_eq_true rfl) ⟨by decide, by decide⟩ dX10_weight_69 (aI1 (F := fun st M => P g X 2 72 [(0, .ref a0), (1, .int x1)] st _ _ M) (M := (K, len, I28, J, R)) fun x31_ I31 h31 => ?_)
            obtain ⟨hs31, hf31, k31_0, k31_1, k31_2⟩ := h31
            show P g X 2 72 [(0, .ref a0), (1, .int x1)] [.int x31_] _ _ (K, len, I31, J, R)
            have hF31 : Fr K [(11, 0), (11, 1), (11, 2), (11, 19), (85, 999), (86, 999), (87, 999), (88, 999), (93, 999)] I I31 := hF28.trans hf31 rfl rfl
            exact r_iret hC hQ hlk hr rfl (by decide) (by decide) dX10_weight_72 ⟨_, _, rfl, rfl, ⟨hs31, hF31, (by omega)⟩⟩
          · refine r_aload_n hC dX10_weight_56 0 rfl ?_
            refine r_getr hC 3 (ci := 10) rfl u10_in (by decide) mT_4_238 dX10_weight_57 ka0 rfl rfl hbm ?_
            obtain ⟨a32_, hb32, hk32, hn32⟩ := hs28.row khm 16 75 6 (by decide) (by decide)
            refine r_getrN hC 16 (ci := 9) rfl u9_in (by decide) nF_16 dX10_weight_60 khm rfl rfl hb32 ?_
            refine r_iload_n hC dX10_weight_63 1 rfl ?_
            refine x_iaload hC hk32 hn32 (by decide) rfl rfl dX10_weight_64 (by omega) (by omega) (fun x33_ e33 => ?_)
            refine r_goto hC (tgt := 69) dX10_weight_65 (by decide) ?_
            refine r_callV hC (As := [.int x33_]) (rest := []) (ci := 10) (c_X10_done g (xL X) K len I28 J R hs28 a0 ka0 x33_) mT_6_79 mT_1_10 mT_6_76 mT_6_78 mP_67 okX10_done ⟨by decide, by decide⟩ rfl (by show kO (K a0) = _; rw [ka0]; rfl) rfl rfl (Nat.le_of_ble_eq_true rfl) ⟨by decide, by decide⟩ dX10_weight_69 (aI1 (F := fun st M => P g X 2 72 [(0, .ref a0), (1, .int x1)] st _ _ M) (M := (K, len, I28, J, R)) fun x34_ I34 h34 => ?_)
            obtain ⟨hs34, hf34, k34_0, k34_1, k34_2⟩ := h34
            show P g X 2 72 [(0, .ref a0), (1, .int x1)] [.int x34_] _ _ (K, len, I34, J, R)
            have hF34 : Fr K [(11, 0), (11, 1), (11, 2), (11, 19), (85, 999), (86, 999), (87, 999), (88, 999), (93, 999)] I I34 := hF28.trans hf34 rfl rfl
            exact r_iret hC hQ hlk hr rfl (by decide) (by decide) dX10_weight_72 ⟨_, _, rfl, rfl, ⟨hs34, hF34, (by omega)⟩⟩
        · refine r_aload_n hC dX10_weight_36 0 rfl ?_
          refine r_aload_n hC dX10_weight_37 0 rfl ?_
          refine r_callV hC (As := []) (rest := [.ref a0]) (ci := 10) (c_X10_weighs g (xL X) K len I6 J R hs6 a0 ka0 hm hbm khm) mT_6_200 mT_1_10 mT_6_197 mT_6_199 mP_84 okX10_weighs ⟨by decide, by decide⟩ rfl (by show kO (K a0) = _; rw [ka0]; rfl) rfl rfl (Nat.le_of_ble_eq_true rfl) ⟨by decide, by decide⟩ dX10_weight_38 (aI1 (F := fun st M => P g X 2 41 [(0, .ref a0), (1, .int x1)] st _ _ M) (M := (K, len, I6, J, R)) fun x35_ I35 h35 => ?_)
          obtain ⟨hs35, hf35⟩ := h35
          show P g X 2 41 [(0, .ref a0), (1, .int x1)] [.int x35_, .ref a0] _ _ (K, len, I35, J, R)
          have hF35 : Fr K [(11, 0), (11, 1), (11, 2), (11, 19), (85, 999), (86, 999), (87, 999), (88, 999), (93, 999)] I I35 := hF6.trans hf35 rfl rfl
          refine r_callV hC (As := [.int x35_]) (rest := []) (ci := 10) (c_X10_done g (xL X) K len I35 J R hs35 a0 ka0 x35_) mT_6_79 mT_1_10 mT_6_76 mT_6_78 mP_67 okX10_done ⟨by decide, by decide⟩ rfl (by show kO (K a0) = _; rw [ka0]; rfl) rfl rfl (Nat.le_of_ble_eq_true rfl) ⟨by decide, by decide⟩ dX10_weight_41 (aI1 (F := fun st M => P g X 2 44 [(0, .ref a0), (1, .int x1)] st _ _ M) (M := (K, len, I35, J, R)) fun x36_ I36 h36 => ?_)
          obtain ⟨hs36, hf36, k36_0, k36_1, k36_2⟩ := h36
          show P g X 2 44 [(0, .ref a0), (1, .int x1)] [.int x36_] _ _ (K, len, I36, J, R)
          have hF36 : Fr K [(11, 0), (11, 1), (11, 2), (11, 19), (85, 999), (86, 999), (87, 999), (88, 999), (93, 999)] I I36 := hF35.trans hf36 rfl rfl
          exact r_iret hC hQ hlk hr rfl (by decide) (by decide) dX10_weight_44 ⟨_, _, rfl, rfl, ⟨hs36, hF36, (by omega)⟩⟩
      · refine r_aload_n hC dX10_weight_25 0 rfl ?_
        refine r_iconst hC (v := (1)) dX10_weight_26 (by decide) (by decide) (fun x37_ e37 t37 => ?_)
        refine r_callV hC (As := [.int x37_]) (rest := []) (ci := 10) (c_X10_refused g (xL X) K len I6 J R hs6 a0 ka0 x37_) mT_5_85 mT_1_10 mT_5_82 mT_5_84 mP_48 okX10_refused ⟨by decide, by decide⟩ rfl (by show kO (K a0) = _; rw [ka0]; rfl) rfl rfl (Nat.le_of_ble_eq_true rfl) ⟨by decide, by decide⟩ dX10_weight_27 (aI1 (F := fun st M => P g X 2 30 [(0, .ref a0), (1, .int x1)] st _ _ M) (M := (K, len, I6, J, R)) fun x38_ I38 h38 => ?_)
        obtain ⟨hs38, hf38, k38_0, k38_1, k38_2⟩ := h38
        show P g X 2 30 [(0, .ref a0), (1, .int x1)] [.int x38_] _ _ (K, len, I38, J, R)
        have hF38 : Fr K [(11, 0), (11, 1), (11, 2), (11, 19), (85, 999), (86, 999), (87, 999), (88, 999), (93, 999)] I I38 := hF6.trans hf38 rfl rfl
        exact r_iret hC hQ hlk hr rfl (by decide) (by decide) dX10_weight_30 ⟨_, _, rfl, rfl, ⟨hs38, hF38, (by omega)⟩⟩
set_option maxHeartbeats 4000000 in
set_option maxRecDepth 100000 in
theorem c_X10_clear (g : GG) (l : Launch) (K len : Nat → Nat) (I : Nat → Nat → Int32) (J : Nat → Nat → Int64) (R : Nat → Nat → Option Nat) (hs : Sf K len I R) (a0 : Nat) (ka0 : K a0 = 11) : Ct g l yX10_clear cX10_clear 2 (Option.some Jvm.ClassFile.FieldType.int) rmX10_clear [.ref a0] (K, len, I, J, R) (pI1 (K, len, I, J, R) (fun r I' => Sf K len I' R ∧ Fr K [(11, 0), (11, 1), (11, 2), (11, 19), (85, 999), (86, 999), (87, 999), (88, 999)] I I' ∧ ((I' a0 2).toInt = -1))) := by
  refine Ct_intro (by decide +kernel) (Nat.le_of_ble_eq_true rfl) (fun X hC hL hKK hNm hr hlk hQ => ?_)
  subst hL
  have hC : Cx g X cX10_clear "HillTapModel" 2 rmX10_clear := hC
  show P g X 2 0 [(0, .ref a0)] [] 0 0 (K, len, I, J, R)
  have hF : Fr K [(11, 0), (11, 1), (11, 2), (11, 19), (85, 999), (86, 999), (87, 999), (88, 999)] I I := Fr.refl
  rcases hs.2.1.2.2.1 a0 ka0 with hz | ⟨hm, hbm, khm⟩
  · refine r_aload_n hC dX10_clear_0 0 rfl ?_
    refine r_iconst hC (v := (0)) dX10_clear_1 (by decide) (by decide) (fun x1_ e1 t1 => ?_)
    refine r_puti hC 0 (ci := 10) rfl u10_in tyX10_ok nmX10 (by decide) mT_4_235 rfl rfl rfl dX10_clear_2 ka0 rfl rfl (fun I2 eI2 => ?_)
    have hs2 := hs.put0 eI2 ka0 rfl rfl rfl (by decide)
    have hF2 := hF.put eI2 ka0 rfl
    refine r_aload_n hC dX10_clear_5 0 rfl ?_
    refine r_getz hC 3 (ci := 10) rfl u10_in (by decide) mT_4_238 dX10_clear_6 ka0 rfl rfl hz ?_
    refine r_ifnonnullN hC dX10_clear_9 ?_
    refine r_aload_n hC dX10_clear_12 0 rfl ?_
    refine r_iconst hC (v := (1)) dX10_clear_13 (by decide) (by decide) (fun x3_ e3 t3 => ?_)
    refine r_callV hC (As := [.int x3_]) (rest := []) (ci := 10) (c_X10_refused g (xL X) K len I2 J R hs2 a0 ka0 x3_) mT_5_85 mT_1_10 mT_5_82 mT_5_84 mP_48 okX10_refused ⟨by decide, by decide⟩ rfl (by show kO (K a0) = _; rw [ka0]; rfl) rfl rfl (Nat.le_of_ble_eq_true rfl) ⟨by decide, by decide⟩ dX10_clear_14 (aI1 (F := fun st M => P g X 2 17 [(0, .ref a0)] st _ _ M) (M := (K, len, I2, J, R)) fun x4_ I4 h4 => ?_)
    obtain ⟨hs4, hf4, k4_0, k4_1, k4_2⟩ := h4
    show P g X 2 17 [(0, .ref a0)] [.int x4_] _ _ (K, len, I4, J, R)
    have hF4 : Fr K [(11, 0), (11, 1), (11, 2), (11, 19), (85, 999), (86, 999), (87, 999), (88, 999)] I I4 := hF2.trans hf4 rfl rfl
    exact r_iret hC hQ hlk hr rfl (by decide) (by decide) dX10_clear_17 ⟨_, _, rfl, rfl, ⟨hs4, hF4, (by omega)⟩⟩
  · obtain ⟨S0, eS0⟩ : ∃ z : Int32, z = I hm 7 := ⟨_, rfl⟩
    have fS0 : S0.toInt = (I hm 7).toInt := by rw [eS0]
    have rS0 := hs.rng khm rfl eS0
    refine r_aload_n hC dX10_clear_0 0 rfl ?_
    refine r_iconst hC (v := (0)) dX10_clear_1 (by decide) (by decide) (fun x5_ e5 t5 => ?_)
    refine r_puti hC 0 (ci := 10) rfl u10_in tyX10_ok nmX10 (by decide) mT_4_235 rfl rfl rfl dX10_clear_2 ka0 rfl rfl (fun I6 eI6 => ?_)
    have hs6 := hs.put0 eI6 ka0 rfl rfl rfl (by decide)
    have hF6 := hF.put eI6 ka0 rfl
    refine r_aload_n hC dX10_clear_5 0 rfl ?_
    refine r_getr hC 3 (ci := 10) rfl u10_in (by decide) mT_4_238 dX10_clear_6 ka0 rfl rfl hbm ?_
    refine r_ifnonnull hC (tgt := 18) dX10_clear_9 (by decide) ?_
    refine r_iconst hC (v := (0)) dX10_clear_18 (by decide) (by decide) (fun x7_ e7 t7 => ?_)
    refine r_istore_n hC (lv' := [(1, .int x7_), (0, .ref a0)]) dX10_clear_19 (by decide) rfl ?_
    have LP8 : ∀ (mu : Nat) (x8_1 : Int32) (I8 : Nat → Nat → Int32) (hs8 : Sf K len I8 R) (hF8 : Fr K [(11, 0), (11, 1), (11, 2), (11, 19), (85, 999), (86, 999), (87, 999), (88, 999)] I I8) (v8_0 : 0 ≤ x8_1.toInt) (v8_1 : x8_1.toInt ≤ 60), (60 - x8_1.toInt).toNat = mu → P g X 2 20 [(0, .ref a0), (1, .int x8_1)] [] 0 0 (K, len, I8, J, R) := by
      intro mu; induction mu using Nat.strongRecOn with | ind mu ih => ?_
      intro x8_1 I8 hs8 hF8 v8_0 v8_1 hmu
      have ih8 := ih
      clear ih
      have hmu8 := hmu
      clear hmu
      refine r_iload_n hC dX10_clear_20 1 rfl ?_
      refine r_bipush hC (v := (60)) dX10_clear_21 (by decide) (by decide) (fun x9_ e9 t9 => ?_)
      refine r_icmp_ge hC (tgt := 47) dX10_clear_23 (by decide) (fun c10 => ?_) (fun c10 => ?_)
      · refine r_aload_n hC dX10_clear_47 0 rfl ?_
        refine r_bipush hC (v := (-2)) dX10_clear_48 (by decide) (by decide) (fun x11_ e11 t11 => ?_)
        refine r_callV hC (As := [.int x11_]) (rest := []) (ci := 10) (c_X10_done g (xL X) K len I8 J R hs8 a0 ka0 x11_) mT_6_79 mT_1_10 mT_6_76 mT_6_78 mP_67 okX10_done ⟨by decide, by decide⟩ rfl (by show kO (K a0) = _; rw [ka0]; rfl) rfl rfl (Nat.le_of_ble_eq_true rfl) ⟨by decide, by decide⟩ dX10_clear_50 (aI1 (F := fun st M => P g X 2 53 [(0, .ref a0), (1, .int x8_1)] st _ _ M) (M := (K, len, I8, J, R)) fun x12_ I12 h12 => ?_)
        obtain ⟨hs12, hf12, k12_0, k12_1, k12_2⟩ := h12
        show P g X 2 53 [(0, .ref a0), (1, .int x8_1)] [.int x12_] _ _ (K, len, I12, J, R)
        have hF12 : Fr K [(11, 0), (11, 1), (11, 2), (11, 19), (85, 999), (86, 999), (87, 999), (88, 999)] I I12 := hF8.trans hf12 rfl rfl
        exact r_iret hC hQ hlk hr rfl (by decide) (by decide) dX10_clear_53 ⟨_, _, rfl, rfl, ⟨hs12, hF12, (by omega)⟩⟩
      · refine r_aload_n hC dX10_clear_26 0 rfl ?_
        refine r_iload_n hC dX10_clear_27 1 rfl ?_
        refine r_callV hC (As := [.int x8_1]) (rest := []) (ci := 10) (c_X10_fitsUpTo g (xL X) K len I8 J R hs8 a0 ka0 x8_1 hm hbm khm) mT_6_184 mT_1_10 mT_6_181 mT_6_183 mP_82 okX10_fitsUpTo ⟨by decide, by decide⟩ rfl (by show kO (K a0) = _; rw [ka0]; rfl) rfl rfl (Nat.le_of_ble_eq_true rfl) ⟨by decide, by decide⟩ dX10_clear_28 (aI1 (F := fun st M => P g X 2 31 [(0, .ref a0), (1, .int x8_1)] st _ _ M) (M := (K, len, I8, J, R)) fun x13_ I13 h13 => ?_)
        obtain ⟨hs13, hf13⟩ := h13
        show P g X 2 31 [(0, .ref a0), (1, .int x8_1)] [.int x13_] _ _ (K, len, I13, J, R)
        have hF13 : Fr K [(11, 0), (11, 1), (11, 2), (11, 19), (85, 999), (86, 999), (87, 999), (88, 999)] I I13 := hF8.trans hf13 rfl rfl
        refine r_iconst hC (v := (1)) dX10_clear_31 (by decide) (by decide) (fun x14_ e14 t14 => ?_)
        refine r_icmp_ne hC (tgt := 41) dX10_clear_32 (by decide) (fun c15 => ?_) (fun c15 => ?_)
        · obtain ⟨x16_, e16⟩ : ∃ z : Int32, z = x8_1 + Int32.ofInt (1) := ⟨_, rfl⟩
          refine r_iinc hC (j := 1) (v := x16_) (lv' := [(1, .int x16_), (0, .ref a0)]) dX10_clear_41 rfl (by rw [e16]) (by decide) rfl ?_
          try have t16 : x16_.toInt = x8_1.toInt + (1) := by rw [e16]; exact (ti_add (b := Int32.ofInt (1)) (by show _ ≤ _ + (1 : Int); omega) (by show _ + (1 : Int) ≤ _; omega))
          refine r_goto hC (tgt := 20) dX10_clear_44 (by decide) ?_
          refine r_sub [1, 0] rfl ?_
          exact ih8 ((60 - x16_.toInt).toNat) (by omega) x16_ I13 hs13 hF13 (by omega) (by omega) rfl
        · refine r_aload_n hC dX10_clear_35 0 rfl ?_
          refine r_iload_n hC dX10_clear_36 1 rfl ?_
          refine r_callV hC (As := [.int x8_1]) (rest := []) (ci := 10) (c_X10_done g (xL X) K len I13 J R hs13 a0 ka0 x8_1) mT_6_79 mT_1_10 mT_6_76 mT_6_78 mP_67 okX10_done ⟨by decide, by decide⟩ rfl (by show kO (K a0) = _; rw [ka0]; rfl) rfl rfl (Nat.le_of_ble_eq_true rfl) ⟨by decide, by decide⟩ dX10_clear_37 (aI1 (F := fun st M => P g X 2 40 [(0, .ref a0), (1, .int x8_1)] st _ _ M) (M := (K, len, I13, J, R)) fun x17_ I17 h17 => ?_)
          obtain ⟨hs17, hf17, k17_0, k17_1, k17_2⟩ := h17
          show P g X 2 40 [(0, .ref a0), (1, .int x8_1)] [.int x17_] _ _ (K, len, I17, J, R)
          have hF17 : Fr K [(11, 0), (11, 1), (11, 2), (11, 19), (85, 999), (86, 999), (87, 999), (88, 999)] I I17 := hF13.trans hf17 rfl rfl
          exact r_iret hC hQ hlk hr rfl (by decide) (by decide) dX10_clear_40 ⟨_, _, rfl, rfl, ⟨hs17, hF17, (by omega)⟩⟩
    refine r_sub [1, 0] rfl ?_
    exact LP8 _ x7_ I6 hs6 hF6 (by omega) (by omega) rfl
set_option maxHeartbeats 4000000 in
set_option maxRecDepth 100000 in
theorem c_X10_lettings (g : GG) (l : Launch) (K len : Nat → Nat) (I : Nat → Nat → Int32) (J : Nat → Nat → Int64) (R : Nat → Nat → Option Nat) (hs : Sf K len I R) (a0 : Nat) (ka0 : K a0 = 11) : Ct g l yX10_lettings cX10_lettings 1 (Option.some Jvm.ClassFile.FieldType.int) rmX10_lettings [.ref a0] (K, len, I, J, R) (pI1 (K, len, I, J, R) (fun r I' => Sf K len I' R ∧ Fr K [(11, 0), (11, 1), (11, 2), (85, 999)] I I' ∧ ((I' a0 2).toInt = -1))) := by
  refine Ct_intro (by decide +kernel) (Nat.le_of_ble_eq_true rfl) (fun X hC hL hKK hNm hr hlk hQ => ?_)
  subst hL
  have hC : Cx g X cX10_lettings "HillTapModel" 1 rmX10_lettings := hC
  show P g X 1 0 [(0, .ref a0)] [] 0 0 (K, len, I, J, R)
  have hF : Fr K [(11, 0), (11, 1), (11, 2), (85, 999)] I I := Fr.refl
  rcases hs.2.1.2.2.1 a0 ka0 with hz | ⟨hm, hbm, khm⟩
  · refine r_aload_n hC dX10_lettings_0 0 rfl ?_
    refine r_iconst hC (v := (0)) dX10_lettings_1 (by decide) (by decide) (fun x1_ e1 t1 => ?_)
    refine r_puti hC 0 (ci := 10) rfl u10_in tyX10_ok nmX10 (by decide) mT_4_235 rfl rfl rfl dX10_lettings_2 ka0 rfl rfl (fun I2 eI2 => ?_)
    have hs2 := hs.put0 eI2 ka0 rfl rfl rfl (by decide)
    have hF2 := hF.put eI2 ka0 rfl
    refine r_aload_n hC dX10_lettings_5 0 rfl ?_
    refine r_getz hC 3 (ci := 10) rfl u10_in (by decide) mT_4_238 dX10_lettings_6 ka0 rfl rfl hz ?_
    refine r_ifnonnullN hC dX10_lettings_9 ?_
    refine r_aload_n hC dX10_lettings_12 0 rfl ?_
    refine r_iconst hC (v := (1)) dX10_lettings_13 (by decide) (by decide) (fun x3_ e3 t3 => ?_)
    refine r_callV hC (As := [.int x3_]) (rest := []) (ci := 10) (c_X10_refused g (xL X) K len I2 J R hs2 a0 ka0 x3_) mT_5_85 mT_1_10 mT_5_82 mT_5_84 mP_48 okX10_refused ⟨by decide, by decide⟩ rfl (by show kO (K a0) = _; rw [ka0]; rfl) rfl rfl (Nat.le_of_ble_eq_true rfl) ⟨by decide, by decide⟩ dX10_lettings_14 (aI1 (F := fun st M => P g X 1 17 [(0, .ref a0)] st _ _ M) (M := (K, len, I2, J, R)) fun x4_ I4 h4 => ?_)
    obtain ⟨hs4, hf4, k4_0, k4_1, k4_2⟩ := h4
    show P g X 1 17 [(0, .ref a0)] [.int x4_] _ _ (K, len, I4, J, R)
    have hF4 : Fr K [(11, 0), (11, 1), (11, 2), (85, 999)] I I4 := hF2.trans hf4 rfl rfl
    exact r_iret hC hQ hlk hr rfl (by decide) (by decide) dX10_lettings_17 ⟨_, _, rfl, rfl, ⟨hs4, hF4, (by omega)⟩⟩
  · obtain ⟨S0, eS0⟩ : ∃ z : Int32, z = I hm 7 := ⟨_, rfl⟩
    have fS0 : S0.toInt = (I hm 7).toInt := by rw [eS0]
    have rS0 := hs.rng khm rfl eS0
    refine r_aload_n hC dX10_lettings_0 0 rfl ?_
    refine r_iconst hC (v := (0)) dX10_lettings_1 (by decide) (by decide) (fun x5_ e5 t5 => ?_)
    refine r_puti hC 0 (ci := 10) rfl u10_in tyX10_ok nmX10 (by decide) mT_4_235 rfl rfl rfl dX10_lettings_2 ka0 rfl rfl (fun I6 eI6 => ?_)
    have hs6 := hs.put0 eI6 ka0 rfl rfl rfl (by decide)
    have hF6 := hF.put eI6 ka0 rfl
    refine r_aload_n hC dX10_lettings_5 0 rfl ?_
    refine r_getr hC 3 (ci := 10) rfl u10_in (by decide) mT_4_238 dX10_lettings_6 ka0 rfl rfl hbm ?_
    refine r_ifnonnull hC (tgt := 18) dX10_lettings_9 (by decide) ?_
    refine r_aload_n hC dX10_lettings_18 0 rfl ?_
    refine r_bipush hC (v := (60)) dX10_lettings_19 (by decide) (by decide) (fun x7_ e7 t7 => ?_)
    refine r_iconst hC (v := (-1)) dX10_lettings_21 (by decide) (by decide) (fun x8_ e8 t8 => ?_)
    refine r_callV hC (As := [.int x7_, .int x8_]) (rest := []) (ci := 10) (c_X10_fills g (xL X) K len I6 J R hs6 a0 ka0 x7_ x8_ hm hbm khm) mT_6_99 mT_1_10 mT_6_96 mT_6_98 mP_69 okX10_fills ⟨by decide, by decide⟩ rfl (by show kO (K a0) = _; rw [ka0]; rfl) rfl rfl (Nat.le_of_ble_eq_true rfl) ⟨by decide, by decide⟩ dX10_lettings_22 (aV1 (F := fun st M => P g X 1 25 [(0, .ref a0)] st _ _ M) (M := (K, len, I6, J, R)) fun I9 h9 => ?_)
    obtain ⟨hs9, hf9⟩ := h9
    show P g X 1 25 [(0, .ref a0)] [] _ _ (K, len, I9, J, R)
    have hF9 : Fr K [(11, 0), (11, 1), (11, 2), (85, 999)] I I9 := hF6.trans hf9 rfl rfl
    refine r_aload_n hC dX10_lettings_25 0 rfl ?_
    refine r_aload_n hC dX10_lettings_26 0 rfl ?_
    refine r_callV hC (As := []) (rest := [.ref a0]) (ci := 10) (c_X10_lettingsOf g (xL X) K len I9 J R hs9 a0 ka0 hm hbm khm) mT_6_212 mT_1_10 mT_6_209 mT_6_211 mP_85 okX10_lettingsOf ⟨by decide, by decide⟩ rfl (by show kO (K a0) = _; rw [ka0]; rfl) rfl rfl (Nat.le_of_ble_eq_true rfl) ⟨by decide, by decide⟩ dX10_lettings_27 (aI0 (F := fun st M => P g X 1 30 [(0, .ref a0)] st _ _ M) (M := (K, len, I9, J, R)) fun x10_ h10 => ?_)
    skip
    show P g X 1 30 [(0, .ref a0)] [.int x10_, .ref a0] _ _ (K, len, I9, J, R)
    refine r_callV hC (As := [.int x10_]) (rest := []) (ci := 10) (c_X10_done g (xL X) K len I9 J R hs9 a0 ka0 x10_) mT_6_79 mT_1_10 mT_6_76 mT_6_78 mP_67 okX10_done ⟨by decide, by decide⟩ rfl (by show kO (K a0) = _; rw [ka0]; rfl) rfl rfl (Nat.le_of_ble_eq_true rfl) ⟨by decide, by decide⟩ dX10_lettings_30 (aI1 (F := fun st M => P g X 1 33 [(0, .ref a0)] st _ _ M) (M := (K, len, I9, J, R)) fun x11_ I11 h11 => ?_)
    obtain ⟨hs11, hf11, k11_0, k11_1, k11_2⟩ := h11
    show P g X 1 33 [(0, .ref a0)] [.int x11_] _ _ (K, len, I11, J, R)
    have hF11 : Fr K [(11, 0), (11, 1), (11, 2), (85, 999)] I I11 := hF9.trans hf11 rfl rfl
    exact r_iret hC hQ hlk hr rfl (by decide) (by decide) dX10_lettings_33 ⟨_, _, rfl, rfl, ⟨hs11, hF11, (by omega)⟩⟩
set_option maxHeartbeats 4000000 in
set_option maxRecDepth 100000 in
theorem c_X10_tap (g : GG) (l : Launch) (K len : Nat → Nat) (I : Nat → Nat → Int32) (J : Nat → Nat → Int64) (R : Nat → Nat → Option Nat) (hs : Sf K len I R) (a0 : Nat) (ka0 : K a0 = 11) (x1 : Int32) : Ct g l yX10_tap cX10_tap 2 (Option.some Jvm.ClassFile.FieldType.int) rmX10_tap [.ref a0, .int x1] (K, len, I, J, R) (pI1 (K, len, I, J, R) (fun r I' => Sf K len I' R ∧ Fr K [(11, 0), (11, 1), (11, 2), (11, 19), (85, 999), (86, 999), (87, 999), (88, 999)] I I' ∧ ((I' a0 2).toInt = -1))) := by
  refine Ct_intro (by decide +kernel) (Nat.le_of_ble_eq_true rfl) (fun X hC hL hKK hNm hr hlk hQ => ?_)
  subst hL
  have hC : Cx g X cX10_tap "HillTapModel" 2 rmX10_tap := hC
  show P g X 2 0 [(0, .ref a0), (1, .int x1)] [] 0 0 (K, len, I, J, R)
  have hF : Fr K [(11, 0), (11, 1), (11, 2), (11, 19), (85, 999), (86, 999), (87, 999), (88, 999)] I I := Fr.refl
  have b_x1 := ti_rng x1
  rcases hs.2.1.2.2.1 a0 ka0 with hz | ⟨hm, hbm, khm⟩
  · refine r_aload_n hC dX10_tap_0 0 rfl ?_
    refine r_iconst hC (v := (0)) dX10_tap_1 (by decide) (by decide) (fun x1_ e1 t1 => ?_)
    refine r_puti hC 0 (ci := 10) rfl u10_in tyX10_ok nmX10 (by decide) mT_4_235 rfl rfl rfl dX10_tap_2 ka0 rfl rfl (fun I2 eI2 => ?_)
    have hs2 := hs.put0 eI2 ka0 rfl rfl rfl (by decide)
    have hF2 := hF.put eI2 ka0 rfl
    refine r_aload_n hC dX10_tap_5 0 rfl ?_
    refine r_iload_n hC dX10_tap_6 1 rfl ?_
    refine r_callV hC (As := [.int x1]) (rest := []) (ci := 10) (c_X10_isStory g (xL X) K len I2 J R hs2 a0 ka0 x1) mT_6_119 mT_1_10 mT_6_116 mT_6_118 mP_71 okX10_isStory ⟨by decide, by decide⟩ rfl (by show kO (K a0) = _; rw [ka0]; rfl) rfl rfl (Nat.le_of_ble_eq_true rfl) ⟨by decide, by decide⟩ dX10_tap_7 (aI0 (F := fun st M => P g X 2 10 [(0, .ref a0), (1, .int x1)] st _ _ M) (M := (K, len, I2, J, R)) fun x3_ h3 => ?_)
    obtain ⟨k3_0, k3_1, k3_2, k3_3, k3_4⟩ := h3
    show P g X 2 10 [(0, .ref a0), (1, .int x1)] [.int x3_] _ _ (K, len, I2, J, R)
    refine r_if_eq hC (tgt := 25) dX10_tap_10 (by decide) (fun c4 => ?_) (fun c4 => ?_)
    · refine r_aload_n hC dX10_tap_25 0 rfl ?_
      refine r_iconst hC (v := (1)) dX10_tap_26 (by decide) (by decide) (fun x5_ e5 t5 => ?_)
      refine r_callV hC (As := [.int x5_]) (rest := []) (ci := 10) (c_X10_refused g (xL X) K len I2 J R hs2 a0 ka0 x5_) mT_5_85 mT_1_10 mT_5_82 mT_5_84 mP_48 okX10_refused ⟨by decide, by decide⟩ rfl (by show kO (K a0) = _; rw [ka0]; rfl) rfl rfl (Nat.le_of_ble_eq_true rfl) ⟨by decide, by decide⟩ dX10_tap_27 (aI1 (F := fun st M => P g X 2 30 [(0, .ref a0), (1, .int x1)] st _ _ M) (M := (K, len, I2, J, R)) fun x6_ I6 h6 => ?_)
      obtain ⟨hs6, hf6, k6_0, k6_1, k6_2⟩ := h6
      show P g X 2 30 [(0, .ref a0), (1, .int x1)] [.int x6_] _ _ (K, len, I6, J, R)
      have hF6 : Fr K [(11, 0), (11, 1), (11, 2), (11, 19), (85, 999), (86, 999), (87, 999), (88, 999)] I I6 := hF2.trans hf6 rfl rfl
      exact r_iret hC hQ hlk hr rfl (by decide) (by decide) dX10_tap_30 ⟨_, _, rfl, rfl, ⟨hs6, hF6, (by omega)⟩⟩
    · refine r_aload_n hC dX10_tap_13 0 rfl ?_
      refine r_aload_n hC dX10_tap_14 0 rfl ?_
      refine r_iload_n hC dX10_tap_15 1 rfl ?_
      first | exact absurd hz (k3_2 (by omega))
  · obtain ⟨S0, eS0⟩ : ∃ z : Int32, z = I hm 7 := ⟨_, rfl⟩
    have fS0 : S0.toInt = (I hm 7).toInt := by rw [eS0]
    have rS0 := hs.rng khm rfl eS0
    refine r_aload_n hC dX10_tap_0 0 rfl ?_
    refine r_iconst hC (v := (0)) dX10_tap_1 (by decide) (by decide) (fun x7_ e7 t7 => ?_)
    refine r_puti hC 0 (ci := 10) rfl u10_in tyX10_ok nmX10 (by decide) mT_4_235 rfl rfl rfl dX10_tap_2 ka0 rfl rfl (fun I8 eI8 => ?_)
    have hs8 := hs.put0 eI8 ka0 rfl rfl rfl (by decide)
    have hF8 := hF.put eI8 ka0 rfl
    refine r_aload_n hC dX10_tap_5 0 rfl ?_
    refine r_iload_n hC dX10_tap_6 1 rfl ?_
    refine r_callV hC (As := [.int x1]) (rest := []) (ci := 10) (c_X10_isStory g (xL X) K len I8 J R hs8 a0 ka0 x1) mT_6_119 mT_1_10 mT_6_116 mT_6_118 mP_71 okX10_isStory ⟨by decide, by decide⟩ rfl (by show kO (K a0) = _; rw [ka0]; rfl) rfl rfl (Nat.le_of_ble_eq_true rfl) ⟨by decide, by decide⟩ dX10_tap_7 (aI0 (F := fun st M => P g X 2 10 [(0, .ref a0), (1, .int x1)] st _ _ M) (M := (K, len, I8, J, R)) fun x9_ h9 => ?_)
    obtain ⟨k9_0, k9_1, k9_2, k9_3, k9_4⟩ := h9
    show P g X 2 10 [(0, .ref a0), (1, .int x1)] [.int x9_] _ _ (K, len, I8, J, R)
    have z9 := fun h9 => k9_4 h9 hm hbm
    have vz9 : (I8 hm 7).toInt = S0.toInt := congrArg Int32.toInt (Eq.trans (up2_kk eI8 ka0 khm (by decide)) eS0.symm)
    refine r_if_eq hC (tgt := 25) dX10_tap_10 (by decide) (fun c10 => ?_) (fun c10 => ?_)
    · refine r_aload_n hC dX10_tap_25 0 rfl ?_
      refine r_iconst hC (v := (1)) dX10_tap_26 (by decide) (by decide) (fun x11_ e11 t11 => ?_)
      refine r_callV hC (As := [.int x11_]) (rest := []) (ci := 10) (c_X10_refused g (xL X) K len I8 J R hs8 a0 ka0 x11_) mT_5_85 mT_1_10 mT_5_82 mT_5_84 mP_48 okX10_refused ⟨by decide, by decide⟩ rfl (by show kO (K a0) = _; rw [ka0]; rfl) rfl rfl (Nat.le_of_ble_eq_true rfl) ⟨by decide, by decide⟩ dX10_tap_27 (aI1 (F := fun st M => P g X 2 30 [(0, .ref a0), (1, .int x1)] st _ _ M) (M := (K, len, I8, J, R)) fun x12_ I12 h12 => ?_)
      obtain ⟨hs12, hf12, k12_0, k12_1, k12_2⟩ := h12
      show P g X 2 30 [(0, .ref a0), (1, .int x1)] [.int x12_] _ _ (K, len, I12, J, R)
      have hF12 : Fr K [(11, 0), (11, 1), (11, 2), (11, 19), (85, 999), (86, 999), (87, 999), (88, 999)] I I12 := hF8.trans hf12 rfl rfl
      exact r_iret hC hQ hlk hr rfl (by decide) (by decide) dX10_tap_30 ⟨_, _, rfl, rfl, ⟨hs12, hF12, (by omega)⟩⟩
    · refine r_aload_n hC dX10_tap_13 0 rfl ?_
      refine r_aload_n hC dX10_tap_14 0 rfl ?_
      refine r_iload_n hC dX10_tap_15 1 rfl ?_
      have hv13 : I8 hm 7 = S0 := (Eq.trans (up2_kk eI8 ka0 khm (by decide)) eS0.symm)
      refine r_callV hC (As := [.int x1]) (rest := [.ref a0]) (ci := 10) (c_X10_tapOf g (xL X) K len I8 J R hs8 a0 ka0 x1 hm hbm khm (by rw [hv13]; omega) (by omega) (by omega)) mT_6_228 mT_1_10 mT_6_225 mT_6_227 mP_88 okX10_tapOf ⟨by decide, by decide⟩ rfl (by show kO (K a0) = _; rw [ka0]; rfl) rfl rfl (Nat.le_of_ble_eq_true rfl) ⟨by decide, by decide⟩ dX10_tap_16 (aI1 (F := fun st M => P g X 2 19 [(0, .ref a0), (1, .int x1)] st _ _ M) (M := (K, len, I8, J, R)) fun x14_ I14 h14 => ?_)
      obtain ⟨hs14, hf14⟩ := h14
      show P g X 2 19 [(0, .ref a0), (1, .int x1)] [.int x14_, .ref a0] _ _ (K, len, I14, J, R)
      have hF14 : Fr K [(11, 0), (11, 1), (11, 2), (11, 19), (85, 999), (86, 999), (87, 999), (88, 999)] I I14 := hF8.trans hf14 rfl rfl
      refine r_callV hC (As := [.int x14_]) (rest := []) (ci := 10) (c_X10_done g (xL X) K len I14 J R hs14 a0 ka0 x14_) mT_6_79 mT_1_10 mT_6_76 mT_6_78 mP_67 okX10_done ⟨by decide, by decide⟩ rfl (by show kO (K a0) = _; rw [ka0]; rfl) rfl rfl (Nat.le_of_ble_eq_true rfl) ⟨by decide, by decide⟩ dX10_tap_19 (aI1 (F := fun st M => P g X 2 22 [(0, .ref a0), (1, .int x1)] st _ _ M) (M := (K, len, I14, J, R)) fun x15_ I15 h15 => ?_)
      obtain ⟨hs15, hf15, k15_0, k15_1, k15_2⟩ := h15
      show P g X 2 22 [(0, .ref a0), (1, .int x1)] [.int x15_] _ _ (K, len, I15, J, R)
      have hF15 : Fr K [(11, 0), (11, 1), (11, 2), (11, 19), (85, 999), (86, 999), (87, 999), (88, 999)] I I15 := hF14.trans hf15 rfl rfl
      refine r_goto hC (tgt := 30) dX10_tap_22 (by decide) ?_
      exact r_iret hC hQ hlk hr rfl (by decide) (by decide) dX10_tap_30 ⟨_, _, rfl, rfl, ⟨hs15, hF15, (by omega)⟩⟩
set_option maxHeartbeats 4000000 in
set_option maxRecDepth 100000 in
theorem c_X10_fooled (g : GG) (l : Launch) (K len : Nat → Nat) (I : Nat → Nat → Int32) (J : Nat → Nat → Int64) (R : Nat → Nat → Option Nat) (hs : Sf K len I R) (a0 : Nat) (ka0 : K a0 = 11) (x1 : Int32) : Ct g l yX10_fooled cX10_fooled 3 (Option.some Jvm.ClassFile.FieldType.int) rmX10_fooled [.ref a0, .int x1] (K, len, I, J, R) (pI1 (K, len, I, J, R) (fun r I' => Sf K len I' R ∧ Fr K [(11, 0), (11, 1), (11, 2), (11, 19), (85, 999), (86, 999), (87, 999), (88, 999)] I I' ∧ ((I' a0 2).toInt = -1))) := by
  refine Ct_intro (by decide +kernel) (Nat.le_of_ble_eq_true rfl) (fun X hC hL hKK hNm hr hlk hQ => ?_)
  subst hL
  have hC : Cx g X cX10_fooled "HillTapModel" 3 rmX10_fooled := hC
  show P g X 3 0 [(0, .ref a0), (1, .int x1)] [] 0 0 (K, len, I, J, R)
  have hF : Fr K [(11, 0), (11, 1), (11, 2), (11, 19), (85, 999), (86, 999), (87, 999), (88, 999)] I I := Fr.refl
  have b_x1 := ti_rng x1
  rcases hs.2.1.2.2.1 a0 ka0 with hz | ⟨hm, hbm, khm⟩
  · refine r_aload_n hC dX10_fooled_0 0 rfl ?_
    refine r_iconst hC (v := (0)) dX10_fooled_1 (by decide) (by decide) (fun x1_ e1 t1 => ?_)
    refine r_puti hC 0 (ci := 10) rfl u10_in tyX10_ok nmX10 (by decide) mT_4_235 rfl rfl rfl dX10_fooled_2 ka0 rfl rfl (fun I2 eI2 => ?_)
    have hs2 := hs.put0 eI2 ka0 rfl rfl rfl (by decide)
    have hF2 := hF.put eI2 ka0 rfl
    refine r_aload_n hC dX10_fooled_5 0 rfl ?_
    refine r_getz hC 3 (ci := 10) rfl u10_in (by decide) mT_4_238 dX10_fooled_6 ka0 rfl rfl hz ?_
    refine r_ifnonnullN hC dX10_fooled_9 ?_
    refine r_aload_n hC dX10_fooled_12 0 rfl ?_
    refine r_iconst hC (v := (1)) dX10_fooled_13 (by decide) (by decide) (fun x3_ e3 t3 => ?_)
    refine r_callV hC (As := [.int x3_]) (rest := []) (ci := 10) (c_X10_refused g (xL X) K len I2 J R hs2 a0 ka0 x3_) mT_5_85 mT_1_10 mT_5_82 mT_5_84 mP_48 okX10_refused ⟨by decide, by decide⟩ rfl (by show kO (K a0) = _; rw [ka0]; rfl) rfl rfl (Nat.le_of_ble_eq_true rfl) ⟨by decide, by decide⟩ dX10_fooled_14 (aI1 (F := fun st M => P g X 3 17 [(0, .ref a0), (1, .int x1)] st _ _ M) (M := (K, len, I2, J, R)) fun x4_ I4 h4 => ?_)
    obtain ⟨hs4, hf4, k4_0, k4_1, k4_2⟩ := h4
    show P g X 3 17 [(0, .ref a0), (1, .int x1)] [.int x4_] _ _ (K, len, I4, J, R)
    have hF4 : Fr K [(11, 0), (11, 1), (11, 2), (11, 19), (85, 999), (86, 999), (87, 999), (88, 999)] I I4 := hF2.trans hf4 rfl rfl
    exact r_iret hC hQ hlk hr rfl (by decide) (by decide) dX10_fooled_17 ⟨_, _, rfl, rfl, ⟨hs4, hF4, (by omega)⟩⟩
  · obtain ⟨S0, eS0⟩ : ∃ z : Int32, z = I hm 7 := ⟨_, rfl⟩
    have fS0 : S0.toInt = (I hm 7).toInt := by rw [eS0]
    have rS0 := hs.rng khm rfl eS0
    refine r_aload_n hC dX10_fooled_0 0 rfl ?_
    refine r_iconst hC (v := (0)) dX10_fooled_1 (by decide) (by decide) (fun x5_ e5 t5 => ?_)
    refine r_puti hC 0 (ci := 10) rfl u10_in tyX10_ok nmX10 (by decide) mT_4_235 rfl rfl rfl dX10_fooled_2 ka0 rfl rfl (fun I6 eI6 => ?_)
    have hs6 := hs.put0 eI6 ka0 rfl rfl rfl (by decide)
    have hF6 := hF.put eI6 ka0 rfl
    refine r_aload_n hC dX10_fooled_5 0 rfl ?_
    refine r_getr hC 3 (ci := 10) rfl u10_in (by decide) mT_4_238 dX10_fooled_6 ka0 rfl rfl hbm ?_
    refine r_ifnonnull hC (tgt := 18) dX10_fooled_9 (by decide) ?_
    refine r_iload_n hC dX10_fooled_18 1 rfl ?_
    refine r_if_ge hC (tgt := 28) dX10_fooled_19 (by decide) (fun c7 => ?_) (fun c7 => ?_)
    · refine r_iconst hC (v := (0)) dX10_fooled_28 (by decide) (by decide) (fun x8_ e8 t8 => ?_)
      refine r_istore_n hC (lv' := [(2, .int x8_), (0, .ref a0), (1, .int x1)]) dX10_fooled_29 (by decide) rfl ?_
      have LP9 : ∀ (mu : Nat) (x9_2 : Int32) (I9 : Nat → Nat → Int32) (hs9 : Sf K len I9 R) (hF9 : Fr K [(11, 0), (11, 1), (11, 2), (11, 19), (85, 999), (86, 999), (87, 999), (88, 999)] I I9) (v9_0 : 0 ≤ x9_2.toInt) (v9_1 : x9_2.toInt ≤ 6), (6 - x9_2.toInt).toNat = mu → P g X 3 30 [(0, .ref a0), (1, .int x1), (2, .int x9_2)] [] 0 0 (K, len, I9, J, R) := by
        intro mu; induction mu using Nat.strongRecOn with | ind mu ih => ?_
        intro x9_2 I9 hs9 hF9 v9_0 v9_1 hmu
        have ih9 := ih
        clear ih
        have hmu9 := hmu
        clear hmu
        refine r_iload_n hC dX10_fooled_30 2 rfl ?_
        refine r_aload_n hC dX10_fooled_31 0 rfl ?_
        refine r_getr hC 3 (ci := 10) rfl u10_in (by decide) mT_4_238 dX10_fooled_32 ka0 rfl rfl hbm ?_
        refine r_getiN hC 7 (ci := 9) rfl u9_in (by decide) nF_7 dX10_fooled_35 khm rfl rfl (fun x10_ e10 => ?_)
        have r10 := hs9.rng khm rfl e10
        have f10 : x10_.toInt = (I9 hm 7).toInt := by rw [e10]
        have w10 : x10_ = S0 := by rw [e10]; exact (Eq.trans (hF9.get khm rfl) eS0.symm)
        have wt10 : x10_.toInt = S0.toInt := by rw [w10]
        refine r_icmp_ge hC (tgt := 70) dX10_fooled_38 (by decide) (fun c11 => ?_) (fun c11 => ?_)
        · refine r_aload_n hC dX10_fooled_70 0 rfl ?_
          refine r_bipush hC (v := (-2)) dX10_fooled_71 (by decide) (by decide) (fun x12_ e12 t12 => ?_)
          refine r_callV hC (As := [.int x12_]) (rest := []) (ci := 10) (c_X10_done g (xL X) K len I9 J R hs9 a0 ka0 x12_) mT_6_79 mT_1_10 mT_6_76 mT_6_78 mP_67 okX10_done ⟨by decide, by decide⟩ rfl (by show kO (K a0) = _; rw [ka0]; rfl) rfl rfl (Nat.le_of_ble_eq_true rfl) ⟨by decide, by decide⟩ dX10_fooled_73 (aI1 (F := fun st M => P g X 3 76 [(0, .ref a0), (1, .int x1), (2, .int x9_2)] st _ _ M) (M := (K, len, I9, J, R)) fun x13_ I13 h13 => ?_)
          obtain ⟨hs13, hf13, k13_0, k13_1, k13_2⟩ := h13
          show P g X 3 76 [(0, .ref a0), (1, .int x1), (2, .int x9_2)] [.int x13_] _ _ (K, len, I13, J, R)
          have hF13 : Fr K [(11, 0), (11, 1), (11, 2), (11, 19), (85, 999), (86, 999), (87, 999), (88, 999)] I I13 := hF9.trans hf13 rfl rfl
          exact r_iret hC hQ hlk hr rfl (by decide) (by decide) dX10_fooled_76 ⟨_, _, rfl, rfl, ⟨hs13, hF13, (by omega)⟩⟩
        · refine r_aload_n hC dX10_fooled_41 0 rfl ?_
          refine r_iload_n hC dX10_fooled_42 2 rfl ?_
          have hv14 : I9 hm 7 = x10_ := e10.symm
          refine r_callV hC (As := [.int x9_2]) (rest := []) (ci := 10) (c_X10_tapOf g (xL X) K len I9 J R hs9 a0 ka0 x9_2 hm hbm khm (by rw [hv14]; omega) (by omega) (by omega)) mT_6_228 mT_1_10 mT_6_225 mT_6_227 mP_88 okX10_tapOf ⟨by decide, by decide⟩ rfl (by show kO (K a0) = _; rw [ka0]; rfl) rfl rfl (Nat.le_of_ble_eq_true rfl) ⟨by decide, by decide⟩ dX10_fooled_43 (aI1 (F := fun st M => P g X 3 46 [(0, .ref a0), (1, .int x1), (2, .int x9_2)] st _ _ M) (M := (K, len, I9, J, R)) fun x15_ I15 h15 => ?_)
          obtain ⟨hs15, hf15⟩ := h15
          show P g X 3 46 [(0, .ref a0), (1, .int x1), (2, .int x9_2)] [.int x15_] _ _ (K, len, I15, J, R)
          have hF15 : Fr K [(11, 0), (11, 1), (11, 2), (11, 19), (85, 999), (86, 999), (87, 999), (88, 999)] I I15 := hF9.trans hf15 rfl rfl
          refine r_iload_n hC dX10_fooled_46 1 rfl ?_
          refine r_icmp_ne hC (tgt := 64) dX10_fooled_47 (by decide) (fun c16 => ?_) (fun c16 => ?_)
          · obtain ⟨x17_, e17⟩ : ∃ z : Int32, z = x9_2 + Int32.ofInt (1) := ⟨_, rfl⟩
            refine r_iinc hC (j := 2) (v := x17_) (lv' := [(2, .int x17_), (0, .ref a0), (1, .int x1)]) dX10_fooled_64 rfl (by rw [e17]) (by decide) rfl ?_
            try have t17 : x17_.toInt = x9_2.toInt + (1) := by rw [e17]; exact (ti_add (b := Int32.ofInt (1)) (by show _ ≤ _ + (1 : Int); omega) (by show _ + (1 : Int) ≤ _; omega))
            refine r_goto hC (tgt := 30) dX10_fooled_67 (by decide) ?_
            refine r_sub [1, 2, 0] rfl ?_
            exact ih9 ((6 - x17_.toInt).toNat) (by omega) x17_ I15 hs15 hF15 (by omega) (by omega) rfl
          · refine r_aload_n hC dX10_fooled_50 0 rfl ?_
            refine r_callV hC (As := []) (rest := []) (ci := 10) (c_X10_lettingsOf g (xL X) K len I15 J R hs15 a0 ka0 hm hbm khm) mT_6_212 mT_1_10 mT_6_209 mT_6_211 mP_85 okX10_lettingsOf ⟨by decide, by decide⟩ rfl (by show kO (K a0) = _; rw [ka0]; rfl) rfl rfl (Nat.le_of_ble_eq_true rfl) ⟨by decide, by decide⟩ dX10_fooled_51 (aI0 (F := fun st M => P g X 3 54 [(0, .ref a0), (1, .int x1), (2, .int x9_2)] st _ _ M) (M := (K, len, I15, J, R)) fun x18_ h18 => ?_)
            skip
            show P g X 3 54 [(0, .ref a0), (1, .int x1), (2, .int x9_2)] [.int x18_] _ _ (K, len, I15, J, R)
            refine r_iload_n hC dX10_fooled_54 1 rfl ?_
            refine r_icmp_le hC (tgt := 64) dX10_fooled_55 (by decide) (fun c19 => ?_) (fun c19 => ?_)
            · obtain ⟨x20_, e20⟩ : ∃ z : Int32, z = x9_2 + Int32.ofInt (1) := ⟨_, rfl⟩
              refine r_iinc hC (j := 2) (v := x20_) (lv' := [(2, .int x20_), (0, .ref a0), (1, .int x1)]) dX10_fooled_64 rfl (by rw [e20]) (by decide) rfl ?_
              try have t20 : x20_.toInt = x9_2.toInt + (1) := by rw [e20]; exact (ti_add (b := Int32.ofInt (1)) (by show _ ≤ _ + (1 : Int); omega) (by show _ + (1 : Int) ≤ _; omega))
              refine r_goto hC (tgt := 30) dX10_fooled_67 (by decide) ?_
              refine r_sub [1, 2, 0] rfl ?_
              exact ih9 ((6 - x20_.toInt).toNat) (by omega) x20_ I15 hs15 hF15 (by omega) (by omega) rfl
            · refine r_aload_n hC dX10_fooled_58 0 rfl ?_
              refine r_iload_n hC dX10_fooled_59 2 rfl ?_
              refine r_callV hC (As := [.int x9_2]) (rest := []) (ci := 10) (c_X10_done g (xL X) K len I15 J R hs15 a0 ka0 x9_2) mT_6_79 mT_1_10 mT_6_76 mT_6_78 mP_67 okX10_done ⟨by decide, by decide⟩ rfl (by show kO (K a0) = _; rw [ka0]; rfl) rfl rfl (Nat.le_of_ble_eq_true rfl) ⟨by decide, by decide⟩ dX10_fooled_60 (aI1 (F := fun st M => P g X 3 63 [(0, .ref a0), (1, .int x1), (2, .int x9_2)] st _ _ M) (M := (K, len, I15, J, R)) fun x21_ I21 h21 => ?_)
              obtain ⟨hs21, hf21, k21_0, k21_1, k21_2⟩ := h21
              show P g X 3 63 [(0, .ref a0), (1, .int x1), (2, .int x9_2)] [.int x21_] _ _ (K, len, I21, J, R)
              have hF21 : Fr K [(11, 0), (11, 1), (11, 2), (11, 19), (85, 999), (86, 999), (87, 999), (88, 999)] I I21 := hF15.trans hf21 rfl rfl
              exact r_iret hC hQ hlk hr rfl (by decide) (by decide) dX10_fooled_63 ⟨_, _, rfl, rfl, ⟨hs21, hF21, (by omega)⟩⟩
      refine r_sub [1, 2, 0] rfl ?_
      exact LP9 _ x8_ I6 hs6 hF6 (by omega) (by omega) rfl
    · refine r_aload_n hC dX10_fooled_22 0 rfl ?_
      refine r_iconst hC (v := (2)) dX10_fooled_23 (by decide) (by decide) (fun x22_ e22 t22 => ?_)
      refine r_callV hC (As := [.int x22_]) (rest := []) (ci := 10) (c_X10_refused g (xL X) K len I6 J R hs6 a0 ka0 x22_) mT_5_85 mT_1_10 mT_5_82 mT_5_84 mP_48 okX10_refused ⟨by decide, by decide⟩ rfl (by show kO (K a0) = _; rw [ka0]; rfl) rfl rfl (Nat.le_of_ble_eq_true rfl) ⟨by decide, by decide⟩ dX10_fooled_24 (aI1 (F := fun st M => P g X 3 27 [(0, .ref a0), (1, .int x1)] st _ _ M) (M := (K, len, I6, J, R)) fun x23_ I23 h23 => ?_)
      obtain ⟨hs23, hf23, k23_0, k23_1, k23_2⟩ := h23
      show P g X 3 27 [(0, .ref a0), (1, .int x1)] [.int x23_] _ _ (K, len, I23, J, R)
      have hF23 : Fr K [(11, 0), (11, 1), (11, 2), (11, 19), (85, 999), (86, 999), (87, 999), (88, 999)] I I23 := hF6.trans hf23 rfl rfl
      exact r_iret hC hQ hlk hr rfl (by decide) (by decide) dX10_fooled_27 ⟨_, _, rfl, rfl, ⟨hs23, hF23, (by omega)⟩⟩
set_option maxHeartbeats 4000000 in
set_option maxRecDepth 100000 in
theorem c_X10_nought (g : GG) (l : Launch) (K len : Nat → Nat) (I : Nat → Nat → Int32) (J : Nat → Nat → Int64) (R : Nat → Nat → Option Nat) (hs : Sf K len I R) (a0 : Nat) (ka0 : K a0 = 11) (x1 : Int32) (x2 : Int32) (x3 : Int32) : Ct g l yX10_nought cX10_nought 5 (Option.some Jvm.ClassFile.FieldType.int) rmX10_nought [.ref a0, .int x1, .int x2, .int x3] (K, len, I, J, R) (pI1 (K, len, I, J, R) (fun r I' => Sf K len I' R ∧ Fr K [(11, 0), (11, 1), (11, 2), (11, 19), (85, 999), (86, 999), (87, 999), (88, 999)] I I' ∧ ((I' a0 2).toInt = -1))) := by
  refine Ct_intro (by decide +kernel) (Nat.le_of_ble_eq_true rfl) (fun X hC hL hKK hNm hr hlk hQ => ?_)
  subst hL
  have hC : Cx g X cX10_nought "HillTapModel" 5 rmX10_nought := hC
  show P g X 5 0 [(0, .ref a0), (1, .int x1), (2, .int x2), (3, .int x3)] [] 0 0 (K, len, I, J, R)
  have hF : Fr K [(11, 0), (11, 1), (11, 2), (11, 19), (85, 999), (86, 999), (87, 999), (88, 999)] I I := Fr.refl
  have b_x1 := ti_rng x1
  have b_x2 := ti_rng x2
  have b_x3 := ti_rng x3
  rcases hs.2.1.2.2.1 a0 ka0 with hz | ⟨hm, hbm, khm⟩
  · refine r_aload_n hC dX10_nought_0 0 rfl ?_
    refine r_iconst hC (v := (0)) dX10_nought_1 (by decide) (by decide) (fun x1_ e1 t1 => ?_)
    refine r_puti hC 0 (ci := 10) rfl u10_in tyX10_ok nmX10 (by decide) mT_4_235 rfl rfl rfl dX10_nought_2 ka0 rfl rfl (fun I2 eI2 => ?_)
    have hs2 := hs.put0 eI2 ka0 rfl rfl rfl (by decide)
    have hF2 := hF.put eI2 ka0 rfl
    refine r_aload_n hC dX10_nought_5 0 rfl ?_
    refine r_iload_n hC dX10_nought_6 1 rfl ?_
    refine r_iload_n hC dX10_nought_7 2 rfl ?_
    refine r_iload_n hC dX10_nought_8 3 rfl ?_
    refine r_callV hC (As := [.int x1, .int x2, .int x3]) (rest := []) (ci := 10) (c_X10_isLine g (xL X) K len I2 J R hs2 a0 ka0 x1 x2 x3) mT_7_4 mT_1_10 mT_7_1 mT_7_3 mP_90 okX10_isLine ⟨by decide, by decide⟩ rfl (by show kO (K a0) = _; rw [ka0]; rfl) rfl rfl (Nat.le_of_ble_eq_true rfl) ⟨by decide, by decide⟩ dX10_nought_9 (aI0 (F := fun st M => P g X 5 12 [(0, .ref a0), (1, .int x1), (2, .int x2), (3, .int x3)] st _ _ M) (M := (K, len, I2, J, R)) fun x3_ h3 => ?_)
    obtain ⟨k3_0, k3_1, k3_2, k3_3, k3_4⟩ := h3
    show P g X 5 12 [(0, .ref a0), (1, .int x1), (2, .int x2), (3, .int x3)] [.int x3_] _ _ (K, len, I2, J, R)
    refine r_if_ne hC (tgt := 21) dX10_nought_12 (by decide) (fun c4 => ?_) (fun c4 => ?_)
    · refine r_aload_n hC dX10_nought_21 0 rfl ?_
      refine r_iload_n hC dX10_nought_22 1 rfl ?_
      first | exact absurd hz (k3_2 (by omega))
    · refine r_aload_n hC dX10_nought_15 0 rfl ?_
      refine r_iconst hC (v := (1)) dX10_nought_16 (by decide) (by decide) (fun x5_ e5 t5 => ?_)
      refine r_callV hC (As := [.int x5_]) (rest := []) (ci := 10) (c_X10_refused g (xL X) K len I2 J R hs2 a0 ka0 x5_) mT_5_85 mT_1_10 mT_5_82 mT_5_84 mP_48 okX10_refused ⟨by decide, by decide⟩ rfl (by show kO (K a0) = _; rw [ka0]; rfl) rfl rfl (Nat.le_of_ble_eq_true rfl) ⟨by decide, by decide⟩ dX10_nought_17 (aI1 (F := fun st M => P g X 5 20 [(0, .ref a0), (1, .int x1), (2, .int x2), (3, .int x3)] st _ _ M) (M := (K, len, I2, J, R)) fun x6_ I6 h6 => ?_)
      obtain ⟨hs6, hf6, k6_0, k6_1, k6_2⟩ := h6
      show P g X 5 20 [(0, .ref a0), (1, .int x1), (2, .int x2), (3, .int x3)] [.int x6_] _ _ (K, len, I6, J, R)
      have hF6 : Fr K [(11, 0), (11, 1), (11, 2), (11, 19), (85, 999), (86, 999), (87, 999), (88, 999)] I I6 := hF2.trans hf6 rfl rfl
      exact r_iret hC hQ hlk hr rfl (by decide) (by decide) dX10_nought_20 ⟨_, _, rfl, rfl, ⟨hs6, hF6, (by omega)⟩⟩
  · obtain ⟨S0, eS0⟩ : ∃ z : Int32, z = I hm 7 := ⟨_, rfl⟩
    have fS0 : S0.toInt = (I hm 7).toInt := by rw [eS0]
    have rS0 := hs.rng khm rfl eS0
    refine r_aload_n hC dX10_nought_0 0 rfl ?_
    refine r_iconst hC (v := (0)) dX10_nought_1 (by decide) (by decide) (fun x7_ e7 t7 => ?_)
    refine r_puti hC 0 (ci := 10) rfl u10_in tyX10_ok nmX10 (by decide) mT_4_235 rfl rfl rfl dX10_nought_2 ka0 rfl rfl (fun I8 eI8 => ?_)
    have hs8 := hs.put0 eI8 ka0 rfl rfl rfl (by decide)
    have hF8 := hF.put eI8 ka0 rfl
    refine r_aload_n hC dX10_nought_5 0 rfl ?_
    refine r_iload_n hC dX10_nought_6 1 rfl ?_
    refine r_iload_n hC dX10_nought_7 2 rfl ?_
    refine r_iload_n hC dX10_nought_8 3 rfl ?_
    refine r_callV hC (As := [.int x1, .int x2, .int x3]) (rest := []) (ci := 10) (c_X10_isLine g (xL X) K len I8 J R hs8 a0 ka0 x1 x2 x3) mT_7_4 mT_1_10 mT_7_1 mT_7_3 mP_90 okX10_isLine ⟨by decide, by decide⟩ rfl (by show kO (K a0) = _; rw [ka0]; rfl) rfl rfl (Nat.le_of_ble_eq_true rfl) ⟨by decide, by decide⟩ dX10_nought_9 (aI0 (F := fun st M => P g X 5 12 [(0, .ref a0), (1, .int x1), (2, .int x2), (3, .int x3)] st _ _ M) (M := (K, len, I8, J, R)) fun x9_ h9 => ?_)
    obtain ⟨k9_0, k9_1, k9_2, k9_3, k9_4⟩ := h9
    show P g X 5 12 [(0, .ref a0), (1, .int x1), (2, .int x2), (3, .int x3)] [.int x9_] _ _ (K, len, I8, J, R)
    have z9 := fun h9 => k9_4 h9 hm hbm
    have vz9 : (I8 hm 7).toInt = S0.toInt := congrArg Int32.toInt (Eq.trans (up2_kk eI8 ka0 khm (by decide)) eS0.symm)
    refine r_if_ne hC (tgt := 21) dX10_nought_12 (by decide) (fun c10 => ?_) (fun c10 => ?_)
    · refine r_aload_n hC dX10_nought_21 0 rfl ?_
      refine r_iload_n hC dX10_nought_22 1 rfl ?_
      have hv11 : I8 hm 7 = S0 := (Eq.trans (up2_kk eI8 ka0 khm (by decide)) eS0.symm)
      refine r_callV hC (As := [.int x1]) (rest := []) (ci := 10) (c_X10_runsAsTold g (xL X) K len I8 J R hs8 a0 ka0 x1 hm hbm khm (by rw [hv11]; omega) (by omega) (by omega)) mT_6_127 mT_1_10 mT_6_124 mT_6_126 mP_73 okX10_runsAsTold ⟨by decide, by decide⟩ rfl (by show kO (K a0) = _; rw [ka0]; rfl) rfl rfl (Nat.le_of_ble_eq_true rfl) ⟨by decide, by decide⟩ dX10_nought_23 (aV1 (F := fun st M => P g X 5 26 [(0, .ref a0), (1, .int x1), (2, .int x2), (3, .int x3)] st _ _ M) (M := (K, len, I8, J, R)) fun I12 h12 => ?_)
      obtain ⟨hs12, hf12⟩ := h12
      show P g X 5 26 [(0, .ref a0), (1, .int x1), (2, .int x2), (3, .int x3)] [] _ _ (K, len, I12, J, R)
      have hF12 : Fr K [(11, 0), (11, 1), (11, 2), (11, 19), (85, 999), (86, 999), (87, 999), (88, 999)] I I12 := hF8.trans hf12 rfl rfl
      refine r_bipush hC (v := (60)) dX10_nought_26 (by decide) (by decide) (fun x13_ e13 t13 => ?_)
      refine r_iload_n hC dX10_nought_28 2 rfl ?_
      refine r_imul hC dX10_nought_29 (fun x14_ e14 => ?_)
      try have t14 : x14_.toInt = (60) * x2.toInt := by rw [e14]; exact ti_mul (by omega) rfl (by omega) (by omega)
      refine r_iload_n hC dX10_nought_30 3 rfl ?_
      refine r_iadd hC dX10_nought_31 (fun x15_ e15 => ?_)
      try have t15 : x15_.toInt = x14_.toInt + x3.toInt := by rw [e15]; exact ti_add (by omega) (by omega)
      refine r_istore hC (lv' := [(4, .int x15_), (0, .ref a0), (1, .int x1), (2, .int x2), (3, .int x3)]) dX10_nought_32 (by decide) rfl ?_
      refine r_aload_n hC dX10_nought_34 1 rfl ?_
      refine r_iload_n hC dX10_nought_35 4 rfl ?_
      refine r_aload_n hC dX10_nought_36 1 rfl ?_
      obtain ⟨a16_, hb16, hk16, hn16⟩ := hs12.row ka0 16 86 300 (by decide) (by decide)
      refine r_getr hC 16 (ci := 10) rfl u10_in (by decide) mT_5_11 dX10_nought_37 ka0 rfl rfl hb16 ?_
      refine r_iload hC dX10_nought_40 0 rfl ?_
      refine x_iaload hC hk16 hn16 (by decide) rfl rfl dX10_nought_42 (by omega) (by omega) (fun x17_ e17 => ?_)
      refine r_aload_n hC dX10_nought_43 1 rfl ?_
      refine r_getr hC 16 (ci := 10) rfl u10_in (by decide) mT_5_11 dX10_nought_44 ka0 rfl rfl hb16 ?_
      refine r_iload hC dX10_nought_47 0 rfl ?_
      refine r_iconst hC (v := (1)) dX10_nought_49 (by decide) (by decide) (fun x18_ e18 t18 => ?_)
      refine r_iadd hC dX10_nought_50 (fun x19_ e19 => ?_)
      try have t19 : x19_.toInt = x15_.toInt + x18_.toInt := by rw [e19]; exact ti_add (by omega) (by omega)
      refine x_iaload hC hk16 hn16 (by decide) rfl rfl dX10_nought_51 (by omega) (by omega) (fun x20_ e20 => ?_)
      refine r_callS hC (As := [.int x3, .int x17_, .int x20_]) (rest := [.ref a0]) (c_X10_noughtBy g (xL X) K len I12 J R hs12 x3 x17_ x20_) mT_7_7 mT_1_10 mT_7_5 mT_7_6 okX10_noughtBy ⟨by decide, by decide⟩ rfl rfl (Nat.le_of_ble_eq_true rfl) ⟨by decide, by decide⟩ dX10_nought_52 (aI0 (F := fun st M => P g X 5 55 [(4, .int x15_), (0, .ref a0), (1, .int x1), (2, .int x2), (3, .int x3)] st _ _ M) (M := (K, len, I12, J, R)) fun x21_ h21 => ?_)
      skip
      show P g X 5 55 [(4, .int x15_), (0, .ref a0), (1, .int x1), (2, .int x2), (3, .int x3)] [.int x21_, .ref a0] _ _ (K, len, I12, J, R)
      refine r_callV hC (As := [.int x21_]) (rest := []) (ci := 10) (c_X10_done g (xL X) K len I12 J R hs12 a0 ka0 x21_) mT_6_79 mT_1_10 mT_6_76 mT_6_78 mP_67 okX10_done ⟨by decide, by decide⟩ rfl (by show kO (K a0) = _; rw [ka0]; rfl) rfl rfl (Nat.le_of_ble_eq_true rfl) ⟨by decide, by decide⟩ dX10_nought_55 (aI1 (F := fun st M => P g X 5 58 [(4, .int x15_), (0, .ref a0), (1, .int x1), (2, .int x2), (3, .int x3)] st _ _ M) (M := (K, len, I12, J, R)) fun x22_ I22 h22 => ?_)
      obtain ⟨hs22, hf22, k22_0, k22_1, k22_2⟩ := h22
      show P g X 5 58 [(4, .int x15_), (0, .ref a0), (1, .int x1), (2, .int x2), (3, .int x3)] [.int x22_] _ _ (K, len, I22, J, R)
      have hF22 : Fr K [(11, 0), (11, 1), (11, 2), (11, 19), (85, 999), (86, 999), (87, 999), (88, 999)] I I22 := hF12.trans hf22 rfl rfl
      exact r_iret hC hQ hlk hr rfl (by decide) (by decide) dX10_nought_58 ⟨_, _, rfl, rfl, ⟨hs22, hF22, (by omega)⟩⟩
    · refine r_aload_n hC dX10_nought_15 0 rfl ?_
      refine r_iconst hC (v := (1)) dX10_nought_16 (by decide) (by decide) (fun x23_ e23 t23 => ?_)
      refine r_callV hC (As := [.int x23_]) (rest := []) (ci := 10) (c_X10_refused g (xL X) K len I8 J R hs8 a0 ka0 x23_) mT_5_85 mT_1_10 mT_5_82 mT_5_84 mP_48 okX10_refused ⟨by decide, by decide⟩ rfl (by show kO (K a0) = _; rw [ka0]; rfl) rfl rfl (Nat.le_of_ble_eq_true rfl) ⟨by decide, by decide⟩ dX10_nought_17 (aI1 (F := fun st M => P g X 5 20 [(0, .ref a0), (1, .int x1), (2, .int x2), (3, .int x3)] st _ _ M) (M := (K, len, I8, J, R)) fun x24_ I24 h24 => ?_)
      obtain ⟨hs24, hf24, k24_0, k24_1, k24_2⟩ := h24
      show P g X 5 20 [(0, .ref a0), (1, .int x1), (2, .int x2), (3, .int x3)] [.int x24_] _ _ (K, len, I24, J, R)
      have hF24 : Fr K [(11, 0), (11, 1), (11, 2), (11, 19), (85, 999), (86, 999), (87, 999), (88, 999)] I I24 := hF8.trans hf24 rfl rfl
      exact r_iret hC hQ hlk hr rfl (by decide) (by decide) dX10_nought_20 ⟨_, _, rfl, rfl, ⟨hs24, hF24, (by omega)⟩⟩
set_option maxHeartbeats 4000000 in
set_option maxRecDepth 100000 in
theorem c_X10_span (g : GG) (l : Launch) (K len : Nat → Nat) (I : Nat → Nat → Int32) (J : Nat → Nat → Int64) (R : Nat → Nat → Option Nat) (hs : Sf K len I R) (a0 : Nat) (ka0 : K a0 = 11) (x1 : Int32) (x2 : Int32) (x3 : Int32) (x4 : Int32) (x5 : Int32) : Ct g l yX10_span cX10_span 11 (Option.some Jvm.ClassFile.FieldType.int) rmX10_span [.ref a0, .int x1, .int x2, .int x3, .int x4, .int x5] (K, len, I, J, R) (pI1 (K, len, I, J, R) (fun r I' => Sf K len I' R ∧ Fr K [(11, 0), (11, 1), (11, 2), (11, 19), (85, 999), (86, 999), (87, 999), (88, 999)] I I' ∧ ((I' a0 2).toInt = -1))) := by
  refine Ct_intro (by decide +kernel) (Nat.le_of_ble_eq_true rfl) (fun X hC hL hKK hNm hr hlk hQ => ?_)
  subst hL
  have hC : Cx g X cX10_span "HillTapModel" 11 rmX10_span := hC
  show P g X 11 0 [(0, .ref a0), (1, .int x1), (2, .int x2), (3, .int x3), (4, .int x4), (5, .int x5)] [] 0 0 (K, len, I, J, R)
  have hF : Fr K [(11, 0), (11, 1), (11, 2), (11, 19), (85, 999), (86, 999), (87, 999), (88, 999)] I I := Fr.refl
  have b_x1 := ti_rng x1
  have b_x2 := ti_rng x2
  have b_x3 := ti_rng x3
  have b_x4 := ti_rng x4
  have b_x5 := ti_rng x5
  rcases hs.2.1.2.2.1 a0 ka0 with hz | ⟨hm, hbm, khm⟩
  · refine r_aload_n hC dX10_span_0 0 rfl ?_
    refine r_iconst hC (v := (0)) dX10_span_1 (by decide) (by decide) (fun x1_ e1 t1 => ?_)
    refine r_puti hC 0 (ci := 10) rfl u10_in tyX10_ok nmX10 (by decide) mT_4_235 rfl rfl rfl dX10_span_2 ka0 rfl rfl (fun I2 eI2 => ?_)
    have hs2 := hs.put0 eI2 ka0 rfl rfl rfl (by decide)
    have hF2 := hF.put eI2 ka0 rfl
    refine r_aload_n hC dX10_span_5 0 rfl ?_
    refine r_iload_n hC dX10_span_6 1 rfl ?_
    refine r_iload_n hC dX10_span_7 2 rfl ?_
    refine r_iload_n hC dX10_span_8 3 rfl ?_
    refine r_callV hC (As := [.int x1, .int x2, .int x3]) (rest := []) (ci := 10) (c_X10_isLine g (xL X) K len I2 J R hs2 a0 ka0 x1 x2 x3) mT_7_4 mT_1_10 mT_7_1 mT_7_3 mP_90 okX10_isLine ⟨by decide, by decide⟩ rfl (by show kO (K a0) = _; rw [ka0]; rfl) rfl rfl (Nat.le_of_ble_eq_true rfl) ⟨by decide, by decide⟩ dX10_span_9 (aI0 (F := fun st M => P g X 11 12 [(0, .ref a0), (1, .int x1), (2, .int x2), (3, .int x3), (4, .int x4), (5, .int x5)] st _ _ M) (M := (K, len, I2, J, R)) fun x3_ h3 => ?_)
    obtain ⟨k3_0, k3_1, k3_2, k3_3, k3_4⟩ := h3
    show P g X 11 12 [(0, .ref a0), (1, .int x1), (2, .int x2), (3, .int x3), (4, .int x4), (5, .int x5)] [.int x3_] _ _ (K, len, I2, J, R)
    refine r_if_ne hC (tgt := 21) dX10_span_12 (by decide) (fun c4 => ?_) (fun c4 => ?_)
    · refine r_iload hC dX10_span_21 4 rfl ?_
      refine r_iconst hC (v := (0)) dX10_span_23 (by decide) (by decide) (fun x5_ e5 t5 => ?_)
      refine r_bipush hC (v := (20)) dX10_span_24 (by decide) (by decide) (fun x6_ e6 t6 => ?_)
      refine r_callS hC (As := [.int x4, .int x5_, .int x6_]) (rest := []) (c_X10_in g (xL X) K len I2 J R hs2 x4 x5_ x6_) mT_6_8 mT_1_10 mT_6_6 mT_6_7 okX10_in ⟨by decide, by decide⟩ rfl rfl (Nat.le_of_ble_eq_true rfl) ⟨by decide, by decide⟩ dX10_span_26 (aI0 (F := fun st M => P g X 11 29 [(0, .ref a0), (1, .int x1), (2, .int x2), (3, .int x3), (4, .int x4), (5, .int x5)] st _ _ M) (M := (K, len, I2, J, R)) fun x7_ h7 => ?_)
      obtain ⟨k7_0, k7_1, k7_2⟩ := h7
      show P g X 11 29 [(0, .ref a0), (1, .int x1), (2, .int x2), (3, .int x3), (4, .int x4), (5, .int x5)] [.int x7_] _ _ (K, len, I2, J, R)
      refine r_if_ne hC (tgt := 38) dX10_span_29 (by decide) (fun c8 => ?_) (fun c8 => ?_)
      · refine r_aload_n hC dX10_span_38 0 rfl ?_
        refine r_iload_n hC dX10_span_39 1 rfl ?_
        first | exact absurd hz (k3_2 (by omega))
      · refine r_aload_n hC dX10_span_32 0 rfl ?_
        refine r_iconst hC (v := (2)) dX10_span_33 (by decide) (by decide) (fun x9_ e9 t9 => ?_)
        refine r_callV hC (As := [.int x9_]) (rest := []) (ci := 10) (c_X10_refused g (xL X) K len I2 J R hs2 a0 ka0 x9_) mT_5_85 mT_1_10 mT_5_82 mT_5_84 mP_48 okX10_refused ⟨by decide, by decide⟩ rfl (by show kO (K a0) = _; rw [ka0]; rfl) rfl rfl (Nat.le_of_ble_eq_true rfl) ⟨by decide, by decide⟩ dX10_span_34 (aI1 (F := fun st M => P g X 11 37 [(0, .ref a0), (1, .int x1), (2, .int x2), (3, .int x3), (4, .int x4), (5, .int x5)] st _ _ M) (M := (K, len, I2, J, R)) fun x10_ I10 h10 => ?_)
        obtain ⟨hs10, hf10, k10_0, k10_1, k10_2⟩ := h10
        show P g X 11 37 [(0, .ref a0), (1, .int x1), (2, .int x2), (3, .int x3), (4, .int x4), (5, .int x5)] [.int x10_] _ _ (K, len, I10, J, R)
        have hF10 : Fr K [(11, 0), (11, 1), (11, 2), (11, 19), (85, 999), (86, 999), (87, 999), (88, 999)] I I10 := hF2.trans hf10 rfl rfl
        exact r_iret hC hQ hlk hr rfl (by decide) (by decide) dX10_span_37 ⟨_, _, rfl, rfl, ⟨hs10, hF10, (by omega)⟩⟩
    · refine r_aload_n hC dX10_span_15 0 rfl ?_
      refine r_iconst hC (v := (1)) dX10_span_16 (by decide) (by decide) (fun x11_ e11 t11 => ?_)
      refine r_callV hC (As := [.int x11_]) (rest := []) (ci := 10) (c_X10_refused g (xL X) K len I2 J R hs2 a0 ka0 x11_) mT_5_85 mT_1_10 mT_5_82 mT_5_84 mP_48 okX10_refused ⟨by decide, by decide⟩ rfl (by show kO (K a0) = _; rw [ka0]; rfl) rfl rfl (Nat.le_of_ble_eq_true rfl) ⟨by decide, by decide⟩ dX10_span_17 (aI1 (F := fun st M => P g X 11 20 [(0, .ref a0), (1, .int x1), (2, .int x2), (3, .int x3), (4, .int x4), (5, .int x5)] st _ _ M) (M := (K, len, I2, J, R)) fun x12_ I12 h12 => ?_)
      obtain ⟨hs12, hf12, k12_0, k12_1, k12_2⟩ := h12
      show P g X 11 20 [(0, .ref a0), (1, .int x1), (2, .int x2), (3, .int x3), (4, .int x4), (5, .int x5)] [.int x12_] _ _ (K, len, I12, J, R)
      have hF12 : Fr K [(11, 0), (11, 1), (11, 2), (11, 19), (85, 999), (86, 999), (87, 999), (88, 999)] I I12 := hF2.trans hf12 rfl rfl
      exact r_iret hC hQ hlk hr rfl (by decide) (by decide) dX10_span_20 ⟨_, _, rfl, rfl, ⟨hs12, hF12, (by omega)⟩⟩
  · obtain ⟨S0, eS0⟩ : ∃ z : Int32, z = I hm 7 := ⟨_, rfl⟩
    have fS0 : S0.toInt = (I hm 7).toInt := by rw [eS0]
    have rS0 := hs.rng khm rfl eS0
    refine r_aload_n hC dX10_span_0 0 rfl ?_
    refine r_iconst hC (v := (0)) dX10_span_1 (by decide) (by decide) (fun x13_ e13 t13 => ?_)
    refine r_puti hC 0 (ci := 10) rfl u10_in tyX10_ok nmX10 (by decide) mT_4_235 rfl rfl rfl dX10_span_2 ka0 rfl rfl (fun I14 eI14 => ?_)
    have hs14 := hs.put0 eI14 ka0 rfl rfl rfl (by decide)
    have hF14 := hF.put eI14 ka0 rfl
    refine r_aload_n hC dX10_span_5 0 rfl ?_
    refine r_iload_n hC dX10_span_6 1 rfl ?_
    refine r_iload_n hC dX10_span_7 2 rfl ?_
    refine r_iload_n hC dX10_span_8 3 rfl ?_
    refine r_callV hC (As := [.int x1, .int x2, .int x3]) (rest := []) (ci := 10) (c_X10_isLine g (xL X) K len I14 J R hs14 a0 ka0 x1 x2 x3) mT_7_4 mT_1_10 mT_7_1 mT_7_3 mP_90 okX10_isLine ⟨by decide, by decide⟩ rfl (by show kO (K a0) = _; rw [ka0]; rfl) rfl rfl (Nat.le_of_ble_eq_true rfl) ⟨by decide, by decide⟩ dX10_span_9 (aI0 (F := fun st M => P g X 11 12 [(0, .ref a0), (1, .int x1), (2, .int x2), (3, .int x3), (4, .int x4), (5, .int x5)] st _ _ M) (M := (K, len, I14, J, R)) fun x15_ h15 => ?_)
    obtain ⟨k15_0, k15_1, k15_2, k15_3, k15_4⟩ := h15
    show P g X 11 12 [(0, .ref a0), (1, .int x1), (2, .int x2), (3, .int x3), (4, .int x4), (5, .int x5)] [.int x15_] _ _ (K, len, I14, J, R)
    have z15 := fun h9 => k15_4 h9 hm hbm
    have vz15 : (I14 hm 7).toInt = S0.toInt := congrArg Int32.toInt (Eq.trans (up2_kk eI14 ka0 khm (by decide)) eS0.symm)
    refine r_if_ne hC (tgt := 21) dX10_span_12 (by decide) (fun c16 => ?_) (fun c16 => ?_)
    · refine r_iload hC dX10_span_21 4 rfl ?_
      refine r_iconst hC (v := (0)) dX10_span_23 (by decide) (by decide) (fun x17_ e17 t17 => ?_)
      refine r_bipush hC (v := (20)) dX10_span_24 (by decide) (by decide) (fun x18_ e18 t18 => ?_)
      refine r_callS hC (As := [.int x4, .int x17_, .int x18_]) (rest := []) (c_X10_in g (xL X) K len I14 J R hs14 x4 x17_ x18_) mT_6_8 mT_1_10 mT_6_6 mT_6_7 okX10_in ⟨by decide, by decide⟩ rfl rfl (Nat.le_of_ble_eq_true rfl) ⟨by decide, by decide⟩ dX10_span_26 (aI0 (F := fun st M => P g X 11 29 [(0, .ref a0), (1, .int x1), (2, .int x2), (3, .int x3), (4, .int x4), (5, .int x5)] st _ _ M) (M := (K, len, I14, J, R)) fun x19_ h19 => ?_)
      obtain ⟨k19_0, k19_1, k19_2⟩ := h19
      show P g X 11 29 [(0, .ref a0), (1, .int x1), (2, .int x2), (3, .int x3), (4, .int x4), (5, .int x5)] [.int x19_] _ _ (K, len, I14, J, R)
      refine r_if_ne hC (tgt := 38) dX10_span_29 (by decide) (fun c20 => ?_) (fun c20 => ?_)
      · refine r_aload_n hC dX10_span_38 0 rfl ?_
        refine r_iload_n hC dX10_span_39 1 rfl ?_
        have hv21 : I14 hm 7 = S0 := (Eq.trans (up2_kk eI14 ka0 khm (by decide)) eS0.symm)
        refine r_callV hC (As := [.int x1]) (rest := []) (ci := 10) (c_X10_runsAsTold g (xL X) K len I14 J R hs14 a0 ka0 x1 hm hbm khm (by rw [hv21]; omega) (by omega) (by omega)) mT_6_127 mT_1_10 mT_6_124 mT_6_126 mP_73 okX10_runsAsTold ⟨by decide, by decide⟩ rfl (by show kO (K a0) = _; rw [ka0]; rfl) rfl rfl (Nat.le_of_ble_eq_true rfl) ⟨by decide, by decide⟩ dX10_span_40 (aV1 (F := fun st M => P g X 11 43 [(0, .ref a0), (1, .int x1), (2, .int x2), (3, .int x3), (4, .int x4), (5, .int x5)] st _ _ M) (M := (K, len, I14, J, R)) fun I22 h22 => ?_)
        obtain ⟨hs22, hf22⟩ := h22
        show P g X 11 43 [(0, .ref a0), (1, .int x1), (2, .int x2), (3, .int x3), (4, .int x4), (5, .int x5)] [] _ _ (K, len, I22, J, R)
        have hF22 : Fr K [(11, 0), (11, 1), (11, 2), (11, 19), (85, 999), (86, 999), (87, 999), (88, 999)] I I22 := hF14.trans hf22 rfl rfl
        refine r_bipush hC (v := (60)) dX10_span_43 (by decide) (by decide) (fun x23_ e23 t23 => ?_)
        refine r_iload_n hC dX10_span_45 2 rfl ?_
        refine r_imul hC dX10_span_46 (fun x24_ e24 => ?_)
        try have t24 : x24_.toInt = (60) * x2.toInt := by rw [e24]; exact ti_mul (by omega) rfl (by omega) (by omega)
        refine r_iload_n hC dX10_span_47 3 rfl ?_
        refine r_iadd hC dX10_span_48 (fun x25_ e25 => ?_)
        try have t25 : x25_.toInt = x24_.toInt + x3.toInt := by rw [e25]; exact ti_add (by omega) (by omega)
        refine r_istore hC (lv' := [(6, .int x25_), (0, .ref a0), (1, .int x1), (2, .int x2), (3, .int x3), (4, .int x4), (5, .int x5)]) dX10_span_49 (by decide) rfl ?_
        refine r_bipush hC (v := (-2)) dX10_span_51 (by decide) (by decide) (fun x26_ e26 t26 => ?_)
        refine r_istore hC (lv' := [(7, .int x26_), (6, .int x25_), (0, .ref a0), (1, .int x1), (2, .int x2), (3, .int x3), (4, .int x4), (5, .int x5)]) dX10_span_53 (by decide) rfl ?_
        refine r_iconst hC (v := (-1)) dX10_span_55 (by decide) (by decide) (fun x27_ e27 t27 => ?_)
        refine r_istore hC (lv' := [(8, .int x27_), (7, .int x26_), (6, .int x25_), (0, .ref a0), (1, .int x1), (2, .int x2), (3, .int x3), (4, .int x4), (5, .int x5)]) dX10_span_56 (by decide) rfl ?_
        have LP28 : ∀ (mu : Nat) (x28_8 : Int32) (x28_7 : Int32) (v28_0 : -1 ≤ x28_8.toInt) (v28_1 : x28_8.toInt ≤ 2), (2 - x28_8.toInt).toNat = mu → P g X 11 58 [(0, .ref a0), (1, .int x1), (2, .int x2), (3, .int x3), (4, .int x4), (5, .int x5), (6, .int x25_), (7, .int x28_7), (8, .int x28_8)] [] 0 0 (K, len, I22, J, R) := by
          intro mu; induction mu using Nat.strongRecOn with | ind mu ih => ?_
          intro x28_8 x28_7 v28_0 v28_1 hmu
          have ih28 := ih
          clear ih
          have hmu28 := hmu
          clear hmu
          refine r_iload hC dX10_span_58 8 rfl ?_
          refine r_iconst hC (v := (1)) dX10_span_60 (by decide) (by decide) (fun x29_ e29 t29 => ?_)
          refine r_icmp_gt hC (tgt := 162) dX10_span_61 (by decide) (fun c30 => ?_) (fun c30 => ?_)
          · refine r_aload_n hC dX10_span_162 0 rfl ?_
            refine r_iload hC dX10_span_163 7 rfl ?_
            refine r_callV hC (As := [.int x28_7]) (rest := []) (ci := 10) (c_X10_done g (xL X) K len I22 J R hs22 a0 ka0 x28_7) mT_6_79 mT_1_10 mT_6_76 mT_6_78 mP_67 okX10_done ⟨by decide, by decide⟩ rfl (by show kO (K a0) = _; rw [ka0]; rfl) rfl rfl (Nat.le_of_ble_eq_true rfl) ⟨by decide, by decide⟩ dX10_span_165 (aI1 (F := fun st M => P g X 11 168 [(0, .ref a0), (1, .int x1), (2, .int x2), (3, .int x3), (4, .int x4), (5, .int x5), (6, .int x25_), (7, .int x28_7), (8, .int x28_8)] st _ _ M) (M := (K, len, I22, J, R)) fun x31_ I31 h31 => ?_)
            obtain ⟨hs31, hf31, k31_0, k31_1, k31_2⟩ := h31
            show P g X 11 168 [(0, .ref a0), (1, .int x1), (2, .int x2), (3, .int x3), (4, .int x4), (5, .int x5), (6, .int x25_), (7, .int x28_7), (8, .int x28_8)] [.int x31_] _ _ (K, len, I31, J, R)
            have hF31 : Fr K [(11, 0), (11, 1), (11, 2), (11, 19), (85, 999), (86, 999), (87, 999), (88, 999)] I I31 := hF22.trans hf31 rfl rfl
            exact r_iret hC hQ hlk hr rfl (by decide) (by decide) dX10_span_168 ⟨_, _, rfl, rfl, ⟨hs31, hF31, (by omega)⟩⟩
          · refine r_iconst hC (v := (-1)) dX10_span_64 (by decide) (by decide) (fun x32_ e32 t32 => ?_)
            refine r_istore hC (lv' := [(9, .int x32_), (0, .ref a0), (1, .int x1), (2, .int x2), (3, .int x3), (4, .int x4), (5, .int x5), (6, .int x25_), (7, .int x28_7), (8, .int x28_8)]) dX10_span_65 (by decide) rfl ?_
            have LP33 : ∀ (mu : Nat) (x33_9 : Int32) (x33_7 : Int32) (v33_0 : -1 ≤ x33_9.toInt) (v33_1 : x33_9.toInt ≤ 2), (2 - x33_9.toInt).toNat = mu → P g X 11 67 [(0, .ref a0), (1, .int x1), (2, .int x2), (3, .int x3), (4, .int x4), (5, .int x5), (6, .int x25_), (7, .int x33_7), (8, .int x28_8), (9, .int x33_9)] [] 0 0 (K, len, I22, J, R) := by
              intro mu; induction mu using Nat.strongRecOn with | ind mu ih => ?_
              intro x33_9 x33_7 v33_0 v33_1 hmu
              have ih33 := ih
              clear ih
              have hmu33 := hmu
              clear hmu
              refine r_iload hC dX10_span_67 9 rfl ?_
              refine r_iconst hC (v := (1)) dX10_span_69 (by decide) (by decide) (fun x34_ e34 t34 => ?_)
              refine r_icmp_gt hC (tgt := 156) dX10_span_70 (by decide) (fun c35 => ?_) (fun c35 => ?_)
              · obtain ⟨x36_, e36⟩ : ∃ z : Int32, z = x28_8 + Int32.ofInt (1) := ⟨_, rfl⟩
                refine r_iinc hC (j := 8) (v := x36_) (lv' := [(8, .int x36_), (0, .ref a0), (1, .int x1), (2, .int x2), (3, .int x3), (4, .int x4), (5, .int x5), (6, .int x25_), (7, .int x33_7), (9, .int x33_9)]) dX10_span_156 rfl (by rw [e36]) (by decide) rfl ?_
                try have t36 : x36_.toInt = x28_8.toInt + (1) := by rw [e36]; exact (ti_add (b := Int32.ofInt (1)) (by show _ ≤ _ + (1 : Int); omega) (by show _ + (1 : Int) ≤ _; omega))
                refine r_goto hC (tgt := 58) dX10_span_159 (by decide) ?_
                refine r_sub [1, 2, 3, 4, 5, 6, 7, 8, 0] rfl ?_
                exact ih28 ((2 - x36_.toInt).toNat) (by omega) x36_ x33_7 (by omega) (by omega) rfl
              · refine r_iload_n hC dX10_span_73 3 rfl ?_
                refine r_aload_n hC dX10_span_74 0 rfl ?_
                obtain ⟨a37_, hb37, hk37, hn37⟩ := hs22.row ka0 16 86 300 (by decide) (by decide)
                refine r_getr hC 16 (ci := 10) rfl u10_in (by decide) mT_5_11 dX10_span_75 ka0 rfl rfl hb37 ?_
                refine r_iload hC dX10_span_78 6 rfl ?_
                refine x_iaload hC hk37 hn37 (by decide) rfl rfl dX10_span_80 (by omega) (by omega) (fun x38_ e38 => ?_)
                refine r_iload hC dX10_span_81 8 rfl ?_
                refine r_iload hC dX10_span_83 4 rfl ?_
                refine r_imul hC dX10_span_85 (fun x39_ e39 => ?_)
                refine r_iadd hC dX10_span_86 (fun x40_ e40 => ?_)
                try have t40 : x40_.toInt = x38_.toInt + x39_.toInt := by rw [e40]; exact ti_add (by omega) (by omega)
                refine r_aload_n hC dX10_span_87 0 rfl ?_
                refine r_getr hC 16 (ci := 10) rfl u10_in (by decide) mT_5_11 dX10_span_88 ka0 rfl rfl hb37 ?_
                refine r_iload hC dX10_span_91 6 rfl ?_
                refine r_iconst hC (v := (1)) dX10_span_93 (by decide) (by decide) (fun x41_ e41 t41 => ?_)
                refine r_iadd hC dX10_span_94 (fun x42_ e42 => ?_)
                try have t42 : x42_.toInt = x25_.toInt + x41_.toInt := by rw [e42]; exact ti_add (by omega) (by omega)
                refine x_iaload hC hk37 hn37 (by decide) rfl rfl dX10_span_95 (by omega) (by omega) (fun x43_ e43 => ?_)
                refine r_iload hC dX10_span_96 9 rfl ?_
                refine r_iload hC dX10_span_98 4 rfl ?_
                refine r_imul hC dX10_span_100 (fun x44_ e44 => ?_)
                refine r_iadd hC dX10_span_101 (fun x45_ e45 => ?_)
                try have t45 : x45_.toInt = x43_.toInt + x44_.toInt := by rw [e45]; exact ti_add (by omega) (by omega)
                refine r_callS hC (As := [.int x3, .int x40_, .int x45_]) (rest := []) (c_X10_noughtBy g (xL X) K len I22 J R hs22 x3 x40_ x45_) mT_7_7 mT_1_10 mT_7_5 mT_7_6 okX10_noughtBy ⟨by decide, by decide⟩ rfl rfl (Nat.le_of_ble_eq_true rfl) ⟨by decide, by decide⟩ dX10_span_102 (aI0 (F := fun st M => P g X 11 105 [(0, .ref a0), (1, .int x1), (2, .int x2), (3, .int x3), (4, .int x4), (5, .int x5), (6, .int x25_), (7, .int x33_7), (8, .int x28_8), (9, .int x33_9)] st _ _ M) (M := (K, len, I22, J, R)) fun x46_ h46 => ?_)
                skip
                show P g X 11 105 [(0, .ref a0), (1, .int x1), (2, .int x2), (3, .int x3), (4, .int x4), (5, .int x5), (6, .int x25_), (7, .int x33_7), (8, .int x28_8), (9, .int x33_9)] [.int x46_] _ _ (K, len, I22, J, R)
                refine r_istore hC (lv' := [(10, .int x46_), (0, .ref a0), (1, .int x1), (2, .int x2), (3, .int x3), (4, .int x4), (5, .int x5), (6, .int x25_), (7, .int x33_7), (8, .int x28_8), (9, .int x33_9)]) dX10_span_105 (by decide) rfl ?_
                refine r_iload hC dX10_span_107 0 rfl ?_
                refine r_bipush hC (v := (-2)) dX10_span_109 (by decide) (by decide) (fun x47_ e47 t47 => ?_)
                refine r_icmp_ne hC (tgt := 117) dX10_span_111 (by decide) (fun c48 => ?_) (fun c48 => ?_)
                · refine r_iload hC dX10_span_117 8 rfl ?_
                  refine r_bipush hC (v := (-2)) dX10_span_119 (by decide) (by decide) (fun x49_ e49 t49 => ?_)
                  refine r_icmp_eq hC (tgt := 146) dX10_span_121 (by decide) (fun c50 => ?_) (fun c50 => ?_)
                  · refine r_iload hC dX10_span_146 0 rfl ?_
                    refine r_istore hC (lv' := [(7, .int x46_), (10, .int x46_), (0, .ref a0), (1, .int x1), (2, .int x2), (3, .int x3), (4, .int x4), (5, .int x5), (6, .int x25_), (8, .int x28_8), (9, .int x33_9)]) dX10_span_148 (by decide) rfl ?_
                    obtain ⟨x51_, e51⟩ : ∃ z : Int32, z = x33_9 + Int32.ofInt (1) := ⟨_, rfl⟩
                    refine r_iinc hC (j := 10) (v := x51_) (lv' := [(9, .int x51_), (7, .int x46_), (10, .int x46_), (0, .ref a0), (1, .int x1), (2, .int x2), (3, .int x3), (4, .int x4), (5, .int x5), (6, .int x25_), (8, .int x28_8)]) dX10_span_150 rfl (by rw [e51]) (by decide) rfl ?_
                    try have t51 : x51_.toInt = x33_9.toInt + (1) := by rw [e51]; exact (ti_add (b := Int32.ofInt (1)) (by show _ ≤ _ + (1 : Int); omega) (by show _ + (1 : Int) ≤ _; omega))
                    refine r_goto hC (tgt := 67) dX10_span_153 (by decide) ?_
                    refine r_sub [3, 4, 5, 6, 7, 8, 9, 1, 10, 0] rfl ?_
                    exact ih33 ((2 - x51_.toInt).toNat) (by omega) x51_ x46_ (by omega) (by omega) rfl
                  · refine r_iload hC dX10_span_124 6 rfl ?_
                    refine r_if_eq hC (tgt := 139) dX10_span_126 (by decide) (fun c52 => ?_) (fun c52 => ?_)
                    · refine r_iload hC dX10_span_139 0 rfl ?_
                      refine r_iload hC dX10_span_141 8 rfl ?_
                      refine r_icmp_ge hC (tgt := 150) dX10_span_143 (by decide) (fun c53 => ?_) (fun c53 => ?_)
                      · obtain ⟨x54_, e54⟩ : ∃ z : Int32, z = x33_9 + Int32.ofInt (1) := ⟨_, rfl⟩
                        refine r_iinc hC (j := 10) (v := x54_) (lv' := [(9, .int x54_), (10, .int x46_), (0, .ref a0), (1, .int x1), (2, .int x2), (3, .int x3), (4, .int x4), (5, .int x5), (6, .int x25_), (7, .int x33_7), (8, .int x28_8)]) dX10_span_150 rfl (by rw [e54]) (by decide) rfl ?_
                        try have t54 : x54_.toInt = x33_9.toInt + (1) := by rw [e54]; exact (ti_add (b := Int32.ofInt (1)) (by show _ ≤ _ + (1 : Int); omega) (by show _ + (1 : Int) ≤ _; omega))
                        refine r_goto hC (tgt := 67) dX10_span_153 (by decide) ?_
                        refine r_sub [2, 3, 4, 5, 6, 7, 8, 9, 10, 0] rfl ?_
                        exact ih33 ((2 - x54_.toInt).toNat) (by omega) x54_ x33_7 (by omega) (by omega) rfl
                      · refine r_iload hC dX10_span_146 0 rfl ?_
                        refine r_istore hC (lv' := [(7, .int x46_), (10, .int x46_), (0, .ref a0), (1, .int x1), (2, .int x2), (3, .int x3), (4, .int x4), (5, .int x5), (6, .int x25_), (8, .int x28_8), (9, .int x33_9)]) dX10_span_148 (by decide) rfl ?_
                        obtain ⟨x55_, e55⟩ : ∃ z : Int32, z = x33_9 + Int32.ofInt (1) := ⟨_, rfl⟩
                        refine r_iinc hC (j := 10) (v := x55_) (lv' := [(9, .int x55_), (7, .int x46_), (10, .int x46_), (0, .ref a0), (1, .int x1), (2, .int x2), (3, .int x3), (4, .int x4), (5, .int x5), (6, .int x25_), (8, .int x28_8)]) dX10_span_150 rfl (by rw [e55]) (by decide) rfl ?_
                        try have t55 : x55_.toInt = x33_9.toInt + (1) := by rw [e55]; exact (ti_add (b := Int32.ofInt (1)) (by show _ ≤ _ + (1 : Int); omega) (by show _ + (1 : Int) ≤ _; omega))
                        refine r_goto hC (tgt := 67) dX10_span_153 (by decide) ?_
                        refine r_sub [3, 4, 5, 6, 7, 8, 9, 1, 10, 0] rfl ?_
                        exact ih33 ((2 - x55_.toInt).toNat) (by omega) x55_ x46_ (by omega) (by omega) rfl
                    · refine r_iload hC dX10_span_129 0 rfl ?_
                      refine r_iload hC dX10_span_131 8 rfl ?_
                      refine r_icmp_le hC (tgt := 150) dX10_span_133 (by decide) (fun c56 => ?_) (fun c56 => ?_)
                      · obtain ⟨x57_, e57⟩ : ∃ z : Int32, z = x33_9 + Int32.ofInt (1) := ⟨_, rfl⟩
                        refine r_iinc hC (j := 10) (v := x57_) (lv' := [(9, .int x57_), (10, .int x46_), (0, .ref a0), (1, .int x1), (2, .int x2), (3, .int x3), (4, .int x4), (5, .int x5), (6, .int x25_), (7, .int x33_7), (8, .int x28_8)]) dX10_span_150 rfl (by rw [e57]) (by decide) rfl ?_
                        try have t57 : x57_.toInt = x33_9.toInt + (1) := by rw [e57]; exact (ti_add (b := Int32.ofInt (1)) (by show _ ≤ _ + (1 : Int); omega) (by show _ + (1 : Int) ≤ _; omega))
                        refine r_goto hC (tgt := 67) dX10_span_153 (by decide) ?_
                        refine r_sub [2, 3, 4, 5, 6, 7, 8, 9, 10, 0] rfl ?_
                        exact ih33 ((2 - x57_.toInt).toNat) (by omega) x57_ x33_7 (by omega) (by omega) rfl
                      · refine r_goto hC (tgt := 146) dX10_span_136 (by decide) ?_
                        refine r_iload hC dX10_span_146 0 rfl ?_
                        refine r_istore hC (lv' := [(7, .int x46_), (10, .int x46_), (0, .ref a0), (1, .int x1), (2, .int x2), (3, .int x3), (4, .int x4), (5, .int x5), (6, .int x25_), (8, .int x28_8), (9, .int x33_9)]) dX10_span_148 (by decide) rfl ?_
                        obtain ⟨x58_, e58⟩ : ∃ z : Int32, z = x33_9 + Int32.ofInt (1) := ⟨_, rfl⟩
                        refine r_iinc hC (j := 10) (v := x58_) (lv' := [(9, .int x58_), (7, .int x46_), (10, .int x46_), (0, .ref a0), (1, .int x1), (2, .int x2), (3, .int x3), (4, .int x4), (5, .int x5), (6, .int x25_), (8, .int x28_8)]) dX10_span_150 rfl (by rw [e58]) (by decide) rfl ?_
                        try have t58 : x58_.toInt = x33_9.toInt + (1) := by rw [e58]; exact (ti_add (b := Int32.ofInt (1)) (by show _ ≤ _ + (1 : Int); omega) (by show _ + (1 : Int) ≤ _; omega))
                        refine r_goto hC (tgt := 67) dX10_span_153 (by decide) ?_
                        refine r_sub [3, 4, 5, 6, 7, 8, 9, 1, 10, 0] rfl ?_
                        exact ih33 ((2 - x58_.toInt).toNat) (by omega) x58_ x46_ (by omega) (by omega) rfl
                · refine r_goto hC (tgt := 150) dX10_span_114 (by decide) ?_
                  obtain ⟨x59_, e59⟩ : ∃ z : Int32, z = x33_9 + Int32.ofInt (1) := ⟨_, rfl⟩
                  refine r_iinc hC (j := 10) (v := x59_) (lv' := [(9, .int x59_), (10, .int x46_), (0, .ref a0), (1, .int x1), (2, .int x2), (3, .int x3), (4, .int x4), (5, .int x5), (6, .int x25_), (7, .int x33_7), (8, .int x28_8)]) dX10_span_150 rfl (by rw [e59]) (by decide) rfl ?_
                  try have t59 : x59_.toInt = x33_9.toInt + (1) := by rw [e59]; exact (ti_add (b := Int32.ofInt (1)) (by show _ ≤ _ + (1 : Int); omega) (by show _ + (1 : Int) ≤ _; omega))
                  refine r_goto hC (tgt := 67) dX10_span_153 (by decide) ?_
                  refine r_sub [2, 3, 4, 5, 6, 7, 8, 9, 10, 0] rfl ?_
                  exact ih33 ((2 - x59_.toInt).toNat) (by omega) x59_ x33_7 (by omega) (by omega) rfl
            refine r_sub [1, 2, 3, 4, 5, 6, 7, 8, 9, 0] rfl ?_
            exact LP33 _ x32_ x28_7 (by omega) (by omega) rfl
        refine r_sub [3, 4, 5, 6, 7, 8, 2, 1, 0] rfl ?_
        exact LP28 _ x27_ x26_ (by omega) (by omega) rfl
      · refine r_aload_n hC dX10_span_32 0 rfl ?_
        refine r_iconst hC (v := (2)) dX10_span_33 (by decide) (by decide) (fun x60_ e60 t60 => ?_)
        refine r_callV hC (As := [.int x60_]) (rest := []) (ci := 10) (c_X10_refused g (xL X) K len I14 J R hs14 a0 ka0 x60_) mT_5_85 mT_1_10 mT_5_82 mT_5_84 mP_48 okX10_refused ⟨by decide, by decide⟩ rfl (by show kO (K a0) = _; rw [ka0]; rfl) rfl rfl (Nat.le_of_ble_eq_true rfl) ⟨by decide, by decide⟩ dX10_span_34 (aI1 (F := fun st M => P g X 11 37 [(0, .ref a0), (1, .int x1), (2, .int x2), (3, .int x3), (4, .int x4), (5, .int x5)] st _ _ M) (M := (K, len, I14, J, R)) fun x61_ I61 h61 => ?_)
        obtain ⟨hs61, hf61, k61_0, k61_1, k61_2⟩ := h61
        show P g X 11 37 [(0, .ref a0), (1, .int x1), (2, .int x2), (3, .int x3), (4, .int x4), (5, .int x5)] [.int x61_] _ _ (K, len, I61, J, R)
        have hF61 : Fr K [(11, 0), (11, 1), (11, 2), (11, 19), (85, 999), (86, 999), (87, 999), (88, 999)] I I61 := hF14.trans hf61 rfl rfl
        exact r_iret hC hQ hlk hr rfl (by decide) (by decide) dX10_span_37 ⟨_, _, rfl, rfl, ⟨hs61, hF61, (by omega)⟩⟩
    · refine r_aload_n hC dX10_span_15 0 rfl ?_
      refine r_iconst hC (v := (1)) dX10_span_16 (by decide) (by decide) (fun x62_ e62 t62 => ?_)
      refine r_callV hC (As := [.int x62_]) (rest := []) (ci := 10) (c_X10_refused g (xL X) K len I14 J R hs14 a0 ka0 x62_) mT_5_85 mT_1_10 mT_5_82 mT_5_84 mP_48 okX10_refused ⟨by decide, by decide⟩ rfl (by show kO (K a0) = _; rw [ka0]; rfl) rfl rfl (Nat.le_of_ble_eq_true rfl) ⟨by decide, by decide⟩ dX10_span_17 (aI1 (F := fun st M => P g X 11 20 [(0, .ref a0), (1, .int x1), (2, .int x2), (3, .int x3), (4, .int x4), (5, .int x5)] st _ _ M) (M := (K, len, I14, J, R)) fun x63_ I63 h63 => ?_)
      obtain ⟨hs63, hf63, k63_0, k63_1, k63_2⟩ := h63
      show P g X 11 20 [(0, .ref a0), (1, .int x1), (2, .int x2), (3, .int x3), (4, .int x4), (5, .int x5)] [.int x63_] _ _ (K, len, I63, J, R)
      have hF63 : Fr K [(11, 0), (11, 1), (11, 2), (11, 19), (85, 999), (86, 999), (87, 999), (88, 999)] I I63 := hF14.trans hf63 rfl rfl
      exact r_iret hC hQ hlk hr rfl (by decide) (by decide) dX10_span_20 ⟨_, _, rfl, rfl, ⟨hs63, hF63, (by omega)⟩⟩
set_option maxHeartbeats 4000000 in
set_option maxRecDepth 100000 in
theorem c_X10_helps (g : GG) (l : Launch) (K len : Nat → Nat) (I : Nat → Nat → Int32) (J : Nat → Nat → Int64) (R : Nat → Nat → Option Nat) (hs : Sf K len I R) (a0 : Nat) (ka0 : K a0 = 11) (x1 : Int32) (x2 : Int32) : Ct g l yX10_helps cX10_helps 3 (Option.some Jvm.ClassFile.FieldType.int) rmX10_helps [.ref a0, .int x1, .int x2] (K, len, I, J, R) (pI1 (K, len, I, J, R) (fun r I' => Sf K len I' R ∧ Fr K [(11, 0), (11, 1), (11, 2), (11, 19), (85, 999), (86, 999), (87, 999), (88, 999)] I I' ∧ ((I' a0 2).toInt = -1))) := by
  refine Ct_intro (by decide +kernel) (Nat.le_of_ble_eq_true rfl) (fun X hC hL hKK hNm hr hlk hQ => ?_)
  subst hL
  have hC : Cx g X cX10_helps "HillTapModel" 3 rmX10_helps := hC
  show P g X 3 0 [(0, .ref a0), (1, .int x1), (2, .int x2)] [] 0 0 (K, len, I, J, R)
  have hF : Fr K [(11, 0), (11, 1), (11, 2), (11, 19), (85, 999), (86, 999), (87, 999), (88, 999)] I I := Fr.refl
  have b_x1 := ti_rng x1
  have b_x2 := ti_rng x2
  rcases hs.2.1.2.2.1 a0 ka0 with hz | ⟨hm, hbm, khm⟩
  · refine r_aload_n hC dX10_helps_0 0 rfl ?_
    refine r_iconst hC (v := (0)) dX10_helps_1 (by decide) (by decide) (fun x1_ e1 t1 => ?_)
    refine r_puti hC 0 (ci := 10) rfl u10_in tyX10_ok nmX10 (by decide) mT_4_235 rfl rfl rfl dX10_helps_2 ka0 rfl rfl (fun I2 eI2 => ?_)
    have hs2 := hs.put0 eI2 ka0 rfl rfl rfl (by decide)
    have hF2 := hF.put eI2 ka0 rfl
    refine r_aload_n hC dX10_helps_5 0 rfl ?_
    refine r_iload_n hC dX10_helps_6 1 rfl ?_
    refine r_callV hC (As := [.int x1]) (rest := []) (ci := 10) (c_X10_isStory g (xL X) K len I2 J R hs2 a0 ka0 x1) mT_6_119 mT_1_10 mT_6_116 mT_6_118 mP_71 okX10_isStory ⟨by decide, by decide⟩ rfl (by show kO (K a0) = _; rw [ka0]; rfl) rfl rfl (Nat.le_of_ble_eq_true rfl) ⟨by decide, by decide⟩ dX10_helps_7 (aI0 (F := fun st M => P g X 3 10 [(0, .ref a0), (1, .int x1), (2, .int x2)] st _ _ M) (M := (K, len, I2, J, R)) fun x3_ h3 => ?_)
    obtain ⟨k3_0, k3_1, k3_2, k3_3, k3_4⟩ := h3
    show P g X 3 10 [(0, .ref a0), (1, .int x1), (2, .int x2)] [.int x3_] _ _ (K, len, I2, J, R)
    refine r_if_eq hC (tgt := 21) dX10_helps_10 (by decide) (fun c4 => ?_) (fun c4 => ?_)
    · refine r_aload_n hC dX10_helps_21 0 rfl ?_
      refine r_iconst hC (v := (1)) dX10_helps_22 (by decide) (by decide) (fun x5_ e5 t5 => ?_)
      refine r_callV hC (As := [.int x5_]) (rest := []) (ci := 10) (c_X10_refused g (xL X) K len I2 J R hs2 a0 ka0 x5_) mT_5_85 mT_1_10 mT_5_82 mT_5_84 mP_48 okX10_refused ⟨by decide, by decide⟩ rfl (by show kO (K a0) = _; rw [ka0]; rfl) rfl rfl (Nat.le_of_ble_eq_true rfl) ⟨by decide, by decide⟩ dX10_helps_23 (aI1 (F := fun st M => P g X 3 26 [(0, .ref a0), (1, .int x1), (2, .int x2)] st _ _ M) (M := (K, len, I2, J, R)) fun x6_ I6 h6 => ?_)
      obtain ⟨hs6, hf6, k6_0, k6_1, k6_2⟩ := h6
      show P g X 3 26 [(0, .ref a0), (1, .int x1), (2, .int x2)] [.int x6_] _ _ (K, len, I6, J, R)
      have hF6 : Fr K [(11, 0), (11, 1), (11, 2), (11, 19), (85, 999), (86, 999), (87, 999), (88, 999)] I I6 := hF2.trans hf6 rfl rfl
      exact r_iret hC hQ hlk hr rfl (by decide) (by decide) dX10_helps_26 ⟨_, _, rfl, rfl, ⟨hs6, hF6, (by omega)⟩⟩
    · refine r_aload_n hC dX10_helps_13 0 rfl ?_
      refine r_iload_n hC dX10_helps_14 2 rfl ?_
      refine r_callV hC (As := [.int x2]) (rest := []) (ci := 10) (c_X10_isDay g (xL X) K len I2 J R hs2 a0 ka0 x2) mT_6_95 mT_1_10 mT_6_92 mT_6_94 mP_68 okX10_isDay ⟨by decide, by decide⟩ rfl (by show kO (K a0) = _; rw [ka0]; rfl) rfl rfl (Nat.le_of_ble_eq_true rfl) ⟨by decide, by decide⟩ dX10_helps_15 (aI0 (F := fun st M => P g X 3 18 [(0, .ref a0), (1, .int x1), (2, .int x2)] st _ _ M) (M := (K, len, I2, J, R)) fun x7_ h7 => ?_)
      obtain ⟨k7_0, k7_1, k7_2, k7_3⟩ := h7
      show P g X 3 18 [(0, .ref a0), (1, .int x1), (2, .int x2)] [.int x7_] _ _ (K, len, I2, J, R)
      refine r_if_ne hC (tgt := 27) dX10_helps_18 (by decide) (fun c8 => ?_) (fun c8 => ?_)
      · refine r_aload_n hC dX10_helps_27 0 rfl ?_
        refine r_aload_n hC dX10_helps_28 0 rfl ?_
        refine r_iload_n hC dX10_helps_29 1 rfl ?_
        refine r_iload_n hC dX10_helps_30 2 rfl ?_
        first | exact absurd hz (k3_2 (by omega)) | exact absurd hz (k7_2 (by omega))
      · refine r_aload_n hC dX10_helps_21 0 rfl ?_
        refine r_iconst hC (v := (1)) dX10_helps_22 (by decide) (by decide) (fun x9_ e9 t9 => ?_)
        refine r_callV hC (As := [.int x9_]) (rest := []) (ci := 10) (c_X10_refused g (xL X) K len I2 J R hs2 a0 ka0 x9_) mT_5_85 mT_1_10 mT_5_82 mT_5_84 mP_48 okX10_refused ⟨by decide, by decide⟩ rfl (by show kO (K a0) = _; rw [ka0]; rfl) rfl rfl (Nat.le_of_ble_eq_true rfl) ⟨by decide, by decide⟩ dX10_helps_23 (aI1 (F := fun st M => P g X 3 26 [(0, .ref a0), (1, .int x1), (2, .int x2)] st _ _ M) (M := (K, len, I2, J, R)) fun x10_ I10 h10 => ?_)
        obtain ⟨hs10, hf10, k10_0, k10_1, k10_2⟩ := h10
        show P g X 3 26 [(0, .ref a0), (1, .int x1), (2, .int x2)] [.int x10_] _ _ (K, len, I10, J, R)
        have hF10 : Fr K [(11, 0), (11, 1), (11, 2), (11, 19), (85, 999), (86, 999), (87, 999), (88, 999)] I I10 := hF2.trans hf10 rfl rfl
        exact r_iret hC hQ hlk hr rfl (by decide) (by decide) dX10_helps_26 ⟨_, _, rfl, rfl, ⟨hs10, hF10, (by omega)⟩⟩
  · obtain ⟨S0, eS0⟩ : ∃ z : Int32, z = I hm 7 := ⟨_, rfl⟩
    have fS0 : S0.toInt = (I hm 7).toInt := by rw [eS0]
    have rS0 := hs.rng khm rfl eS0
    refine r_aload_n hC dX10_helps_0 0 rfl ?_
    refine r_iconst hC (v := (0)) dX10_helps_1 (by decide) (by decide) (fun x11_ e11 t11 => ?_)
    refine r_puti hC 0 (ci := 10) rfl u10_in tyX10_ok nmX10 (by decide) mT_4_235 rfl rfl rfl dX10_helps_2 ka0 rfl rfl (fun I12 eI12 => ?_)
    have hs12 := hs.put0 eI12 ka0 rfl rfl rfl (by decide)
    have hF12 := hF.put eI12 ka0 rfl
    refine r_aload_n hC dX10_helps_5 0 rfl ?_
    refine r_iload_n hC dX10_helps_6 1 rfl ?_
    refine r_callV hC (As := [.int x1]) (rest := []) (ci := 10) (c_X10_isStory g (xL X) K len I12 J R hs12 a0 ka0 x1) mT_6_119 mT_1_10 mT_6_116 mT_6_118 mP_71 okX10_isStory ⟨by decide, by decide⟩ rfl (by show kO (K a0) = _; rw [ka0]; rfl) rfl rfl (Nat.le_of_ble_eq_true rfl) ⟨by decide, by decide⟩ dX10_helps_7 (aI0 (F := fun st M => P g X 3 10 [(0, .ref a0), (1, .int x1), (2, .int x2)] st _ _ M) (M := (K, len, I12, J, R)) fun x13_ h13 => ?_)
    obtain ⟨k13_0, k13_1, k13_2, k13_3, k13_4⟩ := h13
    show P g X 3 10 [(0, .ref a0), (1, .int x1), (2, .int x2)] [.int x13_] _ _ (K, len, I12, J, R)
    have z13 := fun h9 => k13_4 h9 hm hbm
    have vz13 : (I12 hm 7).toInt = S0.toInt := congrArg Int32.toInt (Eq.trans (up2_kk eI12 ka0 khm (by decide)) eS0.symm)
    refine r_if_eq hC (tgt := 21) dX10_helps_10 (by decide) (fun c14 => ?_) (fun c14 => ?_)
    · refine r_aload_n hC dX10_helps_21 0 rfl ?_
      refine r_iconst hC (v := (1)) dX10_helps_22 (by decide) (by decide) (fun x15_ e15 t15 => ?_)
      refine r_callV hC (As := [.int x15_]) (rest := []) (ci := 10) (c_X10_refused g (xL X) K len I12 J R hs12 a0 ka0 x15_) mT_5_85 mT_1_10 mT_5_82 mT_5_84 mP_48 okX10_refused ⟨by decide, by decide⟩ rfl (by show kO (K a0) = _; rw [ka0]; rfl) rfl rfl (Nat.le_of_ble_eq_true rfl) ⟨by decide, by decide⟩ dX10_helps_23 (aI1 (F := fun st M => P g X 3 26 [(0, .ref a0), (1, .int x1), (2, .int x2)] st _ _ M) (M := (K, len, I12, J, R)) fun x16_ I16 h16 => ?_)
      obtain ⟨hs16, hf16, k16_0, k16_1, k16_2⟩ := h16
      show P g X 3 26 [(0, .ref a0), (1, .int x1), (2, .int x2)] [.int x16_] _ _ (K, len, I16, J, R)
      have hF16 : Fr K [(11, 0), (11, 1), (11, 2), (11, 19), (85, 999), (86, 999), (87, 999), (88, 999)] I I16 := hF12.trans hf16 rfl rfl
      exact r_iret hC hQ hlk hr rfl (by decide) (by decide) dX10_helps_26 ⟨_, _, rfl, rfl, ⟨hs16, hF16, (by omega)⟩⟩
    · refine r_aload_n hC dX10_helps_13 0 rfl ?_
      refine r_iload_n hC dX10_helps_14 2 rfl ?_
      refine r_callV hC (As := [.int x2]) (rest := []) (ci := 10) (c_X10_isDay g (xL X) K len I12 J R hs12 a0 ka0 x2) mT_6_95 mT_1_10 mT_6_92 mT_6_94 mP_68 okX10_isDay ⟨by decide, by decide⟩ rfl (by show kO (K a0) = _; rw [ka0]; rfl) rfl rfl (Nat.le_of_ble_eq_true rfl) ⟨by decide, by decide⟩ dX10_helps_15 (aI0 (F := fun st M => P g X 3 18 [(0, .ref a0), (1, .int x1), (2, .int x2)] st _ _ M) (M := (K, len, I12, J, R)) fun x17_ h17 => ?_)
      obtain ⟨k17_0, k17_1, k17_2, k17_3⟩ := h17
      show P g X 3 18 [(0, .ref a0), (1, .int x1), (2, .int x2)] [.int x17_] _ _ (K, len, I12, J, R)
      refine r_if_ne hC (tgt := 27) dX10_helps_18 (by decide) (fun c18 => ?_) (fun c18 => ?_)
      · refine r_aload_n hC dX10_helps_27 0 rfl ?_
        refine r_aload_n hC dX10_helps_28 0 rfl ?_
        refine r_iload_n hC dX10_helps_29 1 rfl ?_
        refine r_iload_n hC dX10_helps_30 2 rfl ?_
        have hv19 : I12 hm 7 = S0 := (Eq.trans (up2_kk eI12 ka0 khm (by decide)) eS0.symm)
        refine r_callV hC (As := [.int x1, .int x2]) (rest := [.ref a0]) (ci := 10) (c_X10_isHelp g (xL X) K len I12 J R hs12 a0 ka0 x1 x2 hm hbm khm (by rw [hv19]; omega) (by omega) (by omega)) mT_7_19 mT_1_10 mT_7_16 mT_7_18 mP_91 okX10_isHelp ⟨by decide, by decide⟩ rfl (by show kO (K a0) = _; rw [ka0]; rfl) rfl rfl (Nat.le_of_ble_eq_true rfl) ⟨by decide, by decide⟩ dX10_helps_31 (aI1 (F := fun st M => P g X 3 34 [(0, .ref a0), (1, .int x1), (2, .int x2)] st _ _ M) (M := (K, len, I12, J, R)) fun x20_ I20 h20 => ?_)
        obtain ⟨hs20, hf20, k20_0, k20_1⟩ := h20
        show P g X 3 34 [(0, .ref a0), (1, .int x1), (2, .int x2)] [.int x20_, .ref a0] _ _ (K, len, I20, J, R)
        have hF20 : Fr K [(11, 0), (11, 1), (11, 2), (11, 19), (85, 999), (86, 999), (87, 999), (88, 999)] I I20 := hF12.trans hf20 rfl rfl
        refine r_if_eq hC (tgt := 41) dX10_helps_34 (by decide) (fun c21 => ?_) (fun c21 => ?_)
        · refine r_iconst hC (v := (0)) dX10_helps_41 (by decide) (by decide) (fun x22_ e22 t22 => ?_)
          refine r_callV hC (As := [.int x22_]) (rest := []) (ci := 10) (c_X10_done g (xL X) K len I20 J R hs20 a0 ka0 x22_) mT_6_79 mT_1_10 mT_6_76 mT_6_78 mP_67 okX10_done ⟨by decide, by decide⟩ rfl (by show kO (K a0) = _; rw [ka0]; rfl) rfl rfl (Nat.le_of_ble_eq_true rfl) ⟨by decide, by decide⟩ dX10_helps_42 (aI1 (F := fun st M => P g X 3 45 [(0, .ref a0), (1, .int x1), (2, .int x2)] st _ _ M) (M := (K, len, I20, J, R)) fun x23_ I23 h23 => ?_)
          obtain ⟨hs23, hf23, k23_0, k23_1, k23_2⟩ := h23
          show P g X 3 45 [(0, .ref a0), (1, .int x1), (2, .int x2)] [.int x23_] _ _ (K, len, I23, J, R)
          have hF23 : Fr K [(11, 0), (11, 1), (11, 2), (11, 19), (85, 999), (86, 999), (87, 999), (88, 999)] I I23 := hF20.trans hf23 rfl rfl
          exact r_iret hC hQ hlk hr rfl (by decide) (by decide) dX10_helps_45 ⟨_, _, rfl, rfl, ⟨hs23, hF23, (by omega)⟩⟩
        · refine r_iconst hC (v := (1)) dX10_helps_37 (by decide) (by decide) (fun x24_ e24 t24 => ?_)
          refine r_goto hC (tgt := 42) dX10_helps_38 (by decide) ?_
          refine r_callV hC (As := [.int x24_]) (rest := []) (ci := 10) (c_X10_done g (xL X) K len I20 J R hs20 a0 ka0 x24_) mT_6_79 mT_1_10 mT_6_76 mT_6_78 mP_67 okX10_done ⟨by decide, by decide⟩ rfl (by show kO (K a0) = _; rw [ka0]; rfl) rfl rfl (Nat.le_of_ble_eq_true rfl) ⟨by decide, by decide⟩ dX10_helps_42 (aI1 (F := fun st M => P g X 3 45 [(0, .ref a0), (1, .int x1), (2, .int x2)] st _ _ M) (M := (K, len, I20, J, R)) fun x25_ I25 h25 => ?_)
          obtain ⟨hs25, hf25, k25_0, k25_1, k25_2⟩ := h25
          show P g X 3 45 [(0, .ref a0), (1, .int x1), (2, .int x2)] [.int x25_] _ _ (K, len, I25, J, R)
          have hF25 : Fr K [(11, 0), (11, 1), (11, 2), (11, 19), (85, 999), (86, 999), (87, 999), (88, 999)] I I25 := hF20.trans hf25 rfl rfl
          exact r_iret hC hQ hlk hr rfl (by decide) (by decide) dX10_helps_45 ⟨_, _, rfl, rfl, ⟨hs25, hF25, (by omega)⟩⟩
      · refine r_aload_n hC dX10_helps_21 0 rfl ?_
        refine r_iconst hC (v := (1)) dX10_helps_22 (by decide) (by decide) (fun x26_ e26 t26 => ?_)
        refine r_callV hC (As := [.int x26_]) (rest := []) (ci := 10) (c_X10_refused g (xL X) K len I12 J R hs12 a0 ka0 x26_) mT_5_85 mT_1_10 mT_5_82 mT_5_84 mP_48 okX10_refused ⟨by decide, by decide⟩ rfl (by show kO (K a0) = _; rw [ka0]; rfl) rfl rfl (Nat.le_of_ble_eq_true rfl) ⟨by decide, by decide⟩ dX10_helps_23 (aI1 (F := fun st M => P g X 3 26 [(0, .ref a0), (1, .int x1), (2, .int x2)] st _ _ M) (M := (K, len, I12, J, R)) fun x27_ I27 h27 => ?_)
        obtain ⟨hs27, hf27, k27_0, k27_1, k27_2⟩ := h27
        show P g X 3 26 [(0, .ref a0), (1, .int x1), (2, .int x2)] [.int x27_] _ _ (K, len, I27, J, R)
        have hF27 : Fr K [(11, 0), (11, 1), (11, 2), (11, 19), (85, 999), (86, 999), (87, 999), (88, 999)] I I27 := hF12.trans hf27 rfl rfl
        exact r_iret hC hQ hlk hr rfl (by decide) (by decide) dX10_helps_26 ⟨_, _, rfl, rfl, ⟨hs27, hF27, (by omega)⟩⟩
set_option maxHeartbeats 4000000 in
set_option maxRecDepth 100000 in
theorem c_X10_last (g : GG) (l : Launch) (K len : Nat → Nat) (I : Nat → Nat → Int32) (J : Nat → Nat → Int64) (R : Nat → Nat → Option Nat) (hs : Sf K len I R) (a0 : Nat) (ka0 : K a0 = 11) (x1 : Int32) : Ct g l yX10_last cX10_last 3 (Option.some Jvm.ClassFile.FieldType.int) rmX10_last [.ref a0, .int x1] (K, len, I, J, R) (pI1 (K, len, I, J, R) (fun r I' => Sf K len I' R ∧ Fr K [(11, 0), (11, 1), (11, 2), (11, 19), (85, 999), (86, 999), (87, 999), (88, 999)] I I' ∧ ((I' a0 2).toInt = -1))) := by
  refine Ct_intro (by decide +kernel) (Nat.le_of_ble_eq_true rfl) (fun X hC hL hKK hNm hr hlk hQ => ?_)
  subst hL
  have hC : Cx g X cX10_last "HillTapModel" 3 rmX10_last := hC
  show P g X 3 0 [(0, .ref a0), (1, .int x1)] [] 0 0 (K, len, I, J, R)
  have hF : Fr K [(11, 0), (11, 1), (11, 2), (11, 19), (85, 999), (86, 999), (87, 999), (88, 999)] I I := Fr.refl
  have b_x1 := ti_rng x1
  rcases hs.2.1.2.2.1 a0 ka0 with hz | ⟨hm, hbm, khm⟩
  · refine r_aload_n hC dX10_last_0 0 rfl ?_
    refine r_iconst hC (v := (0)) dX10_last_1 (by decide) (by decide) (fun x1_ e1 t1 => ?_)
    refine r_puti hC 0 (ci := 10) rfl u10_in tyX10_ok nmX10 (by decide) mT_4_235 rfl rfl rfl dX10_last_2 ka0 rfl rfl (fun I2 eI2 => ?_)
    have hs2 := hs.put0 eI2 ka0 rfl rfl rfl (by decide)
    have hF2 := hF.put eI2 ka0 rfl
    refine r_aload_n hC dX10_last_5 0 rfl ?_
    refine r_iload_n hC dX10_last_6 1 rfl ?_
    refine r_callV hC (As := [.int x1]) (rest := []) (ci := 10) (c_X10_isStory g (xL X) K len I2 J R hs2 a0 ka0 x1) mT_6_119 mT_1_10 mT_6_116 mT_6_118 mP_71 okX10_isStory ⟨by decide, by decide⟩ rfl (by show kO (K a0) = _; rw [ka0]; rfl) rfl rfl (Nat.le_of_ble_eq_true rfl) ⟨by decide, by decide⟩ dX10_last_7 (aI0 (F := fun st M => P g X 3 10 [(0, .ref a0), (1, .int x1)] st _ _ M) (M := (K, len, I2, J, R)) fun x3_ h3 => ?_)
    obtain ⟨k3_0, k3_1, k3_2, k3_3, k3_4⟩ := h3
    show P g X 3 10 [(0, .ref a0), (1, .int x1)] [.int x3_] _ _ (K, len, I2, J, R)
    refine r_if_ne hC (tgt := 19) dX10_last_10 (by decide) (fun c4 => ?_) (fun c4 => ?_)
    · refine r_bipush hC (v := (59)) dX10_last_19 (by decide) (by decide) (fun x5_ e5 t5 => ?_)
      refine r_istore_n hC (lv' := [(2, .int x5_), (0, .ref a0), (1, .int x1)]) dX10_last_21 (by decide) rfl ?_
      have LP6 : ∀ (mu : Nat) (x6_2 : Int32) (I6 : Nat → Nat → Int32) (hs6 : Sf K len I6 R) (hF6 : Fr K [(11, 0), (11, 1), (11, 2), (11, 19), (85, 999), (86, 999), (87, 999), (88, 999)] I I6) (v6_0 : -1 ≤ x6_2.toInt) (v6_1 : x6_2.toInt ≤ 59), (x6_2.toInt + 1).toNat = mu → P g X 3 22 [(0, .ref a0), (1, .int x1), (2, .int x6_2)] [] 0 0 (K, len, I6, J, R) := by
        intro mu; induction mu using Nat.strongRecOn with | ind mu ih => ?_
        intro x6_2 I6 hs6 hF6 v6_0 v6_1 hmu
        have ih6 := ih
        clear ih
        have hmu6 := hmu
        clear hmu
        refine r_iload_n hC dX10_last_22 2 rfl ?_
        refine r_if_lt hC (tgt := 47) dX10_last_23 (by decide) (fun c7 => ?_) (fun c7 => ?_)
        · refine r_aload_n hC dX10_last_47 0 rfl ?_
          refine r_bipush hC (v := (-2)) dX10_last_48 (by decide) (by decide) (fun x8_ e8 t8 => ?_)
          refine r_callV hC (As := [.int x8_]) (rest := []) (ci := 10) (c_X10_done g (xL X) K len I6 J R hs6 a0 ka0 x8_) mT_6_79 mT_1_10 mT_6_76 mT_6_78 mP_67 okX10_done ⟨by decide, by decide⟩ rfl (by show kO (K a0) = _; rw [ka0]; rfl) rfl rfl (Nat.le_of_ble_eq_true rfl) ⟨by decide, by decide⟩ dX10_last_50 (aI1 (F := fun st M => P g X 3 53 [(0, .ref a0), (1, .int x1), (2, .int x6_2)] st _ _ M) (M := (K, len, I6, J, R)) fun x9_ I9 h9 => ?_)
          obtain ⟨hs9, hf9, k9_0, k9_1, k9_2⟩ := h9
          show P g X 3 53 [(0, .ref a0), (1, .int x1), (2, .int x6_2)] [.int x9_] _ _ (K, len, I9, J, R)
          have hF9 : Fr K [(11, 0), (11, 1), (11, 2), (11, 19), (85, 999), (86, 999), (87, 999), (88, 999)] I I9 := hF6.trans hf9 rfl rfl
          exact r_iret hC hQ hlk hr rfl (by decide) (by decide) dX10_last_53 ⟨_, _, rfl, rfl, ⟨hs9, hF9, (by omega)⟩⟩
        · refine r_aload_n hC dX10_last_26 0 rfl ?_
          refine r_iload_n hC dX10_last_27 1 rfl ?_
          refine r_iload_n hC dX10_last_28 2 rfl ?_
          first | exact absurd hz (k3_2 (by omega))
      refine r_sub [1, 2, 0] rfl ?_
      exact LP6 _ x5_ I2 hs2 hF2 (by omega) (by omega) rfl
    · refine r_aload_n hC dX10_last_13 0 rfl ?_
      refine r_iconst hC (v := (1)) dX10_last_14 (by decide) (by decide) (fun x10_ e10 t10 => ?_)
      refine r_callV hC (As := [.int x10_]) (rest := []) (ci := 10) (c_X10_refused g (xL X) K len I2 J R hs2 a0 ka0 x10_) mT_5_85 mT_1_10 mT_5_82 mT_5_84 mP_48 okX10_refused ⟨by decide, by decide⟩ rfl (by show kO (K a0) = _; rw [ka0]; rfl) rfl rfl (Nat.le_of_ble_eq_true rfl) ⟨by decide, by decide⟩ dX10_last_15 (aI1 (F := fun st M => P g X 3 18 [(0, .ref a0), (1, .int x1)] st _ _ M) (M := (K, len, I2, J, R)) fun x11_ I11 h11 => ?_)
      obtain ⟨hs11, hf11, k11_0, k11_1, k11_2⟩ := h11
      show P g X 3 18 [(0, .ref a0), (1, .int x1)] [.int x11_] _ _ (K, len, I11, J, R)
      have hF11 : Fr K [(11, 0), (11, 1), (11, 2), (11, 19), (85, 999), (86, 999), (87, 999), (88, 999)] I I11 := hF2.trans hf11 rfl rfl
      exact r_iret hC hQ hlk hr rfl (by decide) (by decide) dX10_last_18 ⟨_, _, rfl, rfl, ⟨hs11, hF11, (by omega)⟩⟩
  · obtain ⟨S0, eS0⟩ : ∃ z : Int32, z = I hm 7 := ⟨_, rfl⟩
    have fS0 : S0.toInt = (I hm 7).toInt := by rw [eS0]
    have rS0 := hs.rng khm rfl eS0
    refine r_aload_n hC dX10_last_0 0 rfl ?_
    refine r_iconst hC (v := (0)) dX10_last_1 (by decide) (by decide) (fun x12_ e12 t12 => ?_)
    refine r_puti hC 0 (ci := 10) rfl u10_in tyX10_ok nmX10 (by decide) mT_4_235 rfl rfl rfl dX10_last_2 ka0 rfl rfl (fun I13 eI13 => ?_)
    have hs13 := hs.put0 eI13 ka0 rfl rfl rfl (by decide)
    have hF13 := hF.put eI13 ka0 rfl
    refine r_aload_n hC dX10_last_5 0 rfl ?_
    refine r_iload_n hC dX10_last_6 1 rfl ?_
    refine r_callV hC (As := [.int x1]) (rest := []) (ci := 10) (c_X10_isStory g (xL X) K len I13 J R hs13 a0 ka0 x1) mT_6_119 mT_1_10 mT_6_116 mT_6_118 mP_71 okX10_isStory ⟨by decide, by decide⟩ rfl (by show kO (K a0) = _; rw [ka0]; rfl) rfl rfl (Nat.le_of_ble_eq_true rfl) ⟨by decide, by decide⟩ dX10_last_7 (aI0 (F := fun st M => P g X 3 10 [(0, .ref a0), (1, .int x1)] st _ _ M) (M := (K, len, I13, J, R)) fun x14_ h14 => ?_)
    obtain ⟨k14_0, k14_1, k14_2, k14_3, k14_4⟩ := h14
    show P g X 3 10 [(0, .ref a0), (1, .int x1)] [.int x14_] _ _ (K, len, I13, J, R)
    have z14 := fun h9 => k14_4 h9 hm hbm
    have vz14 : (I13 hm 7).toInt = S0.toInt := congrArg Int32.toInt (Eq.trans (up2_kk eI13 ka0 khm (by decide)) eS0.symm)
    refine r_if_ne hC (tgt := 19) dX10_last_10 (by decide) (fun c15 => ?_) (fun c15 => ?_)
    · refine r_bipush hC (v := (59)) dX10_last_19 (by decide) (by decide) (fun x16_ e16 t16 => ?_)
      refine r_istore_n hC (lv' := [(2, .int x16_), (0, .ref a0), (1, .int x1)]) dX10_last_21 (by decide) rfl ?_
      have LP17 : ∀ (mu : Nat) (x17_2 : Int32) (I17 : Nat → Nat → Int32) (hs17 : Sf K len I17 R) (hF17 : Fr K [(11, 0), (11, 1), (11, 2), (11, 19), (85, 999), (86, 999), (87, 999), (88, 999)] I I17) (v17_0 : -1 ≤ x17_2.toInt) (v17_1 : x17_2.toInt ≤ 59), (x17_2.toInt + 1).toNat = mu → P g X 3 22 [(0, .ref a0), (1, .int x1), (2, .int x17_2)] [] 0 0 (K, len, I17, J, R) := by
        intro mu; induction mu using Nat.strongRecOn with | ind mu ih => ?_
        intro x17_2 I17 hs17 hF17 v17_0 v17_1 hmu
        have ih17 := ih
        clear ih
        have hmu17 := hmu
        clear hmu
        refine r_iload_n hC dX10_last_22 2 rfl ?_
        refine r_if_lt hC (tgt := 47) dX10_last_23 (by decide) (fun c18 => ?_) (fun c18 => ?_)
        · refine r_aload_n hC dX10_last_47 0 rfl ?_
          refine r_bipush hC (v := (-2)) dX10_last_48 (by decide) (by decide) (fun x19_ e19 t19 => ?_)
          refine r_callV hC (As := [.int x19_]) (rest := []) (ci := 10) (c_X10_done g (xL X) K len I17 J R hs17 a0 ka0 x19_) mT_6_79 mT_1_10 mT_6_76 mT_6_78 mP_67 okX10_done ⟨by decide, by decide⟩ rfl (by show kO (K a0) = _; rw [ka0]; rfl) rfl rfl (Nat.le_of_ble_eq_true rfl) ⟨by decide, by decide⟩ dX10_last_50 (aI1 (F := fun st M => P g X 3 53 [(0, .ref a0), (1, .int x1), (2, .int x17_2)] st _ _ M) (M := (K, len, I17, J, R)) fun x20_ I20 h20 => ?_)
          obtain ⟨hs20, hf20, k20_0, k20_1, k20_2⟩ := h20
          show P g X 3 53 [(0, .ref a0), (1, .int x1), (2, .int x17_2)] [.int x20_] _ _ (K, len, I20, J, R)
          have hF20 : Fr K [(11, 0), (11, 1), (11, 2), (11, 19), (85, 999), (86, 999), (87, 999), (88, 999)] I I20 := hF17.trans hf20 rfl rfl
          exact r_iret hC hQ hlk hr rfl (by decide) (by decide) dX10_last_53 ⟨_, _, rfl, rfl, ⟨hs20, hF20, (by omega)⟩⟩
        · refine r_aload_n hC dX10_last_26 0 rfl ?_
          refine r_iload_n hC dX10_last_27 1 rfl ?_
          refine r_iload_n hC dX10_last_28 2 rfl ?_
          have hv21 : I17 hm 7 = S0 := (Eq.trans (hF17.get khm rfl) eS0.symm)
          refine r_callV hC (As := [.int x1, .int x17_2]) (rest := []) (ci := 10) (c_X10_isHelp g (xL X) K len I17 J R hs17 a0 ka0 x1 x17_2 hm hbm khm (by rw [hv21]; omega) (by omega) (by omega)) mT_7_19 mT_1_10 mT_7_16 mT_7_18 mP_91 okX10_isHelp ⟨by decide, by decide⟩ rfl (by show kO (K a0) = _; rw [ka0]; rfl) rfl rfl (Nat.le_of_ble_eq_true rfl) ⟨by decide, by decide⟩ dX10_last_29 (aI1 (F := fun st M => P g X 3 32 [(0, .ref a0), (1, .int x1), (2, .int x17_2)] st _ _ M) (M := (K, len, I17, J, R)) fun x22_ I22 h22 => ?_)
          obtain ⟨hs22, hf22, k22_0, k22_1⟩ := h22
          show P g X 3 32 [(0, .ref a0), (1, .int x1), (2, .int x17_2)] [.int x22_] _ _ (K, len, I22, J, R)
          have hF22 : Fr K [(11, 0), (11, 1), (11, 2), (11, 19), (85, 999), (86, 999), (87, 999), (88, 999)] I I22 := hF17.trans hf22 rfl rfl
          refine r_if_eq hC (tgt := 41) dX10_last_32 (by decide) (fun c23 => ?_) (fun c23 => ?_)
          · obtain ⟨x24_, e24⟩ : ∃ z : Int32, z = x17_2 + Int32.ofInt (-1) := ⟨_, rfl⟩
            refine r_iinc hC (j := 2) (v := x24_) (lv' := [(2, .int x24_), (0, .ref a0), (1, .int x1)]) dX10_last_41 rfl (by rw [e24]) (by decide) rfl ?_
            try have t24 : x24_.toInt = x17_2.toInt + (-1) := by rw [e24]; exact (ti_add (b := Int32.ofInt (-1)) (by show _ ≤ _ + (-1 : Int); omega) (by show _ + (-1 : Int) ≤ _; omega))
            refine r_goto hC (tgt := 22) dX10_last_44 (by decide) ?_
            refine r_sub [1, 2, 0] rfl ?_
            exact ih17 ((x24_.toInt + 1).toNat) (by omega) x24_ I22 hs22 hF22 (by omega) (by omega) rfl
          · refine r_aload_n hC dX10_last_35 0 rfl ?_
            refine r_iload_n hC dX10_last_36 2 rfl ?_
            refine r_callV hC (As := [.int x17_2]) (rest := []) (ci := 10) (c_X10_done g (xL X) K len I22 J R hs22 a0 ka0 x17_2) mT_6_79 mT_1_10 mT_6_76 mT_6_78 mP_67 okX10_done ⟨by decide, by decide⟩ rfl (by show kO (K a0) = _; rw [ka0]; rfl) rfl rfl (Nat.le_of_ble_eq_true rfl) ⟨by decide, by decide⟩ dX10_last_37 (aI1 (F := fun st M => P g X 3 40 [(0, .ref a0), (1, .int x1), (2, .int x17_2)] st _ _ M) (M := (K, len, I22, J, R)) fun x25_ I25 h25 => ?_)
            obtain ⟨hs25, hf25, k25_0, k25_1, k25_2⟩ := h25
            show P g X 3 40 [(0, .ref a0), (1, .int x1), (2, .int x17_2)] [.int x25_] _ _ (K, len, I25, J, R)
            have hF25 : Fr K [(11, 0), (11, 1), (11, 2), (11, 19), (85, 999), (86, 999), (87, 999), (88, 999)] I I25 := hF22.trans hf25 rfl rfl
            exact r_iret hC hQ hlk hr rfl (by decide) (by decide) dX10_last_40 ⟨_, _, rfl, rfl, ⟨hs25, hF25, (by omega)⟩⟩
      refine r_sub [1, 2, 0] rfl ?_
      exact LP17 _ x16_ I13 hs13 hF13 (by omega) (by omega) rfl
    · refine r_aload_n hC dX10_last_13 0 rfl ?_
      refine r_iconst hC (v := (1)) dX10_last_14 (by decide) (by decide) (fun x26_ e26 t26 => ?_)
      refine r_callV hC (As := [.int x26_]) (rest := []) (ci := 10) (c_X10_refused g (xL X) K len I13 J R hs13 a0 ka0 x26_) mT_5_85 mT_1_10 mT_5_82 mT_5_84 mP_48 okX10_refused ⟨by decide, by decide⟩ rfl (by show kO (K a0) = _; rw [ka0]; rfl) rfl rfl (Nat.le_of_ble_eq_true rfl) ⟨by decide, by decide⟩ dX10_last_15 (aI1 (F := fun st M => P g X 3 18 [(0, .ref a0), (1, .int x1)] st _ _ M) (M := (K, len, I13, J, R)) fun x27_ I27 h27 => ?_)
      obtain ⟨hs27, hf27, k27_0, k27_1, k27_2⟩ := h27
      show P g X 3 18 [(0, .ref a0), (1, .int x1)] [.int x27_] _ _ (K, len, I27, J, R)
      have hF27 : Fr K [(11, 0), (11, 1), (11, 2), (11, 19), (85, 999), (86, 999), (87, 999), (88, 999)] I I27 := hF13.trans hf27 rfl rfl
      exact r_iret hC hQ hlk hr rfl (by decide) (by decide) dX10_last_18 ⟨_, _, rfl, rfl, ⟨hs27, hF27, (by omega)⟩⟩
set_option maxHeartbeats 4000000 in
set_option maxRecDepth 100000 in
theorem c_X10_safe (g : GG) (l : Launch) (K len : Nat → Nat) (I : Nat → Nat → Int32) (J : Nat → Nat → Int64) (R : Nat → Nat → Option Nat) (hs : Sf K len I R) (a0 : Nat) (ka0 : K a0 = 11) (x1 : Int32) : Ct g l yX10_safe cX10_safe 3 (Option.some Jvm.ClassFile.FieldType.int) rmX10_safe [.ref a0, .int x1] (K, len, I, J, R) (pI1 (K, len, I, J, R) (fun r I' => Sf K len I' R ∧ Fr K [(11, 0), (11, 1), (11, 2), (11, 19), (85, 999), (86, 999), (87, 999), (88, 999)] I I' ∧ ((I' a0 2).toInt = -1))) := by
  refine Ct_intro (by decide +kernel) (Nat.le_of_ble_eq_true rfl) (fun X hC hL hKK hNm hr hlk hQ => ?_)
  subst hL
  have hC : Cx g X cX10_safe "HillTapModel" 3 rmX10_safe := hC
  show P g X 3 0 [(0, .ref a0), (1, .int x1)] [] 0 0 (K, len, I, J, R)
  have hF : Fr K [(11, 0), (11, 1), (11, 2), (11, 19), (85, 999), (86, 999), (87, 999), (88, 999)] I I := Fr.refl
  have b_x1 := ti_rng x1
  rcases hs.2.1.2.2.1 a0 ka0 with hz | ⟨hm, hbm, khm⟩
  · refine r_aload_n hC dX10_safe_0 0 rfl ?_
    refine r_iconst hC (v := (0)) dX10_safe_1 (by decide) (by decide) (fun x1_ e1 t1 => ?_)
    refine r_puti hC 0 (ci := 10) rfl u10_in tyX10_ok nmX10 (by decide) mT_4_235 rfl rfl rfl dX10_safe_2 ka0 rfl rfl (fun I2 eI2 => ?_)
    have hs2 := hs.put0 eI2 ka0 rfl rfl rfl (by decide)
    have hF2 := hF.put eI2 ka0 rfl
    refine r_aload_n hC dX10_safe_5 0 rfl ?_
    refine r_iload_n hC dX10_safe_6 1 rfl ?_
    refine r_callV hC (As := [.int x1]) (rest := []) (ci := 10) (c_X10_isStory g (xL X) K len I2 J R hs2 a0 ka0 x1) mT_6_119 mT_1_10 mT_6_116 mT_6_118 mP_71 okX10_isStory ⟨by decide, by decide⟩ rfl (by show kO (K a0) = _; rw [ka0]; rfl) rfl rfl (Nat.le_of_ble_eq_true rfl) ⟨by decide, by decide⟩ dX10_safe_7 (aI0 (F := fun st M => P g X 3 10 [(0, .ref a0), (1, .int x1)] st _ _ M) (M := (K, len, I2, J, R)) fun x3_ h3 => ?_)
    obtain ⟨k3_0, k3_1, k3_2, k3_3, k3_4⟩ := h3
    show P g X 3 10 [(0, .ref a0), (1, .int x1)] [.int x3_] _ _ (K, len, I2, J, R)
    refine r_if_ne hC (tgt := 19) dX10_safe_10 (by decide) (fun c4 => ?_) (fun c4 => ?_)
    · refine r_aload_n hC dX10_safe_19 0 rfl ?_
      refine r_getz hC 3 (ci := 10) rfl u10_in (by decide) mT_4_238 dX10_safe_20 ka0 rfl rfl hz ?_
      first | exact absurd hz (k3_2 (by omega))
    · refine r_aload_n hC dX10_safe_13 0 rfl ?_
      refine r_iconst hC (v := (1)) dX10_safe_14 (by decide) (by decide) (fun x5_ e5 t5 => ?_)
      refine r_callV hC (As := [.int x5_]) (rest := []) (ci := 10) (c_X10_refused g (xL X) K len I2 J R hs2 a0 ka0 x5_) mT_5_85 mT_1_10 mT_5_82 mT_5_84 mP_48 okX10_refused ⟨by decide, by decide⟩ rfl (by show kO (K a0) = _; rw [ka0]; rfl) rfl rfl (Nat.le_of_ble_eq_true rfl) ⟨by decide, by decide⟩ dX10_safe_15 (aI1 (F := fun st M => P g X 3 18 [(0, .ref a0), (1, .int x1)] st _ _ M) (M := (K, len, I2, J, R)) fun x6_ I6 h6 => ?_)
      obtain ⟨hs6, hf6, k6_0, k6_1, k6_2⟩ := h6
      show P g X 3 18 [(0, .ref a0), (1, .int x1)] [.int x6_] _ _ (K, len, I6, J, R)
      have hF6 : Fr K [(11, 0), (11, 1), (11, 2), (11, 19), (85, 999), (86, 999), (87, 999), (88, 999)] I I6 := hF2.trans hf6 rfl rfl
      exact r_iret hC hQ hlk hr rfl (by decide) (by decide) dX10_safe_18 ⟨_, _, rfl, rfl, ⟨hs6, hF6, (by omega)⟩⟩
  · obtain ⟨S0, eS0⟩ : ∃ z : Int32, z = I hm 7 := ⟨_, rfl⟩
    have fS0 : S0.toInt = (I hm 7).toInt := by rw [eS0]
    have rS0 := hs.rng khm rfl eS0
    refine r_aload_n hC dX10_safe_0 0 rfl ?_
    refine r_iconst hC (v := (0)) dX10_safe_1 (by decide) (by decide) (fun x7_ e7 t7 => ?_)
    refine r_puti hC 0 (ci := 10) rfl u10_in tyX10_ok nmX10 (by decide) mT_4_235 rfl rfl rfl dX10_safe_2 ka0 rfl rfl (fun I8 eI8 => ?_)
    have hs8 := hs.put0 eI8 ka0 rfl rfl rfl (by decide)
    have hF8 := hF.put eI8 ka0 rfl
    refine r_aload_n hC dX10_safe_5 0 rfl ?_
    refine r_iload_n hC dX10_safe_6 1 rfl ?_
    refine r_callV hC (As := [.int x1]) (rest := []) (ci := 10) (c_X10_isStory g (xL X) K len I8 J R hs8 a0 ka0 x1) mT_6_119 mT_1_10 mT_6_116 mT_6_118 mP_71 okX10_isStory ⟨by decide, by decide⟩ rfl (by show kO (K a0) = _; rw [ka0]; rfl) rfl rfl (Nat.le_of_ble_eq_true rfl) ⟨by decide, by decide⟩ dX10_safe_7 (aI0 (F := fun st M => P g X 3 10 [(0, .ref a0), (1, .int x1)] st _ _ M) (M := (K, len, I8, J, R)) fun x9_ h9 => ?_)
    obtain ⟨k9_0, k9_1, k9_2, k9_3, k9_4⟩ := h9
    show P g X 3 10 [(0, .ref a0), (1, .int x1)] [.int x9_] _ _ (K, len, I8, J, R)
    have z9 := fun h9 => k9_4 h9 hm hbm
    have vz9 : (I8 hm 7).toInt = S0.toInt := congrArg Int32.toInt (Eq.trans (up2_kk eI8 ka0 khm (by decide)) eS0.symm)
    refine r_if_ne hC (tgt := 19) dX10_safe_10 (by decide) (fun c10 => ?_) (fun c10 => ?_)
    · refine r_aload_n hC dX10_safe_19 0 rfl ?_
      refine r_getr hC 3 (ci := 10) rfl u10_in (by decide) mT_4_238 dX10_safe_20 ka0 rfl rfl hbm ?_
      refine r_getiN hC 2 (ci := 9) rfl u9_in (by decide) nF_2 dX10_safe_23 khm rfl rfl (fun x11_ e11 => ?_)
      refine r_istore_n hC (lv' := [(2, .int x11_), (0, .ref a0), (1, .int x1)]) dX10_safe_26 (by decide) rfl ?_
      have LP12 : ∀ (mu : Nat) (x12_2 : Int32) (I12 : Nat → Nat → Int32) (hs12 : Sf K len I12 R) (hF12 : Fr K [(11, 0), (11, 1), (11, 2), (11, 19), (85, 999), (86, 999), (87, 999), (88, 999)] I I12), (x12_2.toInt + 1).toNat = mu → P g X 3 27 [(0, .ref a0), (1, .int x1), (2, .int x12_2)] [] 0 0 (K, len, I12, J, R) := by
        intro mu; induction mu using Nat.strongRecOn with | ind mu ih => ?_
        intro x12_2 I12 hs12 hF12 hmu
        have ih12 := ih
        clear ih
        have hmu12 := hmu
        clear hmu
        have bx12_2 := ti_rng x12_2
        refine r_iload_n hC dX10_safe_27 2 rfl ?_
        refine r_if_lt hC (tgt := 65) dX10_safe_28 (by decide) (fun c13 => ?_) (fun c13 => ?_)
        · refine r_aload_n hC dX10_safe_65 0 rfl ?_
          refine r_bipush hC (v := (-2)) dX10_safe_66 (by decide) (by decide) (fun x14_ e14 t14 => ?_)
          refine r_callV hC (As := [.int x14_]) (rest := []) (ci := 10) (c_X10_done g (xL X) K len I12 J R hs12 a0 ka0 x14_) mT_6_79 mT_1_10 mT_6_76 mT_6_78 mP_67 okX10_done ⟨by decide, by decide⟩ rfl (by show kO (K a0) = _; rw [ka0]; rfl) rfl rfl (Nat.le_of_ble_eq_true rfl) ⟨by decide, by decide⟩ dX10_safe_68 (aI1 (F := fun st M => P g X 3 71 [(0, .ref a0), (1, .int x1), (2, .int x12_2)] st _ _ M) (M := (K, len, I12, J, R)) fun x15_ I15 h15 => ?_)
          obtain ⟨hs15, hf15, k15_0, k15_1, k15_2⟩ := h15
          show P g X 3 71 [(0, .ref a0), (1, .int x1), (2, .int x12_2)] [.int x15_] _ _ (K, len, I15, J, R)
          have hF15 : Fr K [(11, 0), (11, 1), (11, 2), (11, 19), (85, 999), (86, 999), (87, 999), (88, 999)] I I15 := hF12.trans hf15 rfl rfl
          exact r_iret hC hQ hlk hr rfl (by decide) (by decide) dX10_safe_71 ⟨_, _, rfl, rfl, ⟨hs15, hF15, (by omega)⟩⟩
        · refine r_aload_n hC dX10_safe_31 0 rfl ?_
          refine r_bipush hC (v := (60)) dX10_safe_32 (by decide) (by decide) (fun x16_ e16 t16 => ?_)
          refine r_iload_n hC dX10_safe_34 2 rfl ?_
          refine r_callV hC (As := [.int x16_, .int x12_2]) (rest := []) (ci := 10) (c_X10_fills g (xL X) K len I12 J R hs12 a0 ka0 x16_ x12_2 hm hbm khm) mT_6_99 mT_1_10 mT_6_96 mT_6_98 mP_69 okX10_fills ⟨by decide, by decide⟩ rfl (by show kO (K a0) = _; rw [ka0]; rfl) rfl rfl (Nat.le_of_ble_eq_true rfl) ⟨by decide, by decide⟩ dX10_safe_35 (aV1 (F := fun st M => P g X 3 38 [(0, .ref a0), (1, .int x1), (2, .int x12_2)] st _ _ M) (M := (K, len, I12, J, R)) fun I17 h17 => ?_)
          obtain ⟨hs17, hf17⟩ := h17
          show P g X 3 38 [(0, .ref a0), (1, .int x1), (2, .int x12_2)] [] _ _ (K, len, I17, J, R)
          have hF17 : Fr K [(11, 0), (11, 1), (11, 2), (11, 19), (85, 999), (86, 999), (87, 999), (88, 999)] I I17 := hF12.trans hf17 rfl rfl
          refine r_aload_n hC dX10_safe_38 0 rfl ?_
          refine r_iload_n hC dX10_safe_39 1 rfl ?_
          refine r_iconst hC (v := (1)) dX10_safe_40 (by decide) (by decide) (fun x18_ e18 t18 => ?_)
          have hv19 : I17 hm 7 = S0 := (Eq.trans (hf17.get khm rfl) (Eq.trans (hF12.get khm rfl) eS0.symm))
          refine r_callV hC (As := [.int x1, .int x18_]) (rest := []) (ci := 10) (c_X10_runs g (xL X) K len I17 J R hs17 a0 ka0 x1 x18_ hm hbm khm (by rw [hv19]; omega) (by omega) (by omega)) mT_6_131 mT_1_10 mT_6_128 mT_6_130 mP_74 okX10_runs ⟨by decide, by decide⟩ rfl (by show kO (K a0) = _; rw [ka0]; rfl) rfl rfl (Nat.le_of_ble_eq_true rfl) ⟨by decide, by decide⟩ dX10_safe_41 (aV1 (F := fun st M => P g X 3 44 [(0, .ref a0), (1, .int x1), (2, .int x12_2)] st _ _ M) (M := (K, len, I17, J, R)) fun I20 h20 => ?_)
          obtain ⟨hs20, hf20⟩ := h20
          show P g X 3 44 [(0, .ref a0), (1, .int x1), (2, .int x12_2)] [] _ _ (K, len, I20, J, R)
          have hF20 : Fr K [(11, 0), (11, 1), (11, 2), (11, 19), (85, 999), (86, 999), (87, 999), (88, 999)] I I20 := hF17.trans hf20 rfl rfl
          refine r_aload_n hC dX10_safe_44 0 rfl ?_
          refine r_geti hC 19 (ci := 10) rfl u10_in (by decide) mT_5_14 dX10_safe_45 ka0 rfl rfl (fun x21_ e21 => ?_)
          have r21 := hs20.rng ka0 rfl e21
          have q21 := hs20.gone ka0 e21
          refine r_bipush hC (v := (-2)) dX10_safe_48 (by decide) (by decide) (fun x22_ e22 t22 => ?_)
          refine r_icmp_ne hC (tgt := 59) dX10_safe_50 (by decide) (fun c23 => ?_) (fun c23 => ?_)
          · obtain ⟨x24_, e24⟩ : ∃ z : Int32, z = x12_2 + Int32.ofInt (-1) := ⟨_, rfl⟩
            refine r_iinc hC (j := 2) (v := x24_) (lv' := [(2, .int x24_), (0, .ref a0), (1, .int x1)]) dX10_safe_59 rfl (by rw [e24]) (by decide) rfl ?_
            try have t24 : x24_.toInt = x12_2.toInt + (-1) := by rw [e24]; exact (ti_add (b := Int32.ofInt (-1)) (by show _ ≤ _ + (-1 : Int); omega) (by show _ + (-1 : Int) ≤ _; omega))
            refine r_goto hC (tgt := 27) dX10_safe_62 (by decide) ?_
            refine r_sub [1, 2, 0] rfl ?_
            exact ih12 ((x24_.toInt + 1).toNat) (by omega) x24_ I20 hs20 hF20 rfl
          · refine r_aload_n hC dX10_safe_53 0 rfl ?_
            refine r_iload_n hC dX10_safe_54 2 rfl ?_
            refine r_callV hC (As := [.int x12_2]) (rest := []) (ci := 10) (c_X10_done g (xL X) K len I20 J R hs20 a0 ka0 x12_2) mT_6_79 mT_1_10 mT_6_76 mT_6_78 mP_67 okX10_done ⟨by decide, by decide⟩ rfl (by show kO (K a0) = _; rw [ka0]; rfl) rfl rfl (Nat.le_of_ble_eq_true rfl) ⟨by decide, by decide⟩ dX10_safe_55 (aI1 (F := fun st M => P g X 3 58 [(0, .ref a0), (1, .int x1), (2, .int x12_2)] st _ _ M) (M := (K, len, I20, J, R)) fun x25_ I25 h25 => ?_)
            obtain ⟨hs25, hf25, k25_0, k25_1, k25_2⟩ := h25
            show P g X 3 58 [(0, .ref a0), (1, .int x1), (2, .int x12_2)] [.int x25_] _ _ (K, len, I25, J, R)
            have hF25 : Fr K [(11, 0), (11, 1), (11, 2), (11, 19), (85, 999), (86, 999), (87, 999), (88, 999)] I I25 := hF20.trans hf25 rfl rfl
            exact r_iret hC hQ hlk hr rfl (by decide) (by decide) dX10_safe_58 ⟨_, _, rfl, rfl, ⟨hs25, hF25, (by omega)⟩⟩
      refine r_sub [1, 2, 0] rfl ?_
      exact LP12 _ x11_ I8 hs8 hF8 rfl
    · refine r_aload_n hC dX10_safe_13 0 rfl ?_
      refine r_iconst hC (v := (1)) dX10_safe_14 (by decide) (by decide) (fun x26_ e26 t26 => ?_)
      refine r_callV hC (As := [.int x26_]) (rest := []) (ci := 10) (c_X10_refused g (xL X) K len I8 J R hs8 a0 ka0 x26_) mT_5_85 mT_1_10 mT_5_82 mT_5_84 mP_48 okX10_refused ⟨by decide, by decide⟩ rfl (by show kO (K a0) = _; rw [ka0]; rfl) rfl rfl (Nat.le_of_ble_eq_true rfl) ⟨by decide, by decide⟩ dX10_safe_15 (aI1 (F := fun st M => P g X 3 18 [(0, .ref a0), (1, .int x1)] st _ _ M) (M := (K, len, I8, J, R)) fun x27_ I27 h27 => ?_)
      obtain ⟨hs27, hf27, k27_0, k27_1, k27_2⟩ := h27
      show P g X 3 18 [(0, .ref a0), (1, .int x1)] [.int x27_] _ _ (K, len, I27, J, R)
      have hF27 : Fr K [(11, 0), (11, 1), (11, 2), (11, 19), (85, 999), (86, 999), (87, 999), (88, 999)] I I27 := hF8.trans hf27 rfl rfl
      exact r_iret hC hQ hlk hr rfl (by decide) (by decide) dX10_safe_18 ⟨_, _, rfl, rfl, ⟨hs27, hF27, (by omega)⟩⟩
set_option maxHeartbeats 4000000 in
set_option maxRecDepth 100000 in
theorem c_X10_bore (g : GG) (l : Launch) (K len : Nat → Nat) (I : Nat → Nat → Int32) (J : Nat → Nat → Int64) (R : Nat → Nat → Option Nat) (hs : Sf K len I R) (a0 : Nat) (ka0 : K a0 = 11) : Ct g l yX10_bore cX10_bore 3 (Option.some Jvm.ClassFile.FieldType.int) rmX10_bore [.ref a0] (K, len, I, J, R) (pI1 (K, len, I, J, R) (fun r I' => Sf K len I' R ∧ Fr K [(11, 0), (11, 1), (11, 2), (11, 19), (85, 999), (86, 999), (87, 999), (88, 999), (93, 999)] I I' ∧ ((I' a0 2).toInt = -1))) := by
  refine Ct_intro (by decide +kernel) (Nat.le_of_ble_eq_true rfl) (fun X hC hL hKK hNm hr hlk hQ => ?_)
  subst hL
  have hC : Cx g X cX10_bore "HillTapModel" 3 rmX10_bore := hC
  show P g X 3 0 [(0, .ref a0)] [] 0 0 (K, len, I, J, R)
  have hF : Fr K [(11, 0), (11, 1), (11, 2), (11, 19), (85, 999), (86, 999), (87, 999), (88, 999), (93, 999)] I I := Fr.refl
  rcases hs.2.1.2.2.1 a0 ka0 with hz | ⟨hm, hbm, khm⟩
  · refine r_aload_n hC dX10_bore_0 0 rfl ?_
    refine r_iconst hC (v := (0)) dX10_bore_1 (by decide) (by decide) (fun x1_ e1 t1 => ?_)
    refine r_puti hC 0 (ci := 10) rfl u10_in tyX10_ok nmX10 (by decide) mT_4_235 rfl rfl rfl dX10_bore_2 ka0 rfl rfl (fun I2 eI2 => ?_)
    have hs2 := hs.put0 eI2 ka0 rfl rfl rfl (by decide)
    have hF2 := hF.put eI2 ka0 rfl
    refine r_aload_n hC dX10_bore_5 0 rfl ?_
    refine r_getz hC 3 (ci := 10) rfl u10_in (by decide) mT_4_238 dX10_bore_6 ka0 rfl rfl hz ?_
    refine r_ifnonnullN hC dX10_bore_9 ?_
    refine r_aload_n hC dX10_bore_12 0 rfl ?_
    refine r_iconst hC (v := (1)) dX10_bore_13 (by decide) (by decide) (fun x3_ e3 t3 => ?_)
    refine r_callV hC (As := [.int x3_]) (rest := []) (ci := 10) (c_X10_refused g (xL X) K len I2 J R hs2 a0 ka0 x3_) mT_5_85 mT_1_10 mT_5_82 mT_5_84 mP_48 okX10_refused ⟨by decide, by decide⟩ rfl (by show kO (K a0) = _; rw [ka0]; rfl) rfl rfl (Nat.le_of_ble_eq_true rfl) ⟨by decide, by decide⟩ dX10_bore_14 (aI1 (F := fun st M => P g X 3 17 [(0, .ref a0)] st _ _ M) (M := (K, len, I2, J, R)) fun x4_ I4 h4 => ?_)
    obtain ⟨hs4, hf4, k4_0, k4_1, k4_2⟩ := h4
    show P g X 3 17 [(0, .ref a0)] [.int x4_] _ _ (K, len, I4, J, R)
    have hF4 : Fr K [(11, 0), (11, 1), (11, 2), (11, 19), (85, 999), (86, 999), (87, 999), (88, 999), (93, 999)] I I4 := hF2.trans hf4 rfl rfl
    exact r_iret hC hQ hlk hr rfl (by decide) (by decide) dX10_bore_17 ⟨_, _, rfl, rfl, ⟨hs4, hF4, (by omega)⟩⟩
  · obtain ⟨S0, eS0⟩ : ∃ z : Int32, z = I hm 7 := ⟨_, rfl⟩
    have fS0 : S0.toInt = (I hm 7).toInt := by rw [eS0]
    have rS0 := hs.rng khm rfl eS0
    refine r_aload_n hC dX10_bore_0 0 rfl ?_
    refine r_iconst hC (v := (0)) dX10_bore_1 (by decide) (by decide) (fun x5_ e5 t5 => ?_)
    refine r_puti hC 0 (ci := 10) rfl u10_in tyX10_ok nmX10 (by decide) mT_4_235 rfl rfl rfl dX10_bore_2 ka0 rfl rfl (fun I6 eI6 => ?_)
    have hs6 := hs.put0 eI6 ka0 rfl rfl rfl (by decide)
    have hF6 := hF.put eI6 ka0 rfl
    refine r_aload_n hC dX10_bore_5 0 rfl ?_
    refine r_getr hC 3 (ci := 10) rfl u10_in (by decide) mT_4_238 dX10_bore_6 ka0 rfl rfl hbm ?_
    refine r_ifnonnull hC (tgt := 18) dX10_bore_9 (by decide) ?_
    refine r_aload_n hC dX10_bore_18 0 rfl ?_
    refine r_callV hC (As := []) (rest := []) (ci := 10) (c_X10_weighs g (xL X) K len I6 J R hs6 a0 ka0 hm hbm khm) mT_6_200 mT_1_10 mT_6_197 mT_6_199 mP_84 okX10_weighs ⟨by decide, by decide⟩ rfl (by show kO (K a0) = _; rw [ka0]; rfl) rfl rfl (Nat.le_of_ble_eq_true rfl) ⟨by decide, by decide⟩ dX10_bore_19 (aI1 (F := fun st M => P g X 3 22 [(0, .ref a0)] st _ _ M) (M := (K, len, I6, J, R)) fun x7_ I7 h7 => ?_)
    obtain ⟨hs7, hf7⟩ := h7
    show P g X 3 22 [(0, .ref a0)] [.int x7_] _ _ (K, len, I7, J, R)
    have hF7 : Fr K [(11, 0), (11, 1), (11, 2), (11, 19), (85, 999), (86, 999), (87, 999), (88, 999), (93, 999)] I I7 := hF6.trans hf7 rfl rfl
    refine r_if_ne hC (tgt := 32) dX10_bore_22 (by decide) (fun c8 => ?_) (fun c8 => ?_)
    · refine r_iconst hC (v := (0)) dX10_bore_32 (by decide) (by decide) (fun x9_ e9 t9 => ?_)
      refine r_istore_n hC (lv' := [(1, .int x9_), (0, .ref a0)]) dX10_bore_33 (by decide) rfl ?_
      refine r_iconst hC (v := (1)) dX10_bore_34 (by decide) (by decide) (fun x10_ e10 t10 => ?_)
      refine r_istore_n hC (lv' := [(2, .int x10_), (1, .int x9_), (0, .ref a0)]) dX10_bore_35 (by decide) rfl ?_
      have LP11 : ∀ (mu : Nat) (x11_2 : Int32) (x11_1 : Int32) (v11_0 : 1 ≤ x11_2.toInt) (v11_1 : x11_2.toInt ≤ 100), (100 - x11_2.toInt).toNat = mu → P g X 3 36 [(0, .ref a0), (1, .int x11_1), (2, .int x11_2)] [] 0 0 (K, len, I7, J, R) := by
        intro mu; induction mu using Nat.strongRecOn with | ind mu ih => ?_
        intro x11_2 x11_1 v11_0 v11_1 hmu
        have ih11 := ih
        clear ih
        have hmu11 := hmu
        clear hmu
        refine r_iload_n hC dX10_bore_36 2 rfl ?_
        refine r_bipush hC (v := (100)) dX10_bore_37 (by decide) (by decide) (fun x12_ e12 t12 => ?_)
        refine r_icmp_ge hC (tgt := 63) dX10_bore_39 (by decide) (fun c13 => ?_) (fun c13 => ?_)
        · refine r_aload_n hC dX10_bore_63 0 rfl ?_
          refine r_iload_n hC dX10_bore_64 1 rfl ?_
          refine r_callV hC (As := [.int x11_1]) (rest := []) (ci := 10) (c_X10_done g (xL X) K len I7 J R hs7 a0 ka0 x11_1) mT_6_79 mT_1_10 mT_6_76 mT_6_78 mP_67 okX10_done ⟨by decide, by decide⟩ rfl (by show kO (K a0) = _; rw [ka0]; rfl) rfl rfl (Nat.le_of_ble_eq_true rfl) ⟨by decide, by decide⟩ dX10_bore_65 (aI1 (F := fun st M => P g X 3 68 [(0, .ref a0), (1, .int x11_1), (2, .int x11_2)] st _ _ M) (M := (K, len, I7, J, R)) fun x14_ I14 h14 => ?_)
          obtain ⟨hs14, hf14, k14_0, k14_1, k14_2⟩ := h14
          show P g X 3 68 [(0, .ref a0), (1, .int x11_1), (2, .int x11_2)] [.int x14_] _ _ (K, len, I14, J, R)
          have hF14 : Fr K [(11, 0), (11, 1), (11, 2), (11, 19), (85, 999), (86, 999), (87, 999), (88, 999), (93, 999)] I I14 := hF7.trans hf14 rfl rfl
          exact r_iret hC hQ hlk hr rfl (by decide) (by decide) dX10_bore_68 ⟨_, _, rfl, rfl, ⟨hs14, hF14, (by omega)⟩⟩
        · refine r_aload_n hC dX10_bore_42 0 rfl ?_
          refine r_iload_n hC dX10_bore_43 2 rfl ?_
          refine r_callV hC (As := [.int x11_2]) (rest := []) (ci := 10) (c_X10_alikeAt g (xL X) K len I7 J R hs7 a0 ka0 x11_2 hm hbm khm) mT_7_43 mT_1_10 mT_7_40 mT_7_42 mP_93 okX10_alikeAt ⟨by decide, by decide⟩ rfl (by show kO (K a0) = _; rw [ka0]; rfl) rfl rfl (Nat.le_of_ble_eq_true rfl) ⟨by decide, by decide⟩ dX10_bore_44 (aI0 (F := fun st M => P g X 3 47 [(0, .ref a0), (1, .int x11_1), (2, .int x11_2)] st _ _ M) (M := (K, len, I7, J, R)) fun x15_ h15 => ?_)
          skip
          show P g X 3 47 [(0, .ref a0), (1, .int x11_1), (2, .int x11_2)] [.int x15_] _ _ (K, len, I7, J, R)
          refine r_aload_n hC dX10_bore_47 0 rfl ?_
          refine r_iload_n hC dX10_bore_48 1 rfl ?_
          refine r_callV hC (As := [.int x11_1]) (rest := [.int x15_]) (ci := 10) (c_X10_alikeAt g (xL X) K len I7 J R hs7 a0 ka0 x11_1 hm hbm khm) mT_7_43 mT_1_10 mT_7_40 mT_7_42 mP_93 okX10_alikeAt ⟨by decide, by decide⟩ rfl (by show kO (K a0) = _; rw [ka0]; rfl) rfl rfl (Nat.le_of_ble_eq_true rfl) ⟨by decide, by decide⟩ dX10_bore_49 (aI0 (F := fun st M => P g X 3 52 [(0, .ref a0), (1, .int x11_1), (2, .int x11_2)] st _ _ M) (M := (K, len, I7, J, R)) fun x16_ h16 => ?_)
          skip
          show P g X 3 52 [(0, .ref a0), (1, .int x11_1), (2, .int x11_2)] [.int x16_, .int x15_] _ _ (K, len, I7, J, R)
          refine r_icmp_ge hC (tgt := 57) dX10_bore_52 (by decide) (fun c17 => ?_) (fun c17 => ?_)
          · obtain ⟨x18_, e18⟩ : ∃ z : Int32, z = x11_2 + Int32.ofInt (1) := ⟨_, rfl⟩
            refine r_iinc hC (j := 2) (v := x18_) (lv' := [(2, .int x18_), (0, .ref a0), (1, .int x11_1)]) dX10_bore_57 rfl (by rw [e18]) (by decide) rfl ?_
            try have t18 : x18_.toInt = x11_2.toInt + (1) := by rw [e18]; exact (ti_add (b := Int32.ofInt (1)) (by show _ ≤ _ + (1 : Int); omega) (by show _ + (1 : Int) ≤ _; omega))
            refine r_goto hC (tgt := 36) dX10_bore_60 (by decide) ?_
            refine r_sub [1, 2, 0] rfl ?_
            exact ih11 ((100 - x18_.toInt).toNat) (by omega) x18_ x11_1 (by omega) (by omega) rfl
          · refine r_iload_n hC dX10_bore_55 2 rfl ?_
            refine r_istore_n hC (lv' := [(1, .int x11_2), (0, .ref a0), (2, .int x11_2)]) dX10_bore_56 (by decide) rfl ?_
            obtain ⟨x19_, e19⟩ : ∃ z : Int32, z = x11_2 + Int32.ofInt (1) := ⟨_, rfl⟩
            refine r_iinc hC (j := 2) (v := x19_) (lv' := [(2, .int x19_), (1, .int x11_2), (0, .ref a0)]) dX10_bore_57 rfl (by rw [e19]) (by decide) rfl ?_
            try have t19 : x19_.toInt = x11_2.toInt + (1) := by rw [e19]; exact (ti_add (b := Int32.ofInt (1)) (by show _ ≤ _ + (1 : Int); omega) (by show _ + (1 : Int) ≤ _; omega))
            refine r_goto hC (tgt := 36) dX10_bore_60 (by decide) ?_
            refine r_sub [2, 1, 0] rfl ?_
            exact ih11 ((100 - x19_.toInt).toNat) (by omega) x19_ x11_2 (by omega) (by omega) rfl
      refine r_sub [2, 1, 0] rfl ?_
      exact LP11 _ x10_ x9_ (by omega) (by omega) rfl
    · refine r_aload_n hC dX10_bore_25 0 rfl ?_
      refine r_bipush hC (v := (6)) dX10_bore_26 (by decide) (by decide) (fun x20_ e20 t20 => ?_)
      refine r_callV hC (As := [.int x20_]) (rest := []) (ci := 10) (c_X10_refused g (xL X) K len I7 J R hs7 a0 ka0 x20_) mT_5_85 mT_1_10 mT_5_82 mT_5_84 mP_48 okX10_refused ⟨by decide, by decide⟩ rfl (by show kO (K a0) = _; rw [ka0]; rfl) rfl rfl (Nat.le_of_ble_eq_true rfl) ⟨by decide, by decide⟩ dX10_bore_28 (aI1 (F := fun st M => P g X 3 31 [(0, .ref a0)] st _ _ M) (M := (K, len, I7, J, R)) fun x21_ I21 h21 => ?_)
      obtain ⟨hs21, hf21, k21_0, k21_1, k21_2⟩ := h21
      show P g X 3 31 [(0, .ref a0)] [.int x21_] _ _ (K, len, I21, J, R)
      have hF21 : Fr K [(11, 0), (11, 1), (11, 2), (11, 19), (85, 999), (86, 999), (87, 999), (88, 999), (93, 999)] I I21 := hF7.trans hf21 rfl rfl
      exact r_iret hC hQ hlk hr rfl (by decide) (by decide) dX10_bore_31 ⟨_, _, rfl, rfl, ⟨hs21, hF21, (by omega)⟩⟩
set_option maxHeartbeats 4000000 in
set_option maxRecDepth 100000 in
theorem c_X10_struck (g : GG) (l : Launch) (K len : Nat → Nat) (I : Nat → Nat → Int32) (J : Nat → Nat → Int64) (R : Nat → Nat → Option Nat) (hs : Sf K len I R) (a0 : Nat) (ka0 : K a0 = 11) (x1 : Int32) (x2 : Int32) : Ct g l yX10_struck cX10_struck 3 (Option.some Jvm.ClassFile.FieldType.int) rmX10_struck [.ref a0, .int x1, .int x2] (K, len, I, J, R) (pI1 (K, len, I, J, R) (fun r I' => Sf K len I' R ∧ Fr K [(11, 0), (11, 1), (11, 2), (11, 19), (85, 999), (86, 999), (87, 999), (88, 999)] I I' ∧ ((I' a0 2).toInt = -1))) := by
  refine Ct_intro (by decide +kernel) (Nat.le_of_ble_eq_true rfl) (fun X hC hL hKK hNm hr hlk hQ => ?_)
  subst hL
  have hC : Cx g X cX10_struck "HillTapModel" 3 rmX10_struck := hC
  show P g X 3 0 [(0, .ref a0), (1, .int x1), (2, .int x2)] [] 0 0 (K, len, I, J, R)
  have hF : Fr K [(11, 0), (11, 1), (11, 2), (11, 19), (85, 999), (86, 999), (87, 999), (88, 999)] I I := Fr.refl
  have b_x1 := ti_rng x1
  have b_x2 := ti_rng x2
  rcases hs.2.1.2.2.1 a0 ka0 with hz | ⟨hm, hbm, khm⟩
  · refine r_aload_n hC dX10_struck_0 0 rfl ?_
    refine r_iconst hC (v := (0)) dX10_struck_1 (by decide) (by decide) (fun x1_ e1 t1 => ?_)
    refine r_puti hC 0 (ci := 10) rfl u10_in tyX10_ok nmX10 (by decide) mT_4_235 rfl rfl rfl dX10_struck_2 ka0 rfl rfl (fun I2 eI2 => ?_)
    have hs2 := hs.put0 eI2 ka0 rfl rfl rfl (by decide)
    have hF2 := hF.put eI2 ka0 rfl
    refine r_aload_n hC dX10_struck_5 0 rfl ?_
    refine r_iload_n hC dX10_struck_6 1 rfl ?_
    refine r_callV hC (As := [.int x1]) (rest := []) (ci := 10) (c_X10_isStory g (xL X) K len I2 J R hs2 a0 ka0 x1) mT_6_119 mT_1_10 mT_6_116 mT_6_118 mP_71 okX10_isStory ⟨by decide, by decide⟩ rfl (by show kO (K a0) = _; rw [ka0]; rfl) rfl rfl (Nat.le_of_ble_eq_true rfl) ⟨by decide, by decide⟩ dX10_struck_7 (aI0 (F := fun st M => P g X 3 10 [(0, .ref a0), (1, .int x1), (2, .int x2)] st _ _ M) (M := (K, len, I2, J, R)) fun x3_ h3 => ?_)
    obtain ⟨k3_0, k3_1, k3_2, k3_3, k3_4⟩ := h3
    show P g X 3 10 [(0, .ref a0), (1, .int x1), (2, .int x2)] [.int x3_] _ _ (K, len, I2, J, R)
    refine r_if_eq hC (tgt := 21) dX10_struck_10 (by decide) (fun c4 => ?_) (fun c4 => ?_)
    · refine r_aload_n hC dX10_struck_21 0 rfl ?_
      refine r_iconst hC (v := (1)) dX10_struck_22 (by decide) (by decide) (fun x5_ e5 t5 => ?_)
      refine r_callV hC (As := [.int x5_]) (rest := []) (ci := 10) (c_X10_refused g (xL X) K len I2 J R hs2 a0 ka0 x5_) mT_5_85 mT_1_10 mT_5_82 mT_5_84 mP_48 okX10_refused ⟨by decide, by decide⟩ rfl (by show kO (K a0) = _; rw [ka0]; rfl) rfl rfl (Nat.le_of_ble_eq_true rfl) ⟨by decide, by decide⟩ dX10_struck_23 (aI1 (F := fun st M => P g X 3 26 [(0, .ref a0), (1, .int x1), (2, .int x2)] st _ _ M) (M := (K, len, I2, J, R)) fun x6_ I6 h6 => ?_)
      obtain ⟨hs6, hf6, k6_0, k6_1, k6_2⟩ := h6
      show P g X 3 26 [(0, .ref a0), (1, .int x1), (2, .int x2)] [.int x6_] _ _ (K, len, I6, J, R)
      have hF6 : Fr K [(11, 0), (11, 1), (11, 2), (11, 19), (85, 999), (86, 999), (87, 999), (88, 999)] I I6 := hF2.trans hf6 rfl rfl
      exact r_iret hC hQ hlk hr rfl (by decide) (by decide) dX10_struck_26 ⟨_, _, rfl, rfl, ⟨hs6, hF6, (by omega)⟩⟩
    · refine r_aload_n hC dX10_struck_13 0 rfl ?_
      refine r_iload_n hC dX10_struck_14 2 rfl ?_
      refine r_callV hC (As := [.int x2]) (rest := []) (ci := 10) (c_X10_isVillage g (xL X) K len I2 J R hs2 a0 ka0 x2) mT_7_51 mT_1_10 mT_7_48 mT_7_50 mP_94 okX10_isVillage ⟨by decide, by decide⟩ rfl (by show kO (K a0) = _; rw [ka0]; rfl) rfl rfl (Nat.le_of_ble_eq_true rfl) ⟨by decide, by decide⟩ dX10_struck_15 (aI0 (F := fun st M => P g X 3 18 [(0, .ref a0), (1, .int x1), (2, .int x2)] st _ _ M) (M := (K, len, I2, J, R)) fun x7_ h7 => ?_)
      obtain ⟨k7_0, k7_1, k7_2, k7_3⟩ := h7
      show P g X 3 18 [(0, .ref a0), (1, .int x1), (2, .int x2)] [.int x7_] _ _ (K, len, I2, J, R)
      refine r_if_ne hC (tgt := 27) dX10_struck_18 (by decide) (fun c8 => ?_) (fun c8 => ?_)
      · refine r_aload_n hC dX10_struck_27 0 rfl ?_
        refine r_iload_n hC dX10_struck_28 1 rfl ?_
        first | exact absurd hz (k3_2 (by omega)) | exact absurd hz (k7_2 (by omega))
      · refine r_aload_n hC dX10_struck_21 0 rfl ?_
        refine r_iconst hC (v := (1)) dX10_struck_22 (by decide) (by decide) (fun x9_ e9 t9 => ?_)
        refine r_callV hC (As := [.int x9_]) (rest := []) (ci := 10) (c_X10_refused g (xL X) K len I2 J R hs2 a0 ka0 x9_) mT_5_85 mT_1_10 mT_5_82 mT_5_84 mP_48 okX10_refused ⟨by decide, by decide⟩ rfl (by show kO (K a0) = _; rw [ka0]; rfl) rfl rfl (Nat.le_of_ble_eq_true rfl) ⟨by decide, by decide⟩ dX10_struck_23 (aI1 (F := fun st M => P g X 3 26 [(0, .ref a0), (1, .int x1), (2, .int x2)] st _ _ M) (M := (K, len, I2, J, R)) fun x10_ I10 h10 => ?_)
        obtain ⟨hs10, hf10, k10_0, k10_1, k10_2⟩ := h10
        show P g X 3 26 [(0, .ref a0), (1, .int x1), (2, .int x2)] [.int x10_] _ _ (K, len, I10, J, R)
        have hF10 : Fr K [(11, 0), (11, 1), (11, 2), (11, 19), (85, 999), (86, 999), (87, 999), (88, 999)] I I10 := hF2.trans hf10 rfl rfl
        exact r_iret hC hQ hlk hr rfl (by decide) (by decide) dX10_struck_26 ⟨_, _, rfl, rfl, ⟨hs10, hF10, (by omega)⟩⟩
  · obtain ⟨S0, eS0⟩ : ∃ z : Int32, z = I hm 7 := ⟨_, rfl⟩
    have fS0 : S0.toInt = (I hm 7).toInt := by rw [eS0]
    have rS0 := hs.rng khm rfl eS0
    refine r_aload_n hC dX10_struck_0 0 rfl ?_
    refine r_iconst hC (v := (0)) dX10_struck_1 (by decide) (by decide) (fun x11_ e11 t11 => ?_)
    refine r_puti hC 0 (ci := 10) rfl u10_in tyX10_ok nmX10 (by decide) mT_4_235 rfl rfl rfl dX10_struck_2 ka0 rfl rfl (fun I12 eI12 => ?_)
    have hs12 := hs.put0 eI12 ka0 rfl rfl rfl (by decide)
    have hF12 := hF.put eI12 ka0 rfl
    refine r_aload_n hC dX10_struck_5 0 rfl ?_
    refine r_iload_n hC dX10_struck_6 1 rfl ?_
    refine r_callV hC (As := [.int x1]) (rest := []) (ci := 10) (c_X10_isStory g (xL X) K len I12 J R hs12 a0 ka0 x1) mT_6_119 mT_1_10 mT_6_116 mT_6_118 mP_71 okX10_isStory ⟨by decide, by decide⟩ rfl (by show kO (K a0) = _; rw [ka0]; rfl) rfl rfl (Nat.le_of_ble_eq_true rfl) ⟨by decide, by decide⟩ dX10_struck_7 (aI0 (F := fun st M => P g X 3 10 [(0, .ref a0), (1, .int x1), (2, .int x2)] st _ _ M) (M := (K, len, I12, J, R)) fun x13_ h13 => ?_)
    obtain ⟨k13_0, k13_1, k13_2, k13_3, k13_4⟩ := h13
    show P g X 3 10 [(0, .ref a0), (1, .int x1), (2, .int x2)] [.int x13_] _ _ (K, len, I12, J, R)
    have z13 := fun h9 => k13_4 h9 hm hbm
    have vz13 : (I12 hm 7).toInt = S0.toInt := congrArg Int32.toInt (Eq.trans (up2_kk eI12 ka0 khm (by decide)) eS0.symm)
    refine r_if_eq hC (tgt := 21) dX10_struck_10 (by decide) (fun c14 => ?_) (fun c14 => ?_)
    · refine r_aload_n hC dX10_struck_21 0 rfl ?_
      refine r_iconst hC (v := (1)) dX10_struck_22 (by decide) (by decide) (fun x15_ e15 t15 => ?_)
      refine r_callV hC (As := [.int x15_]) (rest := []) (ci := 10) (c_X10_refused g (xL X) K len I12 J R hs12 a0 ka0 x15_) mT_5_85 mT_1_10 mT_5_82 mT_5_84 mP_48 okX10_refused ⟨by decide, by decide⟩ rfl (by show kO (K a0) = _; rw [ka0]; rfl) rfl rfl (Nat.le_of_ble_eq_true rfl) ⟨by decide, by decide⟩ dX10_struck_23 (aI1 (F := fun st M => P g X 3 26 [(0, .ref a0), (1, .int x1), (2, .int x2)] st _ _ M) (M := (K, len, I12, J, R)) fun x16_ I16 h16 => ?_)
      obtain ⟨hs16, hf16, k16_0, k16_1, k16_2⟩ := h16
      show P g X 3 26 [(0, .ref a0), (1, .int x1), (2, .int x2)] [.int x16_] _ _ (K, len, I16, J, R)
      have hF16 : Fr K [(11, 0), (11, 1), (11, 2), (11, 19), (85, 999), (86, 999), (87, 999), (88, 999)] I I16 := hF12.trans hf16 rfl rfl
      exact r_iret hC hQ hlk hr rfl (by decide) (by decide) dX10_struck_26 ⟨_, _, rfl, rfl, ⟨hs16, hF16, (by omega)⟩⟩
    · refine r_aload_n hC dX10_struck_13 0 rfl ?_
      refine r_iload_n hC dX10_struck_14 2 rfl ?_
      refine r_callV hC (As := [.int x2]) (rest := []) (ci := 10) (c_X10_isVillage g (xL X) K len I12 J R hs12 a0 ka0 x2) mT_7_51 mT_1_10 mT_7_48 mT_7_50 mP_94 okX10_isVillage ⟨by decide, by decide⟩ rfl (by show kO (K a0) = _; rw [ka0]; rfl) rfl rfl (Nat.le_of_ble_eq_true rfl) ⟨by decide, by decide⟩ dX10_struck_15 (aI0 (F := fun st M => P g X 3 18 [(0, .ref a0), (1, .int x1), (2, .int x2)] st _ _ M) (M := (K, len, I12, J, R)) fun x17_ h17 => ?_)
      obtain ⟨k17_0, k17_1, k17_2, k17_3⟩ := h17
      show P g X 3 18 [(0, .ref a0), (1, .int x1), (2, .int x2)] [.int x17_] _ _ (K, len, I12, J, R)
      refine r_if_ne hC (tgt := 27) dX10_struck_18 (by decide) (fun c18 => ?_) (fun c18 => ?_)
      · refine r_aload_n hC dX10_struck_27 0 rfl ?_
        refine r_iload_n hC dX10_struck_28 1 rfl ?_
        have hv19 : I12 hm 7 = S0 := (Eq.trans (up2_kk eI12 ka0 khm (by decide)) eS0.symm)
        refine r_callV hC (As := [.int x1]) (rest := []) (ci := 10) (c_X10_runsAsTold g (xL X) K len I12 J R hs12 a0 ka0 x1 hm hbm khm (by rw [hv19]; omega) (by omega) (by omega)) mT_6_127 mT_1_10 mT_6_124 mT_6_126 mP_73 okX10_runsAsTold ⟨by decide, by decide⟩ rfl (by show kO (K a0) = _; rw [ka0]; rfl) rfl rfl (Nat.le_of_ble_eq_true rfl) ⟨by decide, by decide⟩ dX10_struck_29 (aV1 (F := fun st M => P g X 3 32 [(0, .ref a0), (1, .int x1), (2, .int x2)] st _ _ M) (M := (K, len, I12, J, R)) fun I20 h20 => ?_)
        obtain ⟨hs20, hf20⟩ := h20
        show P g X 3 32 [(0, .ref a0), (1, .int x1), (2, .int x2)] [] _ _ (K, len, I20, J, R)
        have hF20 : Fr K [(11, 0), (11, 1), (11, 2), (11, 19), (85, 999), (86, 999), (87, 999), (88, 999)] I I20 := hF12.trans hf20 rfl rfl
        refine r_aload_n hC dX10_struck_32 0 rfl ?_
        refine r_aload_n hC dX10_struck_33 0 rfl ?_
        refine r_iload_n hC dX10_struck_34 2 rfl ?_
        refine r_callV hC (As := [.int x2]) (rest := [.ref a0]) (ci := 10) (c_X10_isStruck g (xL X) K len I20 J R hs20 a0 ka0 x2 hm hbm khm (by omega) (by omega)) mT_7_55 mT_1_10 mT_7_52 mT_7_54 mP_95 okX10_isStruck ⟨by decide, by decide⟩ rfl (by show kO (K a0) = _; rw [ka0]; rfl) rfl rfl (Nat.le_of_ble_eq_true rfl) ⟨by decide, by decide⟩ dX10_struck_35 (aI0 (F := fun st M => P g X 3 38 [(0, .ref a0), (1, .int x1), (2, .int x2)] st _ _ M) (M := (K, len, I20, J, R)) fun x21_ h21 => ?_)
        obtain ⟨k21_0, k21_1⟩ := h21
        show P g X 3 38 [(0, .ref a0), (1, .int x1), (2, .int x2)] [.int x21_, .ref a0] _ _ (K, len, I20, J, R)
        refine r_if_eq hC (tgt := 45) dX10_struck_38 (by decide) (fun c22 => ?_) (fun c22 => ?_)
        · refine r_iconst hC (v := (0)) dX10_struck_45 (by decide) (by decide) (fun x23_ e23 t23 => ?_)
          refine r_callV hC (As := [.int x23_]) (rest := []) (ci := 10) (c_X10_done g (xL X) K len I20 J R hs20 a0 ka0 x23_) mT_6_79 mT_1_10 mT_6_76 mT_6_78 mP_67 okX10_done ⟨by decide, by decide⟩ rfl (by show kO (K a0) = _; rw [ka0]; rfl) rfl rfl (Nat.le_of_ble_eq_true rfl) ⟨by decide, by decide⟩ dX10_struck_46 (aI1 (F := fun st M => P g X 3 49 [(0, .ref a0), (1, .int x1), (2, .int x2)] st _ _ M) (M := (K, len, I20, J, R)) fun x24_ I24 h24 => ?_)
          obtain ⟨hs24, hf24, k24_0, k24_1, k24_2⟩ := h24
          show P g X 3 49 [(0, .ref a0), (1, .int x1), (2, .int x2)] [.int x24_] _ _ (K, len, I24, J, R)
          have hF24 : Fr K [(11, 0), (11, 1), (11, 2), (11, 19), (85, 999), (86, 999), (87, 999), (88, 999)] I I24 := hF20.trans hf24 rfl rfl
          exact r_iret hC hQ hlk hr rfl (by decide) (by decide) dX10_struck_49 ⟨_, _, rfl, rfl, ⟨hs24, hF24, (by omega)⟩⟩
        · refine r_iconst hC (v := (1)) dX10_struck_41 (by decide) (by decide) (fun x25_ e25 t25 => ?_)
          refine r_goto hC (tgt := 46) dX10_struck_42 (by decide) ?_
          refine r_callV hC (As := [.int x25_]) (rest := []) (ci := 10) (c_X10_done g (xL X) K len I20 J R hs20 a0 ka0 x25_) mT_6_79 mT_1_10 mT_6_76 mT_6_78 mP_67 okX10_done ⟨by decide, by decide⟩ rfl (by show kO (K a0) = _; rw [ka0]; rfl) rfl rfl (Nat.le_of_ble_eq_true rfl) ⟨by decide, by decide⟩ dX10_struck_46 (aI1 (F := fun st M => P g X 3 49 [(0, .ref a0), (1, .int x1), (2, .int x2)] st _ _ M) (M := (K, len, I20, J, R)) fun x26_ I26 h26 => ?_)
          obtain ⟨hs26, hf26, k26_0, k26_1, k26_2⟩ := h26
          show P g X 3 49 [(0, .ref a0), (1, .int x1), (2, .int x2)] [.int x26_] _ _ (K, len, I26, J, R)
          have hF26 : Fr K [(11, 0), (11, 1), (11, 2), (11, 19), (85, 999), (86, 999), (87, 999), (88, 999)] I I26 := hF20.trans hf26 rfl rfl
          exact r_iret hC hQ hlk hr rfl (by decide) (by decide) dX10_struck_49 ⟨_, _, rfl, rfl, ⟨hs26, hF26, (by omega)⟩⟩
      · refine r_aload_n hC dX10_struck_21 0 rfl ?_
        refine r_iconst hC (v := (1)) dX10_struck_22 (by decide) (by decide) (fun x27_ e27 t27 => ?_)
        refine r_callV hC (As := [.int x27_]) (rest := []) (ci := 10) (c_X10_refused g (xL X) K len I12 J R hs12 a0 ka0 x27_) mT_5_85 mT_1_10 mT_5_82 mT_5_84 mP_48 okX10_refused ⟨by decide, by decide⟩ rfl (by show kO (K a0) = _; rw [ka0]; rfl) rfl rfl (Nat.le_of_ble_eq_true rfl) ⟨by decide, by decide⟩ dX10_struck_23 (aI1 (F := fun st M => P g X 3 26 [(0, .ref a0), (1, .int x1), (2, .int x2)] st _ _ M) (M := (K, len, I12, J, R)) fun x28_ I28 h28 => ?_)
        obtain ⟨hs28, hf28, k28_0, k28_1, k28_2⟩ := h28
        show P g X 3 26 [(0, .ref a0), (1, .int x1), (2, .int x2)] [.int x28_] _ _ (K, len, I28, J, R)
        have hF28 : Fr K [(11, 0), (11, 1), (11, 2), (11, 19), (85, 999), (86, 999), (87, 999), (88, 999)] I I28 := hF12.trans hf28 rfl rfl
        exact r_iret hC hQ hlk hr rfl (by decide) (by decide) dX10_struck_26 ⟨_, _, rfl, rfl, ⟨hs28, hF28, (by omega)⟩⟩
set_option maxHeartbeats 4000000 in
set_option maxRecDepth 100000 in
theorem c_X10_dead (g : GG) (l : Launch) (K len : Nat → Nat) (I : Nat → Nat → Int32) (J : Nat → Nat → Int64) (R : Nat → Nat → Option Nat) (hs : Sf K len I R) (a0 : Nat) (ka0 : K a0 = 11) (x1 : Int32) (x2 : Int32) : Ct g l yX10_dead cX10_dead 5 (Option.some Jvm.ClassFile.FieldType.int) rmX10_dead [.ref a0, .int x1, .int x2] (K, len, I, J, R) (pI1 (K, len, I, J, R) (fun r I' => Sf K len I' R ∧ Fr K [(11, 0), (11, 1), (11, 2), (11, 19), (85, 999), (86, 999), (87, 999), (88, 999)] I I' ∧ ((I' a0 2).toInt = -1))) := by
  refine Ct_intro (by decide +kernel) (Nat.le_of_ble_eq_true rfl) (fun X hC hL hKK hNm hr hlk hQ => ?_)
  subst hL
  have hC : Cx g X cX10_dead "HillTapModel" 5 rmX10_dead := hC
  show P g X 5 0 [(0, .ref a0), (1, .int x1), (2, .int x2)] [] 0 0 (K, len, I, J, R)
  have hF : Fr K [(11, 0), (11, 1), (11, 2), (11, 19), (85, 999), (86, 999), (87, 999), (88, 999)] I I := Fr.refl
  have b_x1 := ti_rng x1
  have b_x2 := ti_rng x2
  rcases hs.2.1.2.2.1 a0 ka0 with hz | ⟨hm, hbm, khm⟩
  · refine r_aload_n hC dX10_dead_0 0 rfl ?_
    refine r_iconst hC (v := (0)) dX10_dead_1 (by decide) (by decide) (fun x1_ e1 t1 => ?_)
    refine r_puti hC 0 (ci := 10) rfl u10_in tyX10_ok nmX10 (by decide) mT_4_235 rfl rfl rfl dX10_dead_2 ka0 rfl rfl (fun I2 eI2 => ?_)
    have hs2 := hs.put0 eI2 ka0 rfl rfl rfl (by decide)
    have hF2 := hF.put eI2 ka0 rfl
    refine r_aload_n hC dX10_dead_5 0 rfl ?_
    refine r_iload_n hC dX10_dead_6 1 rfl ?_
    refine r_callV hC (As := [.int x1]) (rest := []) (ci := 10) (c_X10_isStory g (xL X) K len I2 J R hs2 a0 ka0 x1) mT_6_119 mT_1_10 mT_6_116 mT_6_118 mP_71 okX10_isStory ⟨by decide, by decide⟩ rfl (by show kO (K a0) = _; rw [ka0]; rfl) rfl rfl (Nat.le_of_ble_eq_true rfl) ⟨by decide, by decide⟩ dX10_dead_7 (aI0 (F := fun st M => P g X 5 10 [(0, .ref a0), (1, .int x1), (2, .int x2)] st _ _ M) (M := (K, len, I2, J, R)) fun x3_ h3 => ?_)
    obtain ⟨k3_0, k3_1, k3_2, k3_3, k3_4⟩ := h3
    show P g X 5 10 [(0, .ref a0), (1, .int x1), (2, .int x2)] [.int x3_] _ _ (K, len, I2, J, R)
    refine r_if_eq hC (tgt := 21) dX10_dead_10 (by decide) (fun c4 => ?_) (fun c4 => ?_)
    · refine r_aload_n hC dX10_dead_21 0 rfl ?_
      refine r_iconst hC (v := (1)) dX10_dead_22 (by decide) (by decide) (fun x5_ e5 t5 => ?_)
      refine r_callV hC (As := [.int x5_]) (rest := []) (ci := 10) (c_X10_refused g (xL X) K len I2 J R hs2 a0 ka0 x5_) mT_5_85 mT_1_10 mT_5_82 mT_5_84 mP_48 okX10_refused ⟨by decide, by decide⟩ rfl (by show kO (K a0) = _; rw [ka0]; rfl) rfl rfl (Nat.le_of_ble_eq_true rfl) ⟨by decide, by decide⟩ dX10_dead_23 (aI1 (F := fun st M => P g X 5 26 [(0, .ref a0), (1, .int x1), (2, .int x2)] st _ _ M) (M := (K, len, I2, J, R)) fun x6_ I6 h6 => ?_)
      obtain ⟨hs6, hf6, k6_0, k6_1, k6_2⟩ := h6
      show P g X 5 26 [(0, .ref a0), (1, .int x1), (2, .int x2)] [.int x6_] _ _ (K, len, I6, J, R)
      have hF6 : Fr K [(11, 0), (11, 1), (11, 2), (11, 19), (85, 999), (86, 999), (87, 999), (88, 999)] I I6 := hF2.trans hf6 rfl rfl
      exact r_iret hC hQ hlk hr rfl (by decide) (by decide) dX10_dead_26 ⟨_, _, rfl, rfl, ⟨hs6, hF6, (by omega)⟩⟩
    · refine r_aload_n hC dX10_dead_13 0 rfl ?_
      refine r_iload_n hC dX10_dead_14 2 rfl ?_
      refine r_callV hC (As := [.int x2]) (rest := []) (ci := 10) (c_X10_isDay g (xL X) K len I2 J R hs2 a0 ka0 x2) mT_6_95 mT_1_10 mT_6_92 mT_6_94 mP_68 okX10_isDay ⟨by decide, by decide⟩ rfl (by show kO (K a0) = _; rw [ka0]; rfl) rfl rfl (Nat.le_of_ble_eq_true rfl) ⟨by decide, by decide⟩ dX10_dead_15 (aI0 (F := fun st M => P g X 5 18 [(0, .ref a0), (1, .int x1), (2, .int x2)] st _ _ M) (M := (K, len, I2, J, R)) fun x7_ h7 => ?_)
      obtain ⟨k7_0, k7_1, k7_2, k7_3⟩ := h7
      show P g X 5 18 [(0, .ref a0), (1, .int x1), (2, .int x2)] [.int x7_] _ _ (K, len, I2, J, R)
      refine r_if_ne hC (tgt := 27) dX10_dead_18 (by decide) (fun c8 => ?_) (fun c8 => ?_)
      · refine r_aload_n hC dX10_dead_27 0 rfl ?_
        refine r_iload_n hC dX10_dead_28 1 rfl ?_
        first | exact absurd hz (k3_2 (by omega)) | exact absurd hz (k7_2 (by omega))
      · refine r_aload_n hC dX10_dead_21 0 rfl ?_
        refine r_iconst hC (v := (1)) dX10_dead_22 (by decide) (by decide) (fun x9_ e9 t9 => ?_)
        refine r_callV hC (As := [.int x9_]) (rest := []) (ci := 10) (c_X10_refused g (xL X) K len I2 J R hs2 a0 ka0 x9_) mT_5_85 mT_1_10 mT_5_82 mT_5_84 mP_48 okX10_refused ⟨by decide, by decide⟩ rfl (by show kO (K a0) = _; rw [ka0]; rfl) rfl rfl (Nat.le_of_ble_eq_true rfl) ⟨by decide, by decide⟩ dX10_dead_23 (aI1 (F := fun st M => P g X 5 26 [(0, .ref a0), (1, .int x1), (2, .int x2)] st _ _ M) (M := (K, len, I2, J, R)) fun x10_ I10 h10 => ?_)
        obtain ⟨hs10, hf10, k10_0, k10_1, k10_2⟩ := h10
        show P g X 5 26 [(0, .ref a0), (1, .int x1), (2, .int x2)] [.int x10_] _ _ (K, len, I10, J, R)
        have hF10 : Fr K [(11, 0), (11, 1), (11, 2), (11, 19), (85, 999), (86, 999), (87, 999), (88, 999)] I I10 := hF2.trans hf10 rfl rfl
        exact r_iret hC hQ hlk hr rfl (by decide) (by decide) dX10_dead_26 ⟨_, _, rfl, rfl, ⟨hs10, hF10, (by omega)⟩⟩
  · obtain ⟨S0, eS0⟩ : ∃ z : Int32, z = I hm 7 := ⟨_, rfl⟩
    have fS0 : S0.toInt = (I hm 7).toInt := by rw [eS0]
    have rS0 := hs.rng khm rfl eS0
    refine r_aload_n hC dX10_dead_0 0 rfl ?_
    refine r_iconst hC (v := (0)) dX10_dead_1 (by decide) (by decide) (fun x11_ e11 t11 => ?_)
    refine r_puti hC 0 (ci := 10) rfl u10_in tyX10_ok nmX10 (by decide) mT_4_235 rfl rfl rfl dX10_dead_2 ka0 rfl rfl (fun I12 eI12 => ?_)
    have hs12 := hs.put0 eI12 ka0 rfl rfl rfl (by decide)
    have hF12 := hF.put eI12 ka0 rfl
    refine r_aload_n hC dX10_dead_5 0 rfl ?_
    refine r_iload_n hC dX10_dead_6 1 rfl ?_
    refine r_callV hC (As := [.int x1]) (rest := []) (ci := 10) (c_X10_isStory g (xL X) K len I12 J R hs12 a0 ka0 x1) mT_6_119 mT_1_10 mT_6_116 mT_6_118 mP_71 okX10_isStory ⟨by decide, by decide⟩ rfl (by show kO (K a0) = _; rw [ka0]; rfl) rfl rfl (Nat.le_of_ble_eq_true rfl) ⟨by decide, by decide⟩ dX10_dead_7 (aI0 (F := fun st M => P g X 5 10 [(0, .ref a0), (1, .int x1), (2, .int x2)] st _ _ M) (M := (K, len, I12, J, R)) fun x13_ h13 => ?_)
    obtain ⟨k13_0, k13_1, k13_2, k13_3, k13_4⟩ := h13
    show P g X 5 10 [(0, .ref a0), (1, .int x1), (2, .int x2)] [.int x13_] _ _ (K, len, I12, J, R)
    have z13 := fun h9 => k13_4 h9 hm hbm
    have vz13 : (I12 hm 7).toInt = S0.toInt := congrArg Int32.toInt (Eq.trans (up2_kk eI12 ka0 khm (by decide)) eS0.symm)
    refine r_if_eq hC (tgt := 21) dX10_dead_10 (by decide) (fun c14 => ?_) (fun c14 => ?_)
    · refine r_aload_n hC dX10_dead_21 0 rfl ?_
      refine r_iconst hC (v := (1)) dX10_dead_22 (by decide) (by decide) (fun x15_ e15 t15 => ?_)
      refine r_callV hC (As := [.int x15_]) (rest := []) (ci := 10) (c_X10_refused g (xL X) K len I12 J R hs12 a0 ka0 x15_) mT_5_85 mT_1_10 mT_5_82 mT_5_84 mP_48 okX10_refused ⟨by decide, by decide⟩ rfl (by show kO (K a0) = _; rw [ka0]; rfl) rfl rfl (Nat.le_of_ble_eq_true rfl) ⟨by decide, by decide⟩ dX10_dead_23 (aI1 (F := fun st M => P g X 5 26 [(0, .ref a0), (1, .int x1), (2, .int x2)] st _ _ M) (M := (K, len, I12, J, R)) fun x16_ I16 h16 => ?_)
      obtain ⟨hs16, hf16, k16_0, k16_1, k16_2⟩ := h16
      show P g X 5 26 [(0, .ref a0), (1, .int x1), (2, .int x2)] [.int x16_] _ _ (K, len, I16, J, R)
      have hF16 : Fr K [(11, 0), (11, 1), (11, 2), (11, 19), (85, 999), (86, 999), (87, 999), (88, 999)] I I16 := hF12.trans hf16 rfl rfl
      exact r_iret hC hQ hlk hr rfl (by decide) (by decide) dX10_dead_26 ⟨_, _, rfl, rfl, ⟨hs16, hF16, (by omega)⟩⟩
    · refine r_aload_n hC dX10_dead_13 0 rfl ?_
      refine r_iload_n hC dX10_dead_14 2 rfl ?_
      refine r_callV hC (As := [.int x2]) (rest := []) (ci := 10) (c_X10_isDay g (xL X) K len I12 J R hs12 a0 ka0 x2) mT_6_95 mT_1_10 mT_6_92 mT_6_94 mP_68 okX10_isDay ⟨by decide, by decide⟩ rfl (by show kO (K a0) = _; rw [ka0]; rfl) rfl rfl (Nat.le_of_ble_eq_true rfl) ⟨by decide, by decide⟩ dX10_dead_15 (aI0 (F := fun st M => P g X 5 18 [(0, .ref a0), (1, .int x1), (2, .int x2)] st _ _ M) (M := (K, len, I12, J, R)) fun x17_ h17 => ?_)
      obtain ⟨k17_0, k17_1, k17_2, k17_3⟩ := h17
      show P g X 5 18 [(0, .ref a0), (1, .int x1), (2, .int x2)] [.int x17_] _ _ (K, len, I12, J, R)
      refine r_if_ne hC (tgt := 27) dX10_dead_18 (by decide) (fun c18 => ?_) (fun c18 => ?_)
      · refine r_aload_n hC dX10_dead_27 0 rfl ?_
        refine r_iload_n hC dX10_dead_28 1 rfl ?_
        have hv19 : I12 hm 7 = S0 := (Eq.trans (up2_kk eI12 ka0 khm (by decide)) eS0.symm)
        refine r_callV hC (As := [.int x1]) (rest := []) (ci := 10) (c_X10_runsAsTold g (xL X) K len I12 J R hs12 a0 ka0 x1 hm hbm khm (by rw [hv19]; omega) (by omega) (by omega)) mT_6_127 mT_1_10 mT_6_124 mT_6_126 mP_73 okX10_runsAsTold ⟨by decide, by decide⟩ rfl (by show kO (K a0) = _; rw [ka0]; rfl) rfl rfl (Nat.le_of_ble_eq_true rfl) ⟨by decide, by decide⟩ dX10_dead_29 (aV1 (F := fun st M => P g X 5 32 [(0, .ref a0), (1, .int x1), (2, .int x2)] st _ _ M) (M := (K, len, I12, J, R)) fun I20 h20 => ?_)
        obtain ⟨hs20, hf20⟩ := h20
        show P g X 5 32 [(0, .ref a0), (1, .int x1), (2, .int x2)] [] _ _ (K, len, I20, J, R)
        have hF20 : Fr K [(11, 0), (11, 1), (11, 2), (11, 19), (85, 999), (86, 999), (87, 999), (88, 999)] I I20 := hF12.trans hf20 rfl rfl
        refine r_iconst hC (v := (0)) dX10_dead_32 (by decide) (by decide) (fun x21_ e21 t21 => ?_)
        refine r_istore_n hC (lv' := [(3, .int x21_), (0, .ref a0), (1, .int x1), (2, .int x2)]) dX10_dead_33 (by decide) rfl ?_
        refine r_iconst hC (v := (0)) dX10_dead_34 (by decide) (by decide) (fun x22_ e22 t22 => ?_)
        refine r_istore hC (lv' := [(4, .int x22_), (3, .int x21_), (0, .ref a0), (1, .int x1), (2, .int x2)]) dX10_dead_35 (by decide) rfl ?_
        have LP23 : ∀ (mu : Nat) (x23_4 : Int32) (x23_3 : Int32) (v23_0 : 0 ≤ x23_4.toInt) (v23_1 : x23_4.toInt ≤ 4), (4 - x23_4.toInt).toNat = mu → P g X 5 37 [(0, .ref a0), (1, .int x1), (2, .int x2), (3, .int x23_3), (4, .int x23_4)] [] 0 0 (K, len, I20, J, R) := by
          intro mu; induction mu using Nat.strongRecOn with | ind mu ih => ?_
          intro x23_4 x23_3 v23_0 v23_1 hmu
          have ih23 := ih
          clear ih
          have hmu23 := hmu
          clear hmu
          refine r_iload hC dX10_dead_37 4 rfl ?_
          refine r_aload_n hC dX10_dead_39 0 rfl ?_
          refine r_getr hC 3 (ci := 10) rfl u10_in (by decide) mT_4_238 dX10_dead_40 ka0 rfl rfl hbm ?_
          refine r_getiN hC 8 (ci := 9) rfl u9_in (by decide) nF_8 dX10_dead_43 khm rfl rfl (fun x24_ e24 => ?_)
          have r24 := hs20.rng khm rfl e24
          have f24 : x24_.toInt = (I20 hm 8).toInt := by rw [e24]
          refine r_icmp_ge hC (tgt := 100) dX10_dead_46 (by decide) (fun c25 => ?_) (fun c25 => ?_)
          · refine r_aload_n hC dX10_dead_100 0 rfl ?_
            refine r_iload_n hC dX10_dead_101 3 rfl ?_
            refine r_callV hC (As := [.int x23_3]) (rest := []) (ci := 10) (c_X10_done g (xL X) K len I20 J R hs20 a0 ka0 x23_3) mT_6_79 mT_1_10 mT_6_76 mT_6_78 mP_67 okX10_done ⟨by decide, by decide⟩ rfl (by show kO (K a0) = _; rw [ka0]; rfl) rfl rfl (Nat.le_of_ble_eq_true rfl) ⟨by decide, by decide⟩ dX10_dead_102 (aI1 (F := fun st M => P g X 5 105 [(0, .ref a0), (1, .int x1), (2, .int x2), (3, .int x23_3), (4, .int x23_4)] st _ _ M) (M := (K, len, I20, J, R)) fun x26_ I26 h26 => ?_)
            obtain ⟨hs26, hf26, k26_0, k26_1, k26_2⟩ := h26
            show P g X 5 105 [(0, .ref a0), (1, .int x1), (2, .int x2), (3, .int x23_3), (4, .int x23_4)] [.int x26_] _ _ (K, len, I26, J, R)
            have hF26 : Fr K [(11, 0), (11, 1), (11, 2), (11, 19), (85, 999), (86, 999), (87, 999), (88, 999)] I I26 := hF20.trans hf26 rfl rfl
            exact r_iret hC hQ hlk hr rfl (by decide) (by decide) dX10_dead_105 ⟨_, _, rfl, rfl, ⟨hs26, hF26, (by omega)⟩⟩
          · refine r_iload_n hC dX10_dead_49 3 rfl ?_
            refine r_aload_n hC dX10_dead_50 0 rfl ?_
            refine r_iload hC dX10_dead_51 4 rfl ?_
            refine r_callV hC (As := [.int x23_4]) (rest := [.int x23_3]) (ci := 10) (c_X10_isStruck g (xL X) K len I20 J R hs20 a0 ka0 x23_4 hm hbm khm (by omega) (by omega)) mT_7_55 mT_1_10 mT_7_52 mT_7_54 mP_95 okX10_isStruck ⟨by decide, by decide⟩ rfl (by show kO (K a0) = _; rw [ka0]; rfl) rfl rfl (Nat.le_of_ble_eq_true rfl) ⟨by decide, by decide⟩ dX10_dead_53 (aI0 (F := fun st M => P g X 5 56 [(0, .ref a0), (1, .int x1), (2, .int x2), (3, .int x23_3), (4, .int x23_4)] st _ _ M) (M := (K, len, I20, J, R)) fun x27_ h27 => ?_)
            obtain ⟨k27_0, k27_1⟩ := h27
            show P g X 5 56 [(0, .ref a0), (1, .int x1), (2, .int x2), (3, .int x23_3), (4, .int x23_4)] [.int x27_, .int x23_3] _ _ (K, len, I20, J, R)
            refine r_if_eq hC (tgt := 91) dX10_dead_56 (by decide) (fun c28 => ?_) (fun c28 => ?_)
            · refine r_iconst hC (v := (0)) dX10_dead_91 (by decide) (by decide) (fun x29_ e29 t29 => ?_)
              refine r_iadd hC dX10_dead_92 (fun x30_ e30 => ?_)
              try have t30 : x30_.toInt = x23_3.toInt + x29_.toInt := by rw [e30]; exact ti_add (by omega) (by omega)
              refine r_istore_n hC (lv' := [(3, .int x30_), (0, .ref a0), (1, .int x1), (2, .int x2), (4, .int x23_4)]) dX10_dead_93 (by decide) rfl ?_
              obtain ⟨x31_, e31⟩ : ∃ z : Int32, z = x23_4 + Int32.ofInt (1) := ⟨_, rfl⟩
              refine r_iinc hC (j := 4) (v := x31_) (lv' := [(4, .int x31_), (3, .int x30_), (0, .ref a0), (1, .int x1), (2, .int x2)]) dX10_dead_94 rfl (by rw [e31]) (by decide) rfl ?_
              try have t31 : x31_.toInt = x23_4.toInt + (1) := by rw [e31]; exact (ti_add (b := Int32.ofInt (1)) (by show _ ≤ _ + (1 : Int); omega) (by show _ + (1 : Int) ≤ _; omega))
              refine r_goto hC (tgt := 37) dX10_dead_97 (by decide) ?_
              refine r_sub [2, 3, 4, 1, 0] rfl ?_
              exact ih23 ((4 - x31_.toInt).toNat) (by omega) x31_ x30_ (by omega) (by omega) rfl
            · refine r_iload_n hC dX10_dead_59 2 rfl ?_
              refine r_aload_n hC dX10_dead_60 0 rfl ?_
              refine r_getr hC 3 (ci := 10) rfl u10_in (by decide) mT_4_238 dX10_dead_61 ka0 rfl rfl hbm ?_
              obtain ⟨a32_, hb32, hk32, hn32⟩ := hs20.row khm 22 79 4 (by decide) (by decide)
              refine r_getrN hC 22 (ci := 9) rfl u9_in (by decide) nF_22 dX10_dead_64 khm rfl rfl hb32 ?_
              refine r_iload hC dX10_dead_67 4 rfl ?_
              refine x_iaload hC hk32 hn32 (by decide) rfl rfl dX10_dead_69 (by omega) (by omega) (fun x33_ e33 => ?_)
              refine r_iadd hC dX10_dead_70 (fun x34_ e34 => ?_)
              try have t34 : x34_.toInt = x2.toInt + x33_.toInt := by rw [e34]; exact ti_add (by omega) (by omega)
              refine r_aload_n hC dX10_dead_71 0 rfl ?_
              refine r_geti hC 19 (ci := 10) rfl u10_in (by decide) mT_5_14 dX10_dead_72 ka0 rfl rfl (fun x35_ e35 => ?_)
              have r35 := hs20.rng ka0 rfl e35
              have q35 := hs20.gone ka0 e35
              refine r_icmp_le hC (tgt := 91) dX10_dead_75 (by decide) (fun c36 => ?_) (fun c36 => ?_)
              · refine r_iconst hC (v := (0)) dX10_dead_91 (by decide) (by decide) (fun x37_ e37 t37 => ?_)
                refine r_iadd hC dX10_dead_92 (fun x38_ e38 => ?_)
                try have t38 : x38_.toInt = x23_3.toInt + x37_.toInt := by rw [e38]; exact ti_add (by omega) (by omega)
                refine r_istore_n hC (lv' := [(3, .int x38_), (0, .ref a0), (1, .int x1), (2, .int x2), (4, .int x23_4)]) dX10_dead_93 (by decide) rfl ?_
                obtain ⟨x39_, e39⟩ : ∃ z : Int32, z = x23_4 + Int32.ofInt (1) := ⟨_, rfl⟩
                refine r_iinc hC (j := 4) (v := x39_) (lv' := [(4, .int x39_), (3, .int x38_), (0, .ref a0), (1, .int x1), (2, .int x2)]) dX10_dead_94 rfl (by rw [e39]) (by decide) rfl ?_
                try have t39 : x39_.toInt = x23_4.toInt + (1) := by rw [e39]; exact (ti_add (b := Int32.ofInt (1)) (by show _ ≤ _ + (1 : Int); omega) (by show _ + (1 : Int) ≤ _; omega))
                refine r_goto hC (tgt := 37) dX10_dead_97 (by decide) ?_
                refine r_sub [2, 3, 4, 1, 0] rfl ?_
                exact ih23 ((4 - x39_.toInt).toNat) (by omega) x39_ x38_ (by omega) (by omega) rfl
              · refine r_aload_n hC dX10_dead_78 0 rfl ?_
                refine r_getr hC 3 (ci := 10) rfl u10_in (by decide) mT_4_238 dX10_dead_79 ka0 rfl rfl hbm ?_
                obtain ⟨a40_, hb40, hk40, hn40⟩ := hs20.row khm 21 78 4 (by decide) (by decide)
                refine r_getrN hC 21 (ci := 9) rfl u9_in (by decide) nF_21 dX10_dead_82 khm rfl rfl hb40 ?_
                refine r_iload hC dX10_dead_85 4 rfl ?_
                refine x_iaload hC hk40 hn40 (by decide) rfl rfl dX10_dead_87 (by omega) (by omega) (fun x41_ e41 => ?_)
                refine r_goto hC (tgt := 92) dX10_dead_88 (by decide) ?_
                refine r_iadd hC dX10_dead_92 (fun x42_ e42 => ?_)
                try have t42 : x42_.toInt = x23_3.toInt + x41_.toInt := by rw [e42]; exact ti_add (by omega) (by omega)
                refine r_istore_n hC (lv' := [(3, .int x42_), (0, .ref a0), (1, .int x1), (2, .int x2), (4, .int x23_4)]) dX10_dead_93 (by decide) rfl ?_
                obtain ⟨x43_, e43⟩ : ∃ z : Int32, z = x23_4 + Int32.ofInt (1) := ⟨_, rfl⟩
                refine r_iinc hC (j := 4) (v := x43_) (lv' := [(4, .int x43_), (3, .int x42_), (0, .ref a0), (1, .int x1), (2, .int x2)]) dX10_dead_94 rfl (by rw [e43]) (by decide) rfl ?_
                try have t43 : x43_.toInt = x23_4.toInt + (1) := by rw [e43]; exact (ti_add (b := Int32.ofInt (1)) (by show _ ≤ _ + (1 : Int); omega) (by show _ + (1 : Int) ≤ _; omega))
                refine r_goto hC (tgt := 37) dX10_dead_97 (by decide) ?_
                refine r_sub [2, 3, 4, 1, 0] rfl ?_
                exact ih23 ((4 - x43_.toInt).toNat) (by omega) x43_ x42_ (by omega) (by omega) rfl
        refine r_sub [2, 3, 4, 1, 0] rfl ?_
        exact LP23 _ x22_ x21_ (by omega) (by omega) rfl
      · refine r_aload_n hC dX10_dead_21 0 rfl ?_
        refine r_iconst hC (v := (1)) dX10_dead_22 (by decide) (by decide) (fun x44_ e44 t44 => ?_)
        refine r_callV hC (As := [.int x44_]) (rest := []) (ci := 10) (c_X10_refused g (xL X) K len I12 J R hs12 a0 ka0 x44_) mT_5_85 mT_1_10 mT_5_82 mT_5_84 mP_48 okX10_refused ⟨by decide, by decide⟩ rfl (by show kO (K a0) = _; rw [ka0]; rfl) rfl rfl (Nat.le_of_ble_eq_true rfl) ⟨by decide, by decide⟩ dX10_dead_23 (aI1 (F := fun st M => P g X 5 26 [(0, .ref a0), (1, .int x1), (2, .int x2)] st _ _ M) (M := (K, len, I12, J, R)) fun x45_ I45 h45 => ?_)
        obtain ⟨hs45, hf45, k45_0, k45_1, k45_2⟩ := h45
        show P g X 5 26 [(0, .ref a0), (1, .int x1), (2, .int x2)] [.int x45_] _ _ (K, len, I45, J, R)
        have hF45 : Fr K [(11, 0), (11, 1), (11, 2), (11, 19), (85, 999), (86, 999), (87, 999), (88, 999)] I I45 := hF12.trans hf45 rfl rfl
        exact r_iret hC hQ hlk hr rfl (by decide) (by decide) dX10_dead_26 ⟨_, _, rfl, rfl, ⟨hs45, hF45, (by omega)⟩⟩
set_option maxHeartbeats 4000000 in
set_option maxRecDepth 100000 in
theorem c_X10_tell (g : GG) (l : Launch) (K len : Nat → Nat) (I : Nat → Nat → Int32) (J : Nat → Nat → Int64) (R : Nat → Nat → Option Nat) (hs : Sf K len I R) (a0 : Nat) (ka0 : K a0 = 11) (x1 : Int32) (x2 : Int32) : Ct g l yX10_tell cX10_tell 9 (Option.some Jvm.ClassFile.FieldType.int) rmX10_tell [.ref a0, .int x1, .int x2] (K, len, I, J, R) (pI1 (K, len, I, J, R) (fun r I' => Sf K len I' R ∧ Fr K [(11, 0), (11, 1), (11, 2), (11, 19), (85, 999), (86, 999), (87, 999), (88, 999), (93, 999)] I I' ∧ ((I' a0 2).toInt = -1))) := by
  refine Ct_intro (by decide +kernel) (Nat.le_of_ble_eq_true rfl) (fun X hC hL hKK hNm hr hlk hQ => ?_)
  subst hL
  have hC : Cx g X cX10_tell "HillTapModel" 9 rmX10_tell := hC
  show P g X 9 0 [(0, .ref a0), (1, .int x1), (2, .int x2)] [] 0 0 (K, len, I, J, R)
  have hF : Fr K [(11, 0), (11, 1), (11, 2), (11, 19), (85, 999), (86, 999), (87, 999), (88, 999), (93, 999)] I I := Fr.refl
  have b_x1 := ti_rng x1
  have b_x2 := ti_rng x2
  rcases hs.2.1.2.2.1 a0 ka0 with hz | ⟨hm, hbm, khm⟩
  · refine r_aload_n hC dX10_tell_0 0 rfl ?_
    refine r_iconst hC (v := (0)) dX10_tell_1 (by decide) (by decide) (fun x1_ e1 t1 => ?_)
    refine r_puti hC 0 (ci := 10) rfl u10_in tyX10_ok nmX10 (by decide) mT_4_235 rfl rfl rfl dX10_tell_2 ka0 rfl rfl (fun I2 eI2 => ?_)
    have hs2 := hs.put0 eI2 ka0 rfl rfl rfl (by decide)
    have hF2 := hF.put eI2 ka0 rfl
    refine r_aload_n hC dX10_tell_5 0 rfl ?_
    refine r_iload_n hC dX10_tell_6 1 rfl ?_
    refine r_callV hC (As := [.int x1]) (rest := []) (ci := 10) (c_X10_isVillage g (xL X) K len I2 J R hs2 a0 ka0 x1) mT_7_51 mT_1_10 mT_7_48 mT_7_50 mP_94 okX10_isVillage ⟨by decide, by decide⟩ rfl (by show kO (K a0) = _; rw [ka0]; rfl) rfl rfl (Nat.le_of_ble_eq_true rfl) ⟨by decide, by decide⟩ dX10_tell_7 (aI0 (F := fun st M => P g X 9 10 [(0, .ref a0), (1, .int x1), (2, .int x2)] st _ _ M) (M := (K, len, I2, J, R)) fun x3_ h3 => ?_)
    obtain ⟨k3_0, k3_1, k3_2, k3_3⟩ := h3
    show P g X 9 10 [(0, .ref a0), (1, .int x1), (2, .int x2)] [.int x3_] _ _ (K, len, I2, J, R)
    refine r_if_ne hC (tgt := 19) dX10_tell_10 (by decide) (fun c4 => ?_) (fun c4 => ?_)
    · refine r_iload_n hC dX10_tell_19 2 rfl ?_
      refine r_iconst hC (v := (0)) dX10_tell_20 (by decide) (by decide) (fun x5_ e5 t5 => ?_)
      refine r_ldcw hC (n := 999999) (v := 999999) mT_7_64 dX10_tell_21 (by decide) (fun x6_ e6 t6 => ?_)
      refine r_callS hC (As := [.int x2, .int x5_, .int x6_]) (rest := []) (c_X10_in g (xL X) K len I2 J R hs2 x2 x5_ x6_) mT_6_8 mT_1_10 mT_6_6 mT_6_7 okX10_in ⟨by decide, by decide⟩ rfl rfl (Nat.le_of_ble_eq_true rfl) ⟨by decide, by decide⟩ dX10_tell_24 (aI0 (F := fun st M => P g X 9 27 [(0, .ref a0), (1, .int x1), (2, .int x2)] st _ _ M) (M := (K, len, I2, J, R)) fun x7_ h7 => ?_)
      obtain ⟨k7_0, k7_1, k7_2⟩ := h7
      show P g X 9 27 [(0, .ref a0), (1, .int x1), (2, .int x2)] [.int x7_] _ _ (K, len, I2, J, R)
      refine r_if_ne hC (tgt := 36) dX10_tell_27 (by decide) (fun c8 => ?_) (fun c8 => ?_)
      · refine r_aload_n hC dX10_tell_36 0 rfl ?_
        first | exact absurd hz (k3_2 (by omega))
      · refine r_aload_n hC dX10_tell_30 0 rfl ?_
        refine r_iconst hC (v := (2)) dX10_tell_31 (by decide) (by decide) (fun x9_ e9 t9 => ?_)
        refine r_callV hC (As := [.int x9_]) (rest := []) (ci := 10) (c_X10_refused g (xL X) K len I2 J R hs2 a0 ka0 x9_) mT_5_85 mT_1_10 mT_5_82 mT_5_84 mP_48 okX10_refused ⟨by decide, by decide⟩ rfl (by show kO (K a0) = _; rw [ka0]; rfl) rfl rfl (Nat.le_of_ble_eq_true rfl) ⟨by decide, by decide⟩ dX10_tell_32 (aI1 (F := fun st M => P g X 9 35 [(0, .ref a0), (1, .int x1), (2, .int x2)] st _ _ M) (M := (K, len, I2, J, R)) fun x10_ I10 h10 => ?_)
        obtain ⟨hs10, hf10, k10_0, k10_1, k10_2⟩ := h10
        show P g X 9 35 [(0, .ref a0), (1, .int x1), (2, .int x2)] [.int x10_] _ _ (K, len, I10, J, R)
        have hF10 : Fr K [(11, 0), (11, 1), (11, 2), (11, 19), (85, 999), (86, 999), (87, 999), (88, 999), (93, 999)] I I10 := hF2.trans hf10 rfl rfl
        exact r_iret hC hQ hlk hr rfl (by decide) (by decide) dX10_tell_35 ⟨_, _, rfl, rfl, ⟨hs10, hF10, (by omega)⟩⟩
    · refine r_aload_n hC dX10_tell_13 0 rfl ?_
      refine r_iconst hC (v := (1)) dX10_tell_14 (by decide) (by decide) (fun x11_ e11 t11 => ?_)
      refine r_callV hC (As := [.int x11_]) (rest := []) (ci := 10) (c_X10_refused g (xL X) K len I2 J R hs2 a0 ka0 x11_) mT_5_85 mT_1_10 mT_5_82 mT_5_84 mP_48 okX10_refused ⟨by decide, by decide⟩ rfl (by show kO (K a0) = _; rw [ka0]; rfl) rfl rfl (Nat.le_of_ble_eq_true rfl) ⟨by decide, by decide⟩ dX10_tell_15 (aI1 (F := fun st M => P g X 9 18 [(0, .ref a0), (1, .int x1), (2, .int x2)] st _ _ M) (M := (K, len, I2, J, R)) fun x12_ I12 h12 => ?_)
      obtain ⟨hs12, hf12, k12_0, k12_1, k12_2⟩ := h12
      show P g X 9 18 [(0, .ref a0), (1, .int x1), (2, .int x2)] [.int x12_] _ _ (K, len, I12, J, R)
      have hF12 : Fr K [(11, 0), (11, 1), (11, 2), (11, 19), (85, 999), (86, 999), (87, 999), (88, 999), (93, 999)] I I12 := hF2.trans hf12 rfl rfl
      exact r_iret hC hQ hlk hr rfl (by decide) (by decide) dX10_tell_18 ⟨_, _, rfl, rfl, ⟨hs12, hF12, (by omega)⟩⟩
  · obtain ⟨S0, eS0⟩ : ∃ z : Int32, z = I hm 7 := ⟨_, rfl⟩
    have fS0 : S0.toInt = (I hm 7).toInt := by rw [eS0]
    have rS0 := hs.rng khm rfl eS0
    refine r_aload_n hC dX10_tell_0 0 rfl ?_
    refine r_iconst hC (v := (0)) dX10_tell_1 (by decide) (by decide) (fun x13_ e13 t13 => ?_)
    refine r_puti hC 0 (ci := 10) rfl u10_in tyX10_ok nmX10 (by decide) mT_4_235 rfl rfl rfl dX10_tell_2 ka0 rfl rfl (fun I14 eI14 => ?_)
    have hs14 := hs.put0 eI14 ka0 rfl rfl rfl (by decide)
    have hF14 := hF.put eI14 ka0 rfl
    refine r_aload_n hC dX10_tell_5 0 rfl ?_
    refine r_iload_n hC dX10_tell_6 1 rfl ?_
    refine r_callV hC (As := [.int x1]) (rest := []) (ci := 10) (c_X10_isVillage g (xL X) K len I14 J R hs14 a0 ka0 x1) mT_7_51 mT_1_10 mT_7_48 mT_7_50 mP_94 okX10_isVillage ⟨by decide, by decide⟩ rfl (by show kO (K a0) = _; rw [ka0]; rfl) rfl rfl (Nat.le_of_ble_eq_true rfl) ⟨by decide, by decide⟩ dX10_tell_7 (aI0 (F := fun st M => P g X 9 10 [(0, .ref a0), (1, .int x1), (2, .int x2)] st _ _ M) (M := (K, len, I14, J, R)) fun x15_ h15 => ?_)
    obtain ⟨k15_0, k15_1, k15_2, k15_3⟩ := h15
    show P g X 9 10 [(0, .ref a0), (1, .int x1), (2, .int x2)] [.int x15_] _ _ (K, len, I14, J, R)
    refine r_if_ne hC (tgt := 19) dX10_tell_10 (by decide) (fun c16 => ?_) (fun c16 => ?_)
    · refine r_iload_n hC dX10_tell_19 2 rfl ?_
      refine r_iconst hC (v := (0)) dX10_tell_20 (by decide) (by decide) (fun x17_ e17 t17 => ?_)
      refine r_ldcw hC (n := 999999) (v := 999999) mT_7_64 dX10_tell_21 (by decide) (fun x18_ e18 t18 => ?_)
      refine r_callS hC (As := [.int x2, .int x17_, .int x18_]) (rest := []) (c_X10_in g (xL X) K len I14 J R hs14 x2 x17_ x18_) mT_6_8 mT_1_10 mT_6_6 mT_6_7 okX10_in ⟨by decide, by decide⟩ rfl rfl (Nat.le_of_ble_eq_true rfl) ⟨by decide, by decide⟩ dX10_tell_24 (aI0 (F := fun st M => P g X 9 27 [(0, .ref a0), (1, .int x1), (2, .int x2)] st _ _ M) (M := (K, len, I14, J, R)) fun x19_ h19 => ?_)
      obtain ⟨k19_0, k19_1, k19_2⟩ := h19
      show P g X 9 27 [(0, .ref a0), (1, .int x1), (2, .int x2)] [.int x19_] _ _ (K, len, I14, J, R)
      refine r_if_ne hC (tgt := 36) dX10_tell_27 (by decide) (fun c20 => ?_) (fun c20 => ?_)
      · refine r_aload_n hC dX10_tell_36 0 rfl ?_
        refine r_callV hC (As := []) (rest := []) (ci := 10) (c_X10_weighs g (xL X) K len I14 J R hs14 a0 ka0 hm hbm khm) mT_6_200 mT_1_10 mT_6_197 mT_6_199 mP_84 okX10_weighs ⟨by decide, by decide⟩ rfl (by show kO (K a0) = _; rw [ka0]; rfl) rfl rfl (Nat.le_of_ble_eq_true rfl) ⟨by decide, by decide⟩ dX10_tell_37 (aI1 (F := fun st M => P g X 9 40 [(0, .ref a0), (1, .int x1), (2, .int x2)] st _ _ M) (M := (K, len, I14, J, R)) fun x21_ I21 h21 => ?_)
        obtain ⟨hs21, hf21⟩ := h21
        show P g X 9 40 [(0, .ref a0), (1, .int x1), (2, .int x2)] [.int x21_] _ _ (K, len, I21, J, R)
        have hF21 : Fr K [(11, 0), (11, 1), (11, 2), (11, 19), (85, 999), (86, 999), (87, 999), (88, 999), (93, 999)] I I21 := hF14.trans hf21 rfl rfl
        refine r_i2l hC dX10_tell_40 (fun y22_ e22 => ?_)
        refine r_lstore_n hC (lv' := [(3, .long y22_), (0, .ref a0), (1, .int x1), (2, .int x2)]) dX10_tell_41 (by decide) rfl ?_
        refine r_lload_n hC dX10_tell_42 0 rfl ?_
        refine r_lconst hC (v := 0) dX10_tell_43 (by decide) (fun y23_ e23 => ?_)
        refine r_lcmp hC dX10_tell_44 (fun x24_ e24 => ?_)
        refine r_if_ne hC (tgt := 55) dX10_tell_45 (by decide) (fun c25 => ?_) (fun c25 => ?_)
        · refine r_lconst hC (v := 0) dX10_tell_55 (by decide) (fun y26_ e26 => ?_)
          refine r_lstore hC (lv' := [(5, .long y26_), (3, .long y22_), (0, .ref a0), (1, .int x1), (2, .int x2)]) dX10_tell_56 (by decide) rfl ?_
          refine r_bipush hC (v := (60)) dX10_tell_58 (by decide) (by decide) (fun x27_ e27 t27 => ?_)
          refine r_istore hC (lv' := [(7, .int x27_), (5, .long y26_), (3, .long y22_), (0, .ref a0), (1, .int x1), (2, .int x2)]) dX10_tell_60 (by decide) rfl ?_
          refine r_iconst hC (v := (0)) dX10_tell_62 (by decide) (by decide) (fun x28_ e28 t28 => ?_)
          refine r_istore hC (lv' := [(8, .int x28_), (7, .int x27_), (5, .long y26_), (3, .long y22_), (0, .ref a0), (1, .int x1), (2, .int x2)]) dX10_tell_63 (by decide) rfl ?_
          have LP29 : ∀ (mu : Nat) (x29_8 : Int32) (x29_7 : Int32) (y29_5 : Int64) (I29 : Nat → Nat → Int32) (hs29 : Sf K len I29 R) (hF29 : Fr K [(11, 0), (11, 1), (11, 2), (11, 19), (85, 999), (86, 999), (87, 999), (88, 999), (93, 999)] I I29) (v29_0 : 0 ≤ x29_8.toInt) (v29_1 : x29_8.toInt ≤ 6), (6 - x29_8.toInt).toNat = mu → P g X 9 65 [(0, .ref a0), (1, .int x1), (2, .int x2), (3, .long y22_), (5, .long y29_5), (7, .int x29_7), (8, .int x29_8)] [] 0 0 (K, len, I29, J, R) := by
            intro mu; induction mu using Nat.strongRecOn with | ind mu ih => ?_
            intro x29_8 x29_7 y29_5 I29 hs29 hF29 v29_0 v29_1 hmu
            have ih29 := ih
            clear ih
            have hmu29 := hmu
            clear hmu
            refine r_iload hC dX10_tell_65 6 rfl ?_
            refine r_aload_n hC dX10_tell_67 0 rfl ?_
            refine r_getr hC 3 (ci := 10) rfl u10_in (by decide) mT_4_238 dX10_tell_68 ka0 rfl rfl hbm ?_
            refine r_getiN hC 7 (ci := 9) rfl u9_in (by decide) nF_7 dX10_tell_71 khm rfl rfl (fun x30_ e30 => ?_)
            have r30 := hs29.rng khm rfl e30
            have f30 : x30_.toInt = (I29 hm 7).toInt := by rw [e30]
            have w30 : x30_ = S0 := by rw [e30]; exact (Eq.trans (hF29.get khm rfl) eS0.symm)
            have wt30 : x30_.toInt = S0.toInt := by rw [w30]
            refine r_icmp_ge hC (tgt := 149) dX10_tell_74 (by decide) (fun c31 => ?_) (fun c31 => ?_)
            · refine r_lload hC dX10_tell_149 4 rfl ?_
              refine r_lconst hC (v := 0) dX10_tell_151 (by decide) (fun y32_ e32 => ?_)
              refine r_lcmp hC dX10_tell_152 (fun x33_ e33 => ?_)
              refine r_if_eq hC (tgt := 177) dX10_tell_153 (by decide) (fun c34 => ?_) (fun c34 => ?_)
              · refine r_aload_n hC dX10_tell_177 0 rfl ?_
                refine r_bipush hC (v := (-2)) dX10_tell_178 (by decide) (by decide) (fun x35_ e35 t35 => ?_)
                refine r_callV hC (As := [.int x35_]) (rest := []) (ci := 10) (c_X10_done g (xL X) K len I29 J R hs29 a0 ka0 x35_) mT_6_79 mT_1_10 mT_6_76 mT_6_78 mP_67 okX10_done ⟨by decide, by decide⟩ rfl (by show kO (K a0) = _; rw [ka0]; rfl) rfl rfl (Nat.le_of_ble_eq_true rfl) ⟨by decide, by decide⟩ dX10_tell_180 (aI1 (F := fun st M => P g X 9 183 [(0, .ref a0), (1, .int x1), (2, .int x2), (3, .long y22_), (5, .long y29_5), (7, .int x29_7), (8, .int x29_8)] st _ _ M) (M := (K, len, I29, J, R)) fun x36_ I36 h36 => ?_)
                obtain ⟨hs36, hf36, k36_0, k36_1, k36_2⟩ := h36
                show P g X 9 183 [(0, .ref a0), (1, .int x1), (2, .int x2), (3, .long y22_), (5, .long y29_5), (7, .int x29_7), (8, .int x29_8)] [.int x36_] _ _ (K, len, I36, J, R)
                have hF36 : Fr K [(11, 0), (11, 1), (11, 2), (11, 19), (85, 999), (86, 999), (87, 999), (88, 999), (93, 999)] I I36 := hF29.trans hf36 rfl rfl
                exact r_iret hC hQ hlk hr rfl (by decide) (by decide) dX10_tell_183 ⟨_, _, rfl, rfl, ⟨hs36, hF36, (by omega)⟩⟩
              · refine r_lload hC dX10_tell_156 4 rfl ?_
                refine r_aload_n hC dX10_tell_158 0 rfl ?_
                refine r_getr hC 3 (ci := 10) rfl u10_in (by decide) mT_4_238 dX10_tell_159 ka0 rfl rfl hbm ?_
                obtain ⟨a37_, hb37, hk37, hn37⟩ := hs29.row khm 21 78 4 (by decide) (by decide)
                refine r_getrN hC 21 (ci := 9) rfl u9_in (by decide) nF_21 dX10_tell_162 khm rfl rfl hb37 ?_
                refine r_iload_n hC dX10_tell_165 1 rfl ?_
                refine x_iaload hC hk37 hn37 (by decide) rfl rfl dX10_tell_166 (by omega) (by omega) (fun x38_ e38 => ?_)
                refine r_i2l hC dX10_tell_167 (fun y39_ e39 => ?_)
                refine r_lmul hC dX10_tell_168 (fun y40_ e40 => ?_)
                refine r_iload_n hC dX10_tell_169 2 rfl ?_
                refine r_i2l hC dX10_tell_170 (fun y41_ e41 => ?_)
                refine r_lload_n hC dX10_tell_171 3 rfl ?_
                refine r_lmul hC dX10_tell_172 (fun y42_ e42 => ?_)
                refine r_lcmp hC dX10_tell_173 (fun x43_ e43 => ?_)
                refine r_if_ge hC (tgt := 184) dX10_tell_174 (by decide) (fun c44 => ?_) (fun c44 => ?_)
                · refine r_aload_n hC dX10_tell_184 0 rfl ?_
                  refine r_iload hC dX10_tell_185 5 rfl ?_
                  refine r_aload_n hC dX10_tell_187 0 rfl ?_
                  refine r_getr hC 3 (ci := 10) rfl u10_in (by decide) mT_4_238 dX10_tell_188 ka0 rfl rfl hbm ?_
                  obtain ⟨a45_, hb45, hk45, hn45⟩ := hs29.row khm 22 79 4 (by decide) (by decide)
                  refine r_getrN hC 22 (ci := 9) rfl u9_in (by decide) nF_22 dX10_tell_191 khm rfl rfl hb45 ?_
                  refine r_iload_n hC dX10_tell_194 1 rfl ?_
                  refine x_iaload hC hk45 hn45 (by decide) rfl rfl dX10_tell_195 (by omega) (by omega) (fun x46_ e46 => ?_)
                  refine r_icmp_le hC (tgt := 214) dX10_tell_196 (by decide) (fun c47 => ?_) (fun c47 => ?_)
                  · refine r_iconst hC (v := (0)) dX10_tell_214 (by decide) (by decide) (fun x48_ e48 t48 => ?_)
                    refine r_callV hC (As := [.int x48_]) (rest := []) (ci := 10) (c_X10_done g (xL X) K len I29 J R hs29 a0 ka0 x48_) mT_6_79 mT_1_10 mT_6_76 mT_6_78 mP_67 okX10_done ⟨by decide, by decide⟩ rfl (by show kO (K a0) = _; rw [ka0]; rfl) rfl rfl (Nat.le_of_ble_eq_true rfl) ⟨by decide, by decide⟩ dX10_tell_215 (aI1 (F := fun st M => P g X 9 218 [(0, .ref a0), (1, .int x1), (2, .int x2), (3, .long y22_), (5, .long y29_5), (7, .int x29_7), (8, .int x29_8)] st _ _ M) (M := (K, len, I29, J, R)) fun x49_ I49 h49 => ?_)
                    obtain ⟨hs49, hf49, k49_0, k49_1, k49_2⟩ := h49
                    show P g X 9 218 [(0, .ref a0), (1, .int x1), (2, .int x2), (3, .long y22_), (5, .long y29_5), (7, .int x29_7), (8, .int x29_8)] [.int x49_] _ _ (K, len, I49, J, R)
                    have hF49 : Fr K [(11, 0), (11, 1), (11, 2), (11, 19), (85, 999), (86, 999), (87, 999), (88, 999), (93, 999)] I I49 := hF29.trans hf49 rfl rfl
                    exact r_iret hC hQ hlk hr rfl (by decide) (by decide) dX10_tell_218 ⟨_, _, rfl, rfl, ⟨hs49, hF49, (by omega)⟩⟩
                  · refine r_iload hC dX10_tell_199 5 rfl ?_
                    refine r_aload_n hC dX10_tell_201 0 rfl ?_
                    refine r_getr hC 3 (ci := 10) rfl u10_in (by decide) mT_4_238 dX10_tell_202 ka0 rfl rfl hbm ?_
                    refine r_getrN hC 22 (ci := 9) rfl u9_in (by decide) nF_22 dX10_tell_205 khm rfl rfl hb45 ?_
                    refine r_iload_n hC dX10_tell_208 1 rfl ?_
                    refine x_iaload hC hk45 hn45 (by decide) rfl rfl dX10_tell_209 (by omega) (by omega) (fun x50_ e50 => ?_)
                    refine r_isub hC dX10_tell_210 (fun x51_ e51 => ?_)
                    try have t51 : x51_.toInt = x29_7.toInt - x50_.toInt := by rw [e51]; exact ti_sub (by omega) (by omega)
                    refine r_goto hC (tgt := 215) dX10_tell_211 (by decide) ?_
                    refine r_callV hC (As := [.int x51_]) (rest := []) (ci := 10) (c_X10_done g (xL X) K len I29 J R hs29 a0 ka0 x51_) mT_6_79 mT_1_10 mT_6_76 mT_6_78 mP_67 okX10_done ⟨by decide, by decide⟩ rfl (by show kO (K a0) = _; rw [ka0]; rfl) rfl rfl (Nat.le_of_ble_eq_true rfl) ⟨by decide, by decide⟩ dX10_tell_215 (aI1 (F := fun st M => P g X 9 218 [(0, .ref a0), (1, .int x1), (2, .int x2), (3, .long y22_), (5, .long y29_5), (7, .int x29_7), (8, .int x29_8)] st _ _ M) (M := (K, len, I29, J, R)) fun x52_ I52 h52 => ?_)
                    obtain ⟨hs52, hf52, k52_0, k52_1, k52_2⟩ := h52
                    show P g X 9 218 [(0, .ref a0), (1, .int x1), (2, .int x2), (3, .long y22_), (5, .long y29_5), (7, .int x29_7), (8, .int x29_8)] [.int x52_] _ _ (K, len, I52, J, R)
                    have hF52 : Fr K [(11, 0), (11, 1), (11, 2), (11, 19), (85, 999), (86, 999), (87, 999), (88, 999), (93, 999)] I I52 := hF29.trans hf52 rfl rfl
                    exact r_iret hC hQ hlk hr rfl (by decide) (by decide) dX10_tell_218 ⟨_, _, rfl, rfl, ⟨hs52, hF52, (by omega)⟩⟩
                · refine r_aload_n hC dX10_tell_177 0 rfl ?_
                  refine r_bipush hC (v := (-2)) dX10_tell_178 (by decide) (by decide) (fun x53_ e53 t53 => ?_)
                  refine r_callV hC (As := [.int x53_]) (rest := []) (ci := 10) (c_X10_done g (xL X) K len I29 J R hs29 a0 ka0 x53_) mT_6_79 mT_1_10 mT_6_76 mT_6_78 mP_67 okX10_done ⟨by decide, by decide⟩ rfl (by show kO (K a0) = _; rw [ka0]; rfl) rfl rfl (Nat.le_of_ble_eq_true rfl) ⟨by decide, by decide⟩ dX10_tell_180 (aI1 (F := fun st M => P g X 9 183 [(0, .ref a0), (1, .int x1), (2, .int x2), (3, .long y22_), (5, .long y29_5), (7, .int x29_7), (8, .int x29_8)] st _ _ M) (M := (K, len, I29, J, R)) fun x54_ I54 h54 => ?_)
                  obtain ⟨hs54, hf54, k54_0, k54_1, k54_2⟩ := h54
                  show P g X 9 183 [(0, .ref a0), (1, .int x1), (2, .int x2), (3, .long y22_), (5, .long y29_5), (7, .int x29_7), (8, .int x29_8)] [.int x54_] _ _ (K, len, I54, J, R)
                  have hF54 : Fr K [(11, 0), (11, 1), (11, 2), (11, 19), (85, 999), (86, 999), (87, 999), (88, 999), (93, 999)] I I54 := hF29.trans hf54 rfl rfl
                  exact r_iret hC hQ hlk hr rfl (by decide) (by decide) dX10_tell_183 ⟨_, _, rfl, rfl, ⟨hs54, hF54, (by omega)⟩⟩
            · refine r_aload_n hC dX10_tell_77 0 rfl ?_
              obtain ⟨a55_, hb55, hk55, hn55⟩ := hs29.row ka0 25 93 6 (by decide) (by decide)
              refine r_getr hC 25 (ci := 10) rfl u10_in (by decide) mT_5_20 dX10_tell_78 ka0 rfl rfl hb55 ?_
              refine r_iload hC dX10_tell_81 6 rfl ?_
              refine x_zaload hC hk55 hn55 (by decide) rfl rfl dX10_tell_83 (by omega) (by omega) (fun x56_ e56 => ?_)
              refine r_if_ne hC (tgt := 90) dX10_tell_84 (by decide) (fun c57 => ?_) (fun c57 => ?_)
              · refine r_aload_n hC dX10_tell_90 0 rfl ?_
                refine r_iload hC dX10_tell_91 6 rfl ?_
                have hv58 : I29 hm 7 = x30_ := e30.symm
                refine r_callV hC (As := [.int x29_8]) (rest := []) (ci := 10) (c_X10_runsAsTold g (xL X) K len I29 J R hs29 a0 ka0 x29_8 hm hbm khm (by rw [hv58]; omega) (by omega) (by omega)) mT_6_127 mT_1_10 mT_6_124 mT_6_126 mP_73 okX10_runsAsTold ⟨by decide, by decide⟩ rfl (by show kO (K a0) = _; rw [ka0]; rfl) rfl rfl (Nat.le_of_ble_eq_true rfl) ⟨by decide, by decide⟩ dX10_tell_93 (aV1 (F := fun st M => P g X 9 96 [(0, .ref a0), (1, .int x1), (2, .int x2), (3, .long y22_), (5, .long y29_5), (7, .int x29_7), (8, .int x29_8)] st _ _ M) (M := (K, len, I29, J, R)) fun I59 h59 => ?_)
                obtain ⟨hs59, hf59⟩ := h59
                show P g X 9 96 [(0, .ref a0), (1, .int x1), (2, .int x2), (3, .long y22_), (5, .long y29_5), (7, .int x29_7), (8, .int x29_8)] [] _ _ (K, len, I59, J, R)
                have hF59 : Fr K [(11, 0), (11, 1), (11, 2), (11, 19), (85, 999), (86, 999), (87, 999), (88, 999), (93, 999)] I I59 := hF29.trans hf59 rfl rfl
                refine r_aload_n hC dX10_tell_96 0 rfl ?_
                refine r_iload_n hC dX10_tell_97 1 rfl ?_
                refine r_callV hC (As := [.int x1]) (rest := []) (ci := 10) (c_X10_isStruck g (xL X) K len I59 J R hs59 a0 ka0 x1 hm hbm khm (by omega) (by omega)) mT_7_55 mT_1_10 mT_7_52 mT_7_54 mP_95 okX10_isStruck ⟨by decide, by decide⟩ rfl (by show kO (K a0) = _; rw [ka0]; rfl) rfl rfl (Nat.le_of_ble_eq_true rfl) ⟨by decide, by decide⟩ dX10_tell_98 (aI0 (F := fun st M => P g X 9 101 [(0, .ref a0), (1, .int x1), (2, .int x2), (3, .long y22_), (5, .long y29_5), (7, .int x29_7), (8, .int x29_8)] st _ _ M) (M := (K, len, I59, J, R)) fun x60_ h60 => ?_)
                obtain ⟨k60_0, k60_1⟩ := h60
                show P g X 9 101 [(0, .ref a0), (1, .int x1), (2, .int x2), (3, .long y22_), (5, .long y29_5), (7, .int x29_7), (8, .int x29_8)] [.int x60_] _ _ (K, len, I59, J, R)
                refine r_if_ne hC (tgt := 107) dX10_tell_101 (by decide) (fun c61 => ?_) (fun c61 => ?_)
                · refine r_lload hC dX10_tell_107 4 rfl ?_
                  refine r_aload_n hC dX10_tell_109 0 rfl ?_
                  refine r_getr hC 3 (ci := 10) rfl u10_in (by decide) mT_4_238 dX10_tell_110 ka0 rfl rfl hbm ?_
                  obtain ⟨a62_, hb62, hk62, hn62⟩ := hs59.row khm 16 75 6 (by decide) (by decide)
                  refine r_getrN hC 16 (ci := 9) rfl u9_in (by decide) nF_16 dX10_tell_113 khm rfl rfl hb62 ?_
                  refine r_iload hC dX10_tell_116 6 rfl ?_
                  refine x_iaload hC hk62 hn62 (by decide) rfl rfl dX10_tell_118 (by omega) (by omega) (fun x63_ e63 => ?_)
                  refine r_i2l hC dX10_tell_119 (fun y64_ e64 => ?_)
                  refine r_ladd hC dX10_tell_120 (fun y65_ e65 => ?_)
                  refine r_lstore hC (lv' := [(5, .long y65_), (0, .ref a0), (1, .int x1), (2, .int x2), (3, .long y22_), (7, .int x29_7), (8, .int x29_8)]) dX10_tell_121 (by decide) rfl ?_
                  refine r_aload_n hC dX10_tell_123 1 rfl ?_
                  refine r_geti hC 19 (ci := 10) rfl u10_in (by decide) mT_5_14 dX10_tell_124 ka0 rfl rfl (fun x66_ e66 => ?_)
                  have r66 := hs59.rng ka0 rfl e66
                  have q66 := hs59.gone ka0 e66
                  refine r_iload hC dX10_tell_127 5 rfl ?_
                  refine r_icmp_ge hC (tgt := 139) dX10_tell_129 (by decide) (fun c67 => ?_) (fun c67 => ?_)
                  · refine r_iload hC dX10_tell_139 5 rfl ?_
                    refine r_istore hC (lv' := [(7, .int x29_7), (5, .long y65_), (0, .ref a0), (1, .int x1), (2, .int x2), (3, .long y22_), (8, .int x29_8)]) dX10_tell_141 (by decide) rfl ?_
                    obtain ⟨x68_, e68⟩ : ∃ z : Int32, z = x29_8 + Int32.ofInt (1) := ⟨_, rfl⟩
                    refine r_iinc hC (j := 6) (v := x68_) (lv' := [(8, .int x68_), (7, .int x29_7), (5, .long y65_), (0, .ref a0), (1, .int x1), (2, .int x2), (3, .long y22_)]) dX10_tell_143 rfl (by rw [e68]) (by decide) rfl ?_
                    try have t68 : x68_.toInt = x29_8.toInt + (1) := by rw [e68]; exact (ti_add (b := Int32.ofInt (1)) (by show _ ≤ _ + (1 : Int); omega) (by show _ + (1 : Int) ≤ _; omega))
                    refine r_goto hC (tgt := 65) dX10_tell_146 (by decide) ?_
                    refine r_sub [3, 4, 5, 6, 2, 1, 0] rfl ?_
                    exact ih29 ((6 - x68_.toInt).toNat) (by omega) x68_ x29_7 y65_ I59 hs59 hF59 (by omega) (by omega) rfl
                  · refine r_aload_n hC dX10_tell_132 1 rfl ?_
                    refine r_geti hC 19 (ci := 10) rfl u10_in (by decide) mT_5_14 dX10_tell_133 ka0 rfl rfl (fun x69_ e69 => ?_)
                    have r69 := hs59.rng ka0 rfl e69
                    have q69 := hs59.gone ka0 e69
                    have w69 : x69_ = x66_ := by rw [e69]; exact e66.symm
                    have wt69 : x69_.toInt = x66_.toInt := by rw [w69]
                    refine r_goto hC (tgt := 141) dX10_tell_136 (by decide) ?_
                    refine r_istore hC (lv' := [(7, .int x69_), (5, .long y65_), (0, .ref a0), (1, .int x1), (2, .int x2), (3, .long y22_), (8, .int x29_8)]) dX10_tell_141 (by decide) rfl ?_
                    obtain ⟨x70_, e70⟩ : ∃ z : Int32, z = x29_8 + Int32.ofInt (1) := ⟨_, rfl⟩
                    refine r_iinc hC (j := 6) (v := x70_) (lv' := [(8, .int x70_), (7, .int x69_), (5, .long y65_), (0, .ref a0), (1, .int x1), (2, .int x2), (3, .long y22_)]) dX10_tell_143 rfl (by rw [e70]) (by decide) rfl ?_
                    try have t70 : x70_.toInt = x29_8.toInt + (1) := by rw [e70]; exact (ti_add (b := Int32.ofInt (1)) (by show _ ≤ _ + (1 : Int); omega) (by show _ + (1 : Int) ≤ _; omega))
                    refine r_goto hC (tgt := 65) dX10_tell_146 (by decide) ?_
                    refine r_sub [3, 4, 5, 6, 2, 1, 0] rfl ?_
                    exact ih29 ((6 - x70_.toInt).toNat) (by omega) x70_ x69_ y65_ I59 hs59 hF59 (by omega) (by omega) rfl
                · refine r_goto hC (tgt := 143) dX10_tell_104 (by decide) ?_
                  obtain ⟨x71_, e71⟩ : ∃ z : Int32, z = x29_8 + Int32.ofInt (1) := ⟨_, rfl⟩
                  refine r_iinc hC (j := 6) (v := x71_) (lv' := [(8, .int x71_), (0, .ref a0), (1, .int x1), (2, .int x2), (3, .long y22_), (5, .long y29_5), (7, .int x29_7)]) dX10_tell_143 rfl (by rw [e71]) (by decide) rfl ?_
                  try have t71 : x71_.toInt = x29_8.toInt + (1) := by rw [e71]; exact (ti_add (b := Int32.ofInt (1)) (by show _ ≤ _ + (1 : Int); omega) (by show _ + (1 : Int) ≤ _; omega))
                  refine r_goto hC (tgt := 65) dX10_tell_146 (by decide) ?_
                  refine r_sub [1, 2, 3, 4, 5, 6, 0] rfl ?_
                  exact ih29 ((6 - x71_.toInt).toNat) (by omega) x71_ x29_7 y29_5 I59 hs59 hF59 (by omega) (by omega) rfl
              · refine r_goto hC (tgt := 143) dX10_tell_87 (by decide) ?_
                obtain ⟨x72_, e72⟩ : ∃ z : Int32, z = x29_8 + Int32.ofInt (1) := ⟨_, rfl⟩
                refine r_iinc hC (j := 6) (v := x72_) (lv' := [(8, .int x72_), (0, .ref a0), (1, .int x1), (2, .int x2), (3, .long y22_), (5, .long y29_5), (7, .int x29_7)]) dX10_tell_143 rfl (by rw [e72]) (by decide) rfl ?_
                try have t72 : x72_.toInt = x29_8.toInt + (1) := by rw [e72]; exact (ti_add (b := Int32.ofInt (1)) (by show _ ≤ _ + (1 : Int); omega) (by show _ + (1 : Int) ≤ _; omega))
                refine r_goto hC (tgt := 65) dX10_tell_146 (by decide) ?_
                refine r_sub [1, 2, 3, 4, 5, 6, 0] rfl ?_
                exact ih29 ((6 - x72_.toInt).toNat) (by omega) x72_ x29_7 y29_5 I29 hs29 hF29 (by omega) (by omega) rfl
          refine r_sub [4, 5, 6, 3, 2, 1, 0] rfl ?_
          exact LP29 _ x28_ x27_ y26_ I21 hs21 hF21 (by omega) (by omega) rfl
        · refine r_aload_n hC dX10_tell_48 1 rfl ?_
          refine r_bipush hC (v := (6)) dX10_tell_49 (by decide) (by decide) (fun x73_ e73 t73 => ?_)
          refine r_callV hC (As := [.int x73_]) (rest := []) (ci := 10) (c_X10_refused g (xL X) K len I21 J R hs21 a0 ka0 x73_) mT_5_85 mT_1_10 mT_5_82 mT_5_84 mP_48 okX10_refused ⟨by decide, by decide⟩ rfl (by show kO (K a0) = _; rw [ka0]; rfl) rfl rfl (Nat.le_of_ble_eq_true rfl) ⟨by decide, by decide⟩ dX10_tell_51 (aI1 (F := fun st M => P g X 9 54 [(3, .long y22_), (0, .ref a0), (1, .int x1), (2, .int x2)] st _ _ M) (M := (K, len, I21, J, R)) fun x74_ I74 h74 => ?_)
          obtain ⟨hs74, hf74, k74_0, k74_1, k74_2⟩ := h74
          show P g X 9 54 [(3, .long y22_), (0, .ref a0), (1, .int x1), (2, .int x2)] [.int x74_] _ _ (K, len, I74, J, R)
          have hF74 : Fr K [(11, 0), (11, 1), (11, 2), (11, 19), (85, 999), (86, 999), (87, 999), (88, 999), (93, 999)] I I74 := hF21.trans hf74 rfl rfl
          exact r_iret hC hQ hlk hr rfl (by decide) (by decide) dX10_tell_54 ⟨_, _, rfl, rfl, ⟨hs74, hF74, (by omega)⟩⟩
      · refine r_aload_n hC dX10_tell_30 0 rfl ?_
        refine r_iconst hC (v := (2)) dX10_tell_31 (by decide) (by decide) (fun x75_ e75 t75 => ?_)
        refine r_callV hC (As := [.int x75_]) (rest := []) (ci := 10) (c_X10_refused g (xL X) K len I14 J R hs14 a0 ka0 x75_) mT_5_85 mT_1_10 mT_5_82 mT_5_84 mP_48 okX10_refused ⟨by decide, by decide⟩ rfl (by show kO (K a0) = _; rw [ka0]; rfl) rfl rfl (Nat.le_of_ble_eq_true rfl) ⟨by decide, by decide⟩ dX10_tell_32 (aI1 (F := fun st M => P g X 9 35 [(0, .ref a0), (1, .int x1), (2, .int x2)] st _ _ M) (M := (K, len, I14, J, R)) fun x76_ I76 h76 => ?_)
        obtain ⟨hs76, hf76, k76_0, k76_1, k76_2⟩ := h76
        show P g X 9 35 [(0, .ref a0), (1, .int x1), (2, .int x2)] [.int x76_] _ _ (K, len, I76, J, R)
        have hF76 : Fr K [(11, 0), (11, 1), (11, 2), (11, 19), (85, 999), (86, 999), (87, 999), (88, 999), (93, 999)] I I76 := hF14.trans hf76 rfl rfl
        exact r_iret hC hQ hlk hr rfl (by decide) (by decide) dX10_tell_35 ⟨_, _, rfl, rfl, ⟨hs76, hF76, (by omega)⟩⟩
    · refine r_aload_n hC dX10_tell_13 0 rfl ?_
      refine r_iconst hC (v := (1)) dX10_tell_14 (by decide) (by decide) (fun x77_ e77 t77 => ?_)
      refine r_callV hC (As := [.int x77_]) (rest := []) (ci := 10) (c_X10_refused g (xL X) K len I14 J R hs14 a0 ka0 x77_) mT_5_85 mT_1_10 mT_5_82 mT_5_84 mP_48 okX10_refused ⟨by decide, by decide⟩ rfl (by show kO (K a0) = _; rw [ka0]; rfl) rfl rfl (Nat.le_of_ble_eq_true rfl) ⟨by decide, by decide⟩ dX10_tell_15 (aI1 (F := fun st M => P g X 9 18 [(0, .ref a0), (1, .int x1), (2, .int x2)] st _ _ M) (M := (K, len, I14, J, R)) fun x78_ I78 h78 => ?_)
      obtain ⟨hs78, hf78, k78_0, k78_1, k78_2⟩ := h78
      show P g X 9 18 [(0, .ref a0), (1, .int x1), (2, .int x2)] [.int x78_] _ _ (K, len, I78, J, R)
      have hF78 : Fr K [(11, 0), (11, 1), (11, 2), (11, 19), (85, 999), (86, 999), (87, 999), (88, 999), (93, 999)] I I78 := hF14.trans hf78 rfl rfl
      exact r_iret hC hQ hlk hr rfl (by decide) (by decide) dX10_tell_18 ⟨_, _, rfl, rfl, ⟨hs78, hF78, (by omega)⟩⟩
set_option maxHeartbeats 4000000 in
set_option maxRecDepth 100000 in
theorem c_X10_part (g : GG) (l : Launch) (K len : Nat → Nat) (I : Nat → Nat → Int32) (J : Nat → Nat → Int64) (R : Nat → Nat → Option Nat) (hs : Sf K len I R) (a0 : Nat) (ka0 : K a0 = 11) (x1 : Int32) (x2 : Int32) (x3 : Int32) : Ct g l yX10_part cX10_part 5 (Option.some Jvm.ClassFile.FieldType.int) rmX10_part [.ref a0, .int x1, .int x2, .int x3] (K, len, I, J, R) (pI1 (K, len, I, J, R) (fun r I' => Sf K len I' R ∧ Fr K [(11, 0), (11, 1), (11, 2), (11, 19), (85, 999), (86, 999), (87, 999), (88, 999)] I I' ∧ ((I' a0 2).toInt = -1))) := by
  refine Ct_intro (by decide +kernel) (Nat.le_of_ble_eq_true rfl) (fun X hC hL hKK hNm hr hlk hQ => ?_)
  subst hL
  have hC : Cx g X cX10_part "HillTapModel" 5 rmX10_part := hC
  show P g X 5 0 [(0, .ref a0), (1, .int x1), (2, .int x2), (3, .int x3)] [] 0 0 (K, len, I, J, R)
  have hF : Fr K [(11, 0), (11, 1), (11, 2), (11, 19), (85, 999), (86, 999), (87, 999), (88, 999)] I I := Fr.refl
  have b_x1 := ti_rng x1
  have b_x2 := ti_rng x2
  have b_x3 := ti_rng x3
  rcases hs.2.1.2.2.1 a0 ka0 with hz | ⟨hm, hbm, khm⟩
  · refine r_aload_n hC dX10_part_0 0 rfl ?_
    refine r_iconst hC (v := (0)) dX10_part_1 (by decide) (by decide) (fun x1_ e1 t1 => ?_)
    refine r_puti hC 0 (ci := 10) rfl u10_in tyX10_ok nmX10 (by decide) mT_4_235 rfl rfl rfl dX10_part_2 ka0 rfl rfl (fun I2 eI2 => ?_)
    have hs2 := hs.put0 eI2 ka0 rfl rfl rfl (by decide)
    have hF2 := hF.put eI2 ka0 rfl
    refine r_aload_n hC dX10_part_5 0 rfl ?_
    refine r_iload_n hC dX10_part_6 1 rfl ?_
    refine r_callV hC (As := [.int x1]) (rest := []) (ci := 10) (c_X10_isStory g (xL X) K len I2 J R hs2 a0 ka0 x1) mT_6_119 mT_1_10 mT_6_116 mT_6_118 mP_71 okX10_isStory ⟨by decide, by decide⟩ rfl (by show kO (K a0) = _; rw [ka0]; rfl) rfl rfl (Nat.le_of_ble_eq_true rfl) ⟨by decide, by decide⟩ dX10_part_7 (aI0 (F := fun st M => P g X 5 10 [(0, .ref a0), (1, .int x1), (2, .int x2), (3, .int x3)] st _ _ M) (M := (K, len, I2, J, R)) fun x3_ h3 => ?_)
    obtain ⟨k3_0, k3_1, k3_2, k3_3, k3_4⟩ := h3
    show P g X 5 10 [(0, .ref a0), (1, .int x1), (2, .int x2), (3, .int x3)] [.int x3_] _ _ (K, len, I2, J, R)
    refine r_if_eq hC (tgt := 29) dX10_part_10 (by decide) (fun c4 => ?_) (fun c4 => ?_)
    · refine r_aload_n hC dX10_part_29 0 rfl ?_
      refine r_iconst hC (v := (1)) dX10_part_30 (by decide) (by decide) (fun x5_ e5 t5 => ?_)
      refine r_callV hC (As := [.int x5_]) (rest := []) (ci := 10) (c_X10_refused g (xL X) K len I2 J R hs2 a0 ka0 x5_) mT_5_85 mT_1_10 mT_5_82 mT_5_84 mP_48 okX10_refused ⟨by decide, by decide⟩ rfl (by show kO (K a0) = _; rw [ka0]; rfl) rfl rfl (Nat.le_of_ble_eq_true rfl) ⟨by decide, by decide⟩ dX10_part_31 (aI1 (F := fun st M => P g X 5 34 [(0, .ref a0), (1, .int x1), (2, .int x2), (3, .int x3)] st _ _ M) (M := (K, len, I2, J, R)) fun x6_ I6 h6 => ?_)
      obtain ⟨hs6, hf6, k6_0, k6_1, k6_2⟩ := h6
      show P g X 5 34 [(0, .ref a0), (1, .int x1), (2, .int x2), (3, .int x3)] [.int x6_] _ _ (K, len, I6, J, R)
      have hF6 : Fr K [(11, 0), (11, 1), (11, 2), (11, 19), (85, 999), (86, 999), (87, 999), (88, 999)] I I6 := hF2.trans hf6 rfl rfl
      exact r_iret hC hQ hlk hr rfl (by decide) (by decide) dX10_part_34 ⟨_, _, rfl, rfl, ⟨hs6, hF6, (by omega)⟩⟩
    · refine r_aload_n hC dX10_part_13 0 rfl ?_
      refine r_iload_n hC dX10_part_14 2 rfl ?_
      refine r_callV hC (As := [.int x2]) (rest := []) (ci := 10) (c_X10_isPeg g (xL X) K len I2 J R hs2 a0 ka0 x2) mT_6_123 mT_1_10 mT_6_120 mT_6_122 mP_72 okX10_isPeg ⟨by decide, by decide⟩ rfl (by show kO (K a0) = _; rw [ka0]; rfl) rfl rfl (Nat.le_of_ble_eq_true rfl) ⟨by decide, by decide⟩ dX10_part_15 (aI0 (F := fun st M => P g X 5 18 [(0, .ref a0), (1, .int x1), (2, .int x2), (3, .int x3)] st _ _ M) (M := (K, len, I2, J, R)) fun x7_ h7 => ?_)
      obtain ⟨k7_0, k7_1, k7_2, k7_3⟩ := h7
      show P g X 5 18 [(0, .ref a0), (1, .int x1), (2, .int x2), (3, .int x3)] [.int x7_] _ _ (K, len, I2, J, R)
      refine r_if_eq hC (tgt := 29) dX10_part_18 (by decide) (fun c8 => ?_) (fun c8 => ?_)
      · refine r_aload_n hC dX10_part_29 0 rfl ?_
        refine r_iconst hC (v := (1)) dX10_part_30 (by decide) (by decide) (fun x9_ e9 t9 => ?_)
        refine r_callV hC (As := [.int x9_]) (rest := []) (ci := 10) (c_X10_refused g (xL X) K len I2 J R hs2 a0 ka0 x9_) mT_5_85 mT_1_10 mT_5_82 mT_5_84 mP_48 okX10_refused ⟨by decide, by decide⟩ rfl (by show kO (K a0) = _; rw [ka0]; rfl) rfl rfl (Nat.le_of_ble_eq_true rfl) ⟨by decide, by decide⟩ dX10_part_31 (aI1 (F := fun st M => P g X 5 34 [(0, .ref a0), (1, .int x1), (2, .int x2), (3, .int x3)] st _ _ M) (M := (K, len, I2, J, R)) fun x10_ I10 h10 => ?_)
        obtain ⟨hs10, hf10, k10_0, k10_1, k10_2⟩ := h10
        show P g X 5 34 [(0, .ref a0), (1, .int x1), (2, .int x2), (3, .int x3)] [.int x10_] _ _ (K, len, I10, J, R)
        have hF10 : Fr K [(11, 0), (11, 1), (11, 2), (11, 19), (85, 999), (86, 999), (87, 999), (88, 999)] I I10 := hF2.trans hf10 rfl rfl
        exact r_iret hC hQ hlk hr rfl (by decide) (by decide) dX10_part_34 ⟨_, _, rfl, rfl, ⟨hs10, hF10, (by omega)⟩⟩
      · refine r_aload_n hC dX10_part_21 0 rfl ?_
        refine r_iload_n hC dX10_part_22 3 rfl ?_
        refine r_callV hC (As := [.int x3]) (rest := []) (ci := 10) (c_X10_isDay g (xL X) K len I2 J R hs2 a0 ka0 x3) mT_6_95 mT_1_10 mT_6_92 mT_6_94 mP_68 okX10_isDay ⟨by decide, by decide⟩ rfl (by show kO (K a0) = _; rw [ka0]; rfl) rfl rfl (Nat.le_of_ble_eq_true rfl) ⟨by decide, by decide⟩ dX10_part_23 (aI0 (F := fun st M => P g X 5 26 [(0, .ref a0), (1, .int x1), (2, .int x2), (3, .int x3)] st _ _ M) (M := (K, len, I2, J, R)) fun x11_ h11 => ?_)
        obtain ⟨k11_0, k11_1, k11_2, k11_3⟩ := h11
        show P g X 5 26 [(0, .ref a0), (1, .int x1), (2, .int x2), (3, .int x3)] [.int x11_] _ _ (K, len, I2, J, R)
        refine r_if_ne hC (tgt := 35) dX10_part_26 (by decide) (fun c12 => ?_) (fun c12 => ?_)
        · refine r_aload_n hC dX10_part_35 0 rfl ?_
          refine r_getz hC 3 (ci := 10) rfl u10_in (by decide) mT_4_238 dX10_part_36 ka0 rfl rfl hz ?_
          first | exact absurd hz (k3_2 (by omega)) | exact absurd hz (k7_2 (by omega)) | exact absurd hz (k11_2 (by omega))
        · refine r_aload_n hC dX10_part_29 0 rfl ?_
          refine r_iconst hC (v := (1)) dX10_part_30 (by decide) (by decide) (fun x13_ e13 t13 => ?_)
          refine r_callV hC (As := [.int x13_]) (rest := []) (ci := 10) (c_X10_refused g (xL X) K len I2 J R hs2 a0 ka0 x13_) mT_5_85 mT_1_10 mT_5_82 mT_5_84 mP_48 okX10_refused ⟨by decide, by decide⟩ rfl (by show kO (K a0) = _; rw [ka0]; rfl) rfl rfl (Nat.le_of_ble_eq_true rfl) ⟨by decide, by decide⟩ dX10_part_31 (aI1 (F := fun st M => P g X 5 34 [(0, .ref a0), (1, .int x1), (2, .int x2), (3, .int x3)] st _ _ M) (M := (K, len, I2, J, R)) fun x14_ I14 h14 => ?_)
          obtain ⟨hs14, hf14, k14_0, k14_1, k14_2⟩ := h14
          show P g X 5 34 [(0, .ref a0), (1, .int x1), (2, .int x2), (3, .int x3)] [.int x14_] _ _ (K, len, I14, J, R)
          have hF14 : Fr K [(11, 0), (11, 1), (11, 2), (11, 19), (85, 999), (86, 999), (87, 999), (88, 999)] I I14 := hF2.trans hf14 rfl rfl
          exact r_iret hC hQ hlk hr rfl (by decide) (by decide) dX10_part_34 ⟨_, _, rfl, rfl, ⟨hs14, hF14, (by omega)⟩⟩
  · obtain ⟨S0, eS0⟩ : ∃ z : Int32, z = I hm 7 := ⟨_, rfl⟩
    have fS0 : S0.toInt = (I hm 7).toInt := by rw [eS0]
    have rS0 := hs.rng khm rfl eS0
    refine r_aload_n hC dX10_part_0 0 rfl ?_
    refine r_iconst hC (v := (0)) dX10_part_1 (by decide) (by decide) (fun x15_ e15 t15 => ?_)
    refine r_puti hC 0 (ci := 10) rfl u10_in tyX10_ok nmX10 (by decide) mT_4_235 rfl rfl rfl dX10_part_2 ka0 rfl rfl (fun I16 eI16 => ?_)
    have hs16 := hs.put0 eI16 ka0 rfl rfl rfl (by decide)
    have hF16 := hF.put eI16 ka0 rfl
    refine r_aload_n hC dX10_part_5 0 rfl ?_
    refine r_iload_n hC dX10_part_6 1 rfl ?_
    refine r_callV hC (As := [.int x1]) (rest := []) (ci := 10) (c_X10_isStory g (xL X) K len I16 J R hs16 a0 ka0 x1) mT_6_119 mT_1_10 mT_6_116 mT_6_118 mP_71 okX10_isStory ⟨by decide, by decide⟩ rfl (by show kO (K a0) = _; rw [ka0]; rfl) rfl rfl (Nat.le_of_ble_eq_true rfl) ⟨by decide, by decide⟩ dX10_part_7 (aI0 (F := fun st M => P g X 5 10 [(0, .ref a0), (1, .int x1), (2, .int x2), (3, .int x3)] st _ _ M) (M := (K, len, I16, J, R)) fun x17_ h17 => ?_)
    obtain ⟨k17_0, k17_1, k17_2, k17_3, k17_4⟩ := h17
    show P g X 5 10 [(0, .ref a0), (1, .int x1), (2, .int x2), (3, .int x3)] [.int x17_] _ _ (K, len, I16, J, R)
    have z17 := fun h9 => k17_4 h9 hm hbm
    have vz17 : (I16 hm 7).toInt = S0.toInt := congrArg Int32.toInt (Eq.trans (up2_kk eI16 ka0 khm (by decide)) eS0.symm)
    refine r_if_eq hC (tgt := 29) dX10_part_10 (by decide) (fun c18 => ?_) (fun c18 => ?_)
    · refine r_aload_n hC dX10_part_29 0 rfl ?_
      refine r_iconst hC (v := (1)) dX10_part_30 (by decide) (by decide) (fun x19_ e19 t19 => ?_)
      refine r_callV hC (As := [.int x19_]) (rest := []) (ci := 10) (c_X10_refused g (xL X) K len I16 J R hs16 a0 ka0 x19_) mT_5_85 mT_1_10 mT_5_82 mT_5_84 mP_48 okX10_refused ⟨by decide, by decide⟩ rfl (by show kO (K a0) = _; rw [ka0]; rfl) rfl rfl (Nat.le_of_ble_eq_true rfl) ⟨by decide, by decide⟩ dX10_part_31 (aI1 (F := fun st M => P g X 5 34 [(0, .ref a0), (1, .int x1), (2, .int x2), (3, .int x3)] st _ _ M) (M := (K, len, I16, J, R)) fun x20_ I20 h20 => ?_)
      obtain ⟨hs20, hf20, k20_0, k20_1, k20_2⟩ := h20
      show P g X 5 34 [(0, .ref a0), (1, .int x1), (2, .int x2), (3, .int x3)] [.int x20_] _ _ (K, len, I20, J, R)
      have hF20 : Fr K [(11, 0), (11, 1), (11, 2), (11, 19), (85, 999), (86, 999), (87, 999), (88, 999)] I I20 := hF16.trans hf20 rfl rfl
      exact r_iret hC hQ hlk hr rfl (by decide) (by decide) dX10_part_34 ⟨_, _, rfl, rfl, ⟨hs20, hF20, (by omega)⟩⟩
    · refine r_aload_n hC dX10_part_13 0 rfl ?_
      refine r_iload_n hC dX10_part_14 2 rfl ?_
      refine r_callV hC (As := [.int x2]) (rest := []) (ci := 10) (c_X10_isPeg g (xL X) K len I16 J R hs16 a0 ka0 x2) mT_6_123 mT_1_10 mT_6_120 mT_6_122 mP_72 okX10_isPeg ⟨by decide, by decide⟩ rfl (by show kO (K a0) = _; rw [ka0]; rfl) rfl rfl (Nat.le_of_ble_eq_true rfl) ⟨by decide, by decide⟩ dX10_part_15 (aI0 (F := fun st M => P g X 5 18 [(0, .ref a0), (1, .int x1), (2, .int x2), (3, .int x3)] st _ _ M) (M := (K, len, I16, J, R)) fun x21_ h21 => ?_)
      obtain ⟨k21_0, k21_1, k21_2, k21_3⟩ := h21
      show P g X 5 18 [(0, .ref a0), (1, .int x1), (2, .int x2), (3, .int x3)] [.int x21_] _ _ (K, len, I16, J, R)
      refine r_if_eq hC (tgt := 29) dX10_part_18 (by decide) (fun c22 => ?_) (fun c22 => ?_)
      · refine r_aload_n hC dX10_part_29 0 rfl ?_
        refine r_iconst hC (v := (1)) dX10_part_30 (by decide) (by decide) (fun x23_ e23 t23 => ?_)
        refine r_callV hC (As := [.int x23_]) (rest := []) (ci := 10) (c_X10_refused g (xL X) K len I16 J R hs16 a0 ka0 x23_) mT_5_85 mT_1_10 mT_5_82 mT_5_84 mP_48 okX10_refused ⟨by decide, by decide⟩ rfl (by show kO (K a0) = _; rw [ka0]; rfl) rfl rfl (Nat.le_of_ble_eq_true rfl) ⟨by decide, by decide⟩ dX10_part_31 (aI1 (F := fun st M => P g X 5 34 [(0, .ref a0), (1, .int x1), (2, .int x2), (3, .int x3)] st _ _ M) (M := (K, len, I16, J, R)) fun x24_ I24 h24 => ?_)
        obtain ⟨hs24, hf24, k24_0, k24_1, k24_2⟩ := h24
        show P g X 5 34 [(0, .ref a0), (1, .int x1), (2, .int x2), (3, .int x3)] [.int x24_] _ _ (K, len, I24, J, R)
        have hF24 : Fr K [(11, 0), (11, 1), (11, 2), (11, 19), (85, 999), (86, 999), (87, 999), (88, 999)] I I24 := hF16.trans hf24 rfl rfl
        exact r_iret hC hQ hlk hr rfl (by decide) (by decide) dX10_part_34 ⟨_, _, rfl, rfl, ⟨hs24, hF24, (by omega)⟩⟩
      · refine r_aload_n hC dX10_part_21 0 rfl ?_
        refine r_iload_n hC dX10_part_22 3 rfl ?_
        refine r_callV hC (As := [.int x3]) (rest := []) (ci := 10) (c_X10_isDay g (xL X) K len I16 J R hs16 a0 ka0 x3) mT_6_95 mT_1_10 mT_6_92 mT_6_94 mP_68 okX10_isDay ⟨by decide, by decide⟩ rfl (by show kO (K a0) = _; rw [ka0]; rfl) rfl rfl (Nat.le_of_ble_eq_true rfl) ⟨by decide, by decide⟩ dX10_part_23 (aI0 (F := fun st M => P g X 5 26 [(0, .ref a0), (1, .int x1), (2, .int x2), (3, .int x3)] st _ _ M) (M := (K, len, I16, J, R)) fun x25_ h25 => ?_)
        obtain ⟨k25_0, k25_1, k25_2, k25_3⟩ := h25
        show P g X 5 26 [(0, .ref a0), (1, .int x1), (2, .int x2), (3, .int x3)] [.int x25_] _ _ (K, len, I16, J, R)
        refine r_if_ne hC (tgt := 35) dX10_part_26 (by decide) (fun c26 => ?_) (fun c26 => ?_)
        · refine r_aload_n hC dX10_part_35 0 rfl ?_
          refine r_getr hC 3 (ci := 10) rfl u10_in (by decide) mT_4_238 dX10_part_36 ka0 rfl rfl hbm ?_
          obtain ⟨kd27, mo27, hb27, hk27, hn27, hB27, hK27, hN27⟩ := hs16.2.2.1 hm khm
          refine r_getrN hC 17 (ci := 9) rfl u9_in (by decide) nF_17 dX10_part_39 khm rfl rfl hb27 ?_
          refine r_iload_n hC dX10_part_42 1 rfl ?_
          refine x_iaload hC hk27 hn27 (by omega) (kOb (by omega)) (kAb (by omega)) dX10_part_43 (by omega) (by omega) (fun x28_ e28 => ?_)
          refine r_iconst hC (v := (5)) dX10_part_44 (by decide) (by decide) (fun x29_ e29 t29 => ?_)
          refine r_icmp_eq hC (tgt := 54) dX10_part_45 (by decide) (fun c30 => ?_) (fun c30 => ?_)
          · refine r_aload_n hC dX10_part_54 0 rfl ?_
            refine r_iload_n hC dX10_part_55 1 rfl ?_
            have hv31 : I16 hm 7 = S0 := (Eq.trans (up2_kk eI16 ka0 khm (by decide)) eS0.symm)
            refine r_callV hC (As := [.int x1]) (rest := []) (ci := 10) (c_X10_runsAsTold g (xL X) K len I16 J R hs16 a0 ka0 x1 hm hbm khm (by rw [hv31]; omega) (by omega) (by omega)) mT_6_127 mT_1_10 mT_6_124 mT_6_126 mP_73 okX10_runsAsTold ⟨by decide, by decide⟩ rfl (by show kO (K a0) = _; rw [ka0]; rfl) rfl rfl (Nat.le_of_ble_eq_true rfl) ⟨by decide, by decide⟩ dX10_part_56 (aV1 (F := fun st M => P g X 5 59 [(0, .ref a0), (1, .int x1), (2, .int x2), (3, .int x3)] st _ _ M) (M := (K, len, I16, J, R)) fun I32 h32 => ?_)
            obtain ⟨hs32, hf32⟩ := h32
            show P g X 5 59 [(0, .ref a0), (1, .int x1), (2, .int x2), (3, .int x3)] [] _ _ (K, len, I32, J, R)
            have hF32 : Fr K [(11, 0), (11, 1), (11, 2), (11, 19), (85, 999), (86, 999), (87, 999), (88, 999)] I I32 := hF16.trans hf32 rfl rfl
            refine r_aload_n hC dX10_part_59 0 rfl ?_
            obtain ⟨a33_, hb33, hk33, hn33⟩ := hs32.row ka0 17 87 300 (by decide) (by decide)
            refine r_getr hC 17 (ci := 10) rfl u10_in (by decide) mT_5_12 dX10_part_60 ka0 rfl rfl hb33 ?_
            refine r_bipush hC (v := (60)) dX10_part_63 (by decide) (by decide) (fun x34_ e34 t34 => ?_)
            refine r_iload_n hC dX10_part_65 2 rfl ?_
            refine r_imul hC dX10_part_66 (fun x35_ e35 => ?_)
            try have t35 : x35_.toInt = (60) * x2.toInt := by rw [e35]; exact ti_mul (by omega) rfl (by omega) (by omega)
            refine r_iload_n hC dX10_part_67 3 rfl ?_
            refine r_iadd hC dX10_part_68 (fun x36_ e36 => ?_)
            try have t36 : x36_.toInt = x35_.toInt + x3.toInt := by rw [e36]; exact ti_add (by omega) (by omega)
            refine x_iaload hC hk33 hn33 (by decide) rfl rfl dX10_part_69 (by omega) (by omega) (fun x37_ e37 => ?_)
            refine r_istore hC (lv' := [(4, .int x37_), (0, .ref a0), (1, .int x1), (2, .int x2), (3, .int x3)]) dX10_part_70 (by decide) rfl ?_
            refine r_aload_n hC dX10_part_72 1 rfl ?_
            refine r_iload_n hC dX10_part_73 2 rfl ?_
            refine r_iconst hC (v := (0)) dX10_part_74 (by decide) (by decide) (fun x38_ e38 t38 => ?_)
            have hv39 : I32 hm 7 = S0 := (Eq.trans (hf32.get khm rfl) (Eq.trans (up2_kk eI16 ka0 khm (by decide)) eS0.symm))
            refine r_callV hC (As := [.int x1, .int x38_]) (rest := []) (ci := 10) (c_X10_runs g (xL X) K len I32 J R hs32 a0 ka0 x1 x38_ hm hbm khm (by rw [hv39]; omega) (by omega) (by omega)) mT_6_131 mT_1_10 mT_6_128 mT_6_130 mP_74 okX10_runs ⟨by decide, by decide⟩ rfl (by show kO (K a0) = _; rw [ka0]; rfl) rfl rfl (Nat.le_of_ble_eq_true rfl) ⟨by decide, by decide⟩ dX10_part_75 (aV1 (F := fun st M => P g X 5 78 [(4, .int x37_), (0, .ref a0), (1, .int x1), (2, .int x2), (3, .int x3)] st _ _ M) (M := (K, len, I32, J, R)) fun I40 h40 => ?_)
            obtain ⟨hs40, hf40⟩ := h40
            show P g X 5 78 [(4, .int x37_), (0, .ref a0), (1, .int x1), (2, .int x2), (3, .int x3)] [] _ _ (K, len, I40, J, R)
            have hF40 : Fr K [(11, 0), (11, 1), (11, 2), (11, 19), (85, 999), (86, 999), (87, 999), (88, 999)] I I40 := hF32.trans hf40 rfl rfl
            refine r_aload_n hC dX10_part_78 1 rfl ?_
            refine r_iload hC dX10_part_79 0 rfl ?_
            refine r_aload_n hC dX10_part_81 1 rfl ?_
            refine r_getr hC 17 (ci := 10) rfl u10_in (by decide) mT_5_12 dX10_part_82 ka0 rfl rfl hb33 ?_
            refine r_bipush hC (v := (60)) dX10_part_85 (by decide) (by decide) (fun x41_ e41 t41 => ?_)
            refine r_iload_n hC dX10_part_87 3 rfl ?_
            refine r_imul hC dX10_part_88 (fun x42_ e42 => ?_)
            try have t42 : x42_.toInt = (60) * x2.toInt := by rw [e42]; exact ti_mul (by omega) rfl (by omega) (by omega)
            refine r_iload_n hC dX10_part_89 4 rfl ?_
            refine r_iadd hC dX10_part_90 (fun x43_ e43 => ?_)
            try have t43 : x43_.toInt = x42_.toInt + x3.toInt := by rw [e43]; exact ti_add (by omega) (by omega)
            refine x_iaload hC hk33 hn33 (by decide) rfl rfl dX10_part_91 (by omega) (by omega) (fun x44_ e44 => ?_)
            refine r_isub hC dX10_part_92 (fun x45_ e45 => ?_)
            try have t45 : x45_.toInt = x37_.toInt - x44_.toInt := by rw [e45]; exact ti_sub (by omega) (by omega)
            refine r_callV hC (As := [.int x45_]) (rest := []) (ci := 10) (c_X10_done g (xL X) K len I40 J R hs40 a0 ka0 x45_) mT_6_79 mT_1_10 mT_6_76 mT_6_78 mP_67 okX10_done ⟨by decide, by decide⟩ rfl (by show kO (K a0) = _; rw [ka0]; rfl) rfl rfl (Nat.le_of_ble_eq_true rfl) ⟨by decide, by decide⟩ dX10_part_93 (aI1 (F := fun st M => P g X 5 96 [(4, .int x37_), (0, .ref a0), (1, .int x1), (2, .int x2), (3, .int x3)] st _ _ M) (M := (K, len, I40, J, R)) fun x46_ I46 h46 => ?_)
            obtain ⟨hs46, hf46, k46_0, k46_1, k46_2⟩ := h46
            show P g X 5 96 [(4, .int x37_), (0, .ref a0), (1, .int x1), (2, .int x2), (3, .int x3)] [.int x46_] _ _ (K, len, I46, J, R)
            have hF46 : Fr K [(11, 0), (11, 1), (11, 2), (11, 19), (85, 999), (86, 999), (87, 999), (88, 999)] I I46 := hF40.trans hf46 rfl rfl
            exact r_iret hC hQ hlk hr rfl (by decide) (by decide) dX10_part_96 ⟨_, _, rfl, rfl, ⟨hs46, hF46, (by omega)⟩⟩
          · refine r_aload_n hC dX10_part_48 0 rfl ?_
            refine r_iconst hC (v := (0)) dX10_part_49 (by decide) (by decide) (fun x47_ e47 t47 => ?_)
            refine r_callV hC (As := [.int x47_]) (rest := []) (ci := 10) (c_X10_done g (xL X) K len I16 J R hs16 a0 ka0 x47_) mT_6_79 mT_1_10 mT_6_76 mT_6_78 mP_67 okX10_done ⟨by decide, by decide⟩ rfl (by show kO (K a0) = _; rw [ka0]; rfl) rfl rfl (Nat.le_of_ble_eq_true rfl) ⟨by decide, by decide⟩ dX10_part_50 (aI1 (F := fun st M => P g X 5 53 [(0, .ref a0), (1, .int x1), (2, .int x2), (3, .int x3)] st _ _ M) (M := (K, len, I16, J, R)) fun x48_ I48 h48 => ?_)
            obtain ⟨hs48, hf48, k48_0, k48_1, k48_2⟩ := h48
            show P g X 5 53 [(0, .ref a0), (1, .int x1), (2, .int x2), (3, .int x3)] [.int x48_] _ _ (K, len, I48, J, R)
            have hF48 : Fr K [(11, 0), (11, 1), (11, 2), (11, 19), (85, 999), (86, 999), (87, 999), (88, 999)] I I48 := hF16.trans hf48 rfl rfl
            exact r_iret hC hQ hlk hr rfl (by decide) (by decide) dX10_part_53 ⟨_, _, rfl, rfl, ⟨hs48, hF48, (by omega)⟩⟩
        · refine r_aload_n hC dX10_part_29 0 rfl ?_
          refine r_iconst hC (v := (1)) dX10_part_30 (by decide) (by decide) (fun x49_ e49 t49 => ?_)
          refine r_callV hC (As := [.int x49_]) (rest := []) (ci := 10) (c_X10_refused g (xL X) K len I16 J R hs16 a0 ka0 x49_) mT_5_85 mT_1_10 mT_5_82 mT_5_84 mP_48 okX10_refused ⟨by decide, by decide⟩ rfl (by show kO (K a0) = _; rw [ka0]; rfl) rfl rfl (Nat.le_of_ble_eq_true rfl) ⟨by decide, by decide⟩ dX10_part_31 (aI1 (F := fun st M => P g X 5 34 [(0, .ref a0), (1, .int x1), (2, .int x2), (3, .int x3)] st _ _ M) (M := (K, len, I16, J, R)) fun x50_ I50 h50 => ?_)
          obtain ⟨hs50, hf50, k50_0, k50_1, k50_2⟩ := h50
          show P g X 5 34 [(0, .ref a0), (1, .int x1), (2, .int x2), (3, .int x3)] [.int x50_] _ _ (K, len, I50, J, R)
          have hF50 : Fr K [(11, 0), (11, 1), (11, 2), (11, 19), (85, 999), (86, 999), (87, 999), (88, 999)] I I50 := hF16.trans hf50 rfl rfl
          exact r_iret hC hQ hlk hr rfl (by decide) (by decide) dX10_part_34 ⟨_, _, rfl, rfl, ⟨hs50, hF50, (by omega)⟩⟩
set_option maxHeartbeats 4000000 in
set_option maxRecDepth 100000 in
theorem c_X10_led (g : GG) (l : Launch) (K len : Nat → Nat) (I : Nat → Nat → Int32) (J : Nat → Nat → Int64) (R : Nat → Nat → Option Nat) (hs : Sf K len I R) (a0 : Nat) (ka0 : K a0 = 11) (x1 : Int32) (x2 : Int32) : Ct g l yX10_led cX10_led 5 (Option.some Jvm.ClassFile.FieldType.int) rmX10_led [.ref a0, .int x1, .int x2] (K, len, I, J, R) (pI1 (K, len, I, J, R) (fun r I' => Sf K len I' R ∧ Fr K [(11, 0), (11, 19), (85, 999), (86, 999), (87, 999), (88, 999)] I I')) := by
  refine Ct_intro (by decide +kernel) (Nat.le_of_ble_eq_true rfl) (fun X hC hL hKK hNm hr hlk hQ => ?_)
  subst hL
  have hC : Cx g X cX10_led "HillTapModel" 5 rmX10_led := hC
  show P g X 5 0 [(0, .ref a0), (1, .int x1), (2, .int x2)] [] 0 0 (K, len, I, J, R)
  have hF : Fr K [(11, 0), (11, 19), (85, 999), (86, 999), (87, 999), (88, 999)] I I := Fr.refl
  have b_x1 := ti_rng x1
  have b_x2 := ti_rng x2
  rcases hs.2.1.2.2.1 a0 ka0 with hz | ⟨hm, hbm, khm⟩
  · refine r_aload_n hC dX10_led_0 0 rfl ?_
    refine r_iconst hC (v := (1)) dX10_led_1 (by decide) (by decide) (fun x1_ e1 t1 => ?_)
    refine r_puti hC 0 (ci := 10) rfl u10_in tyX10_ok nmX10 (by decide) mT_4_235 rfl rfl rfl dX10_led_2 ka0 rfl rfl (fun I2 eI2 => ?_)
    have hs2 := hs.put0 eI2 ka0 rfl rfl rfl (by decide)
    have hF2 := hF.put eI2 ka0 rfl
    refine r_aload_n hC dX10_led_5 0 rfl ?_
    refine r_iload_n hC dX10_led_6 1 rfl ?_
    refine r_callV hC (As := [.int x1]) (rest := []) (ci := 10) (c_X10_isStory g (xL X) K len I2 J R hs2 a0 ka0 x1) mT_6_119 mT_1_10 mT_6_116 mT_6_118 mP_71 okX10_isStory ⟨by decide, by decide⟩ rfl (by show kO (K a0) = _; rw [ka0]; rfl) rfl rfl (Nat.le_of_ble_eq_true rfl) ⟨by decide, by decide⟩ dX10_led_7 (aI0 (F := fun st M => P g X 5 10 [(0, .ref a0), (1, .int x1), (2, .int x2)] st _ _ M) (M := (K, len, I2, J, R)) fun x3_ h3 => ?_)
    obtain ⟨k3_0, k3_1, k3_2, k3_3, k3_4⟩ := h3
    show P g X 5 10 [(0, .ref a0), (1, .int x1), (2, .int x2)] [.int x3_] _ _ (K, len, I2, J, R)
    refine r_if_ne hC (tgt := 15) dX10_led_10 (by decide) (fun c4 => ?_) (fun c4 => ?_)
    · refine r_aload_n hC dX10_led_15 0 rfl ?_
      refine r_iload_n hC dX10_led_16 1 rfl ?_
      first | exact absurd hz (k3_2 (by omega))
    · refine r_iconst hC (v := (0)) dX10_led_13 (by decide) (by decide) (fun x5_ e5 t5 => ?_)
      exact r_iret hC hQ hlk hr rfl (by decide) (by decide) dX10_led_14 ⟨_, _, rfl, rfl, ⟨hs2, hF2⟩⟩
  · obtain ⟨S0, eS0⟩ : ∃ z : Int32, z = I hm 7 := ⟨_, rfl⟩
    have fS0 : S0.toInt = (I hm 7).toInt := by rw [eS0]
    have rS0 := hs.rng khm rfl eS0
    refine r_aload_n hC dX10_led_0 0 rfl ?_
    refine r_iconst hC (v := (1)) dX10_led_1 (by decide) (by decide) (fun x6_ e6 t6 => ?_)
    refine r_puti hC 0 (ci := 10) rfl u10_in tyX10_ok nmX10 (by decide) mT_4_235 rfl rfl rfl dX10_led_2 ka0 rfl rfl (fun I7 eI7 => ?_)
    have hs7 := hs.put0 eI7 ka0 rfl rfl rfl (by decide)
    have hF7 := hF.put eI7 ka0 rfl
    refine r_aload_n hC dX10_led_5 0 rfl ?_
    refine r_iload_n hC dX10_led_6 1 rfl ?_
    refine r_callV hC (As := [.int x1]) (rest := []) (ci := 10) (c_X10_isStory g (xL X) K len I7 J R hs7 a0 ka0 x1) mT_6_119 mT_1_10 mT_6_116 mT_6_118 mP_71 okX10_isStory ⟨by decide, by decide⟩ rfl (by show kO (K a0) = _; rw [ka0]; rfl) rfl rfl (Nat.le_of_ble_eq_true rfl) ⟨by decide, by decide⟩ dX10_led_7 (aI0 (F := fun st M => P g X 5 10 [(0, .ref a0), (1, .int x1), (2, .int x2)] st _ _ M) (M := (K, len, I7, J, R)) fun x8_ h8 => ?_)
    obtain ⟨k8_0, k8_1, k8_2, k8_3, k8_4⟩ := h8
    show P g X 5 10 [(0, .ref a0), (1, .int x1), (2, .int x2)] [.int x8_] _ _ (K, len, I7, J, R)
    have z8 := fun h9 => k8_4 h9 hm hbm
    have vz8 : (I7 hm 7).toInt = S0.toInt := congrArg Int32.toInt (Eq.trans (up2_kk eI7 ka0 khm (by decide)) eS0.symm)
    refine r_if_ne hC (tgt := 15) dX10_led_10 (by decide) (fun c9 => ?_) (fun c9 => ?_)
    · refine r_aload_n hC dX10_led_15 0 rfl ?_
      refine r_iload_n hC dX10_led_16 1 rfl ?_
      have hv10 : I7 hm 7 = S0 := (Eq.trans (up2_kk eI7 ka0 khm (by decide)) eS0.symm)
      refine r_callV hC (As := [.int x1]) (rest := []) (ci := 10) (c_X10_runsAsTold g (xL X) K len I7 J R hs7 a0 ka0 x1 hm hbm khm (by rw [hv10]; omega) (by omega) (by omega)) mT_6_127 mT_1_10 mT_6_124 mT_6_126 mP_73 okX10_runsAsTold ⟨by decide, by decide⟩ rfl (by show kO (K a0) = _; rw [ka0]; rfl) rfl rfl (Nat.le_of_ble_eq_true rfl) ⟨by decide, by decide⟩ dX10_led_17 (aV1 (F := fun st M => P g X 5 20 [(0, .ref a0), (1, .int x1), (2, .int x2)] st _ _ M) (M := (K, len, I7, J, R)) fun I11 h11 => ?_)
      obtain ⟨hs11, hf11⟩ := h11
      show P g X 5 20 [(0, .ref a0), (1, .int x1), (2, .int x2)] [] _ _ (K, len, I11, J, R)
      have hF11 : Fr K [(11, 0), (11, 19), (85, 999), (86, 999), (87, 999), (88, 999)] I I11 := hF7.trans hf11 rfl rfl
      refine r_iconst hC (v := (0)) dX10_led_20 (by decide) (by decide) (fun x12_ e12 t12 => ?_)
      refine r_istore_n hC (lv' := [(3, .int x12_), (0, .ref a0), (1, .int x1), (2, .int x2)]) dX10_led_21 (by decide) rfl ?_
      refine r_iconst hC (v := (0)) dX10_led_22 (by decide) (by decide) (fun x13_ e13 t13 => ?_)
      refine r_istore hC (lv' := [(4, .int x13_), (3, .int x12_), (0, .ref a0), (1, .int x1), (2, .int x2)]) dX10_led_23 (by decide) rfl ?_
      have LP14 : ∀ (mu : Nat) (x14_4 : Int32) (x14_3 : Int32) (I14 : Nat → Nat → Int32) (hs14 : Sf K len I14 R) (hF14 : Fr K [(11, 0), (11, 19), (85, 999), (86, 999), (87, 999), (88, 999)] I I14) (v14_0 : 0 ≤ x14_4.toInt) (v14_1 : x14_4.toInt ≤ 60), (60 - x14_4.toInt).toNat = mu → P g X 5 25 [(0, .ref a0), (1, .int x1), (2, .int x2), (3, .int x14_3), (4, .int x14_4)] [] 0 0 (K, len, I14, J, R) := by
        intro mu; induction mu using Nat.strongRecOn with | ind mu ih => ?_
        intro x14_4 x14_3 I14 hs14 hF14 v14_0 v14_1 hmu
        have ih14 := ih
        clear ih
        have hmu14 := hmu
        clear hmu
        refine r_iload hC dX10_led_25 4 rfl ?_
        refine r_bipush hC (v := (60)) dX10_led_27 (by decide) (by decide) (fun x15_ e15 t15 => ?_)
        refine r_icmp_ge hC (tgt := 74) dX10_led_29 (by decide) (fun c16 => ?_) (fun c16 => ?_)
        · refine r_iconst hC (v := (0)) dX10_led_74 (by decide) (by decide) (fun x17_ e17 t17 => ?_)
          exact r_iret hC hQ hlk hr rfl (by decide) (by decide) dX10_led_75 ⟨_, _, rfl, rfl, ⟨hs14, hF14⟩⟩
        · refine r_aload_n hC dX10_led_32 0 rfl ?_
          refine r_iload hC dX10_led_33 4 rfl ?_
          refine r_callV hC (As := [.int x14_4]) (rest := []) (ci := 10) (c_X10_speeds g (xL X) K len I14 J R hs14 a0 ka0 x14_4 hm hbm khm (by omega)) mT_6_167 mT_1_10 mT_6_164 mT_6_166 mP_81 okX10_speeds ⟨by decide, by decide⟩ rfl (by show kO (K a0) = _; rw [ka0]; rfl) rfl rfl (Nat.le_of_ble_eq_true rfl) ⟨by decide, by decide⟩ dX10_led_35 (aI0 (F := fun st M => P g X 5 38 [(0, .ref a0), (1, .int x1), (2, .int x2), (3, .int x14_3), (4, .int x14_4)] st _ _ M) (M := (K, len, I14, J, R)) fun x18_ h18 => ?_)
          skip
          show P g X 5 38 [(0, .ref a0), (1, .int x1), (2, .int x2), (3, .int x14_3), (4, .int x14_4)] [.int x18_] _ _ (K, len, I14, J, R)
          refine r_aload_n hC dX10_led_38 0 rfl ?_
          refine r_iload hC dX10_led_39 4 rfl ?_
          refine r_iconst hC (v := (1)) dX10_led_41 (by decide) (by decide) (fun x19_ e19 t19 => ?_)
          refine r_isub hC dX10_led_42 (fun x20_ e20 => ?_)
          try have t20 : x20_.toInt = x14_4.toInt - x19_.toInt := by rw [e20]; exact ti_sub (by omega) (by omega)
          refine r_callV hC (As := [.int x20_]) (rest := [.int x18_]) (ci := 10) (c_X10_speeds g (xL X) K len I14 J R hs14 a0 ka0 x20_ hm hbm khm (by omega)) mT_6_167 mT_1_10 mT_6_164 mT_6_166 mP_81 okX10_speeds ⟨by decide, by decide⟩ rfl (by show kO (K a0) = _; rw [ka0]; rfl) rfl rfl (Nat.le_of_ble_eq_true rfl) ⟨by decide, by decide⟩ dX10_led_43 (aI0 (F := fun st M => P g X 5 46 [(0, .ref a0), (1, .int x1), (2, .int x2), (3, .int x14_3), (4, .int x14_4)] st _ _ M) (M := (K, len, I14, J, R)) fun x21_ h21 => ?_)
          skip
          show P g X 5 46 [(0, .ref a0), (1, .int x1), (2, .int x2), (3, .int x14_3), (4, .int x14_4)] [.int x21_, .int x18_] _ _ (K, len, I14, J, R)
          refine r_icmp_gt hC (tgt := 52) dX10_led_46 (by decide) (fun c22 => ?_) (fun c22 => ?_)
          · refine r_iload_n hC dX10_led_52 3 rfl ?_
            refine r_iload_n hC dX10_led_53 2 rfl ?_
            refine r_icmp_ne hC (tgt := 65) dX10_led_54 (by decide) (fun c23 => ?_) (fun c23 => ?_)
            · obtain ⟨x24_, e24⟩ : ∃ z : Int32, z = x14_3 + Int32.ofInt (1) := ⟨_, rfl⟩
              refine r_iinc hC (j := 3) (v := x24_) (lv' := [(3, .int x24_), (0, .ref a0), (1, .int x1), (2, .int x2), (4, .int x14_4)]) dX10_led_65 rfl (by rw [e24]) (by decide) rfl ?_
              try have t24 : x24_.toInt = x14_3.toInt + (1) := by rw [e24]; exact (ti_add (b := Int32.ofInt (1)) (by show _ ≤ _ + (1 : Int); omega) (by show _ + (1 : Int) ≤ _; omega))
              obtain ⟨x25_, e25⟩ : ∃ z : Int32, z = x14_4 + Int32.ofInt (1) := ⟨_, rfl⟩
              refine r_iinc hC (j := 4) (v := x25_) (lv' := [(4, .int x25_), (3, .int x24_), (0, .ref a0), (1, .int x1), (2, .int x2)]) dX10_led_68 rfl (by rw [e25]) (by decide) rfl ?_
              try have t25 : x25_.toInt = x14_4.toInt + (1) := by rw [e25]; exact (ti_add (b := Int32.ofInt (1)) (by show _ ≤ _ + (1 : Int); omega) (by show _ + (1 : Int) ≤ _; omega))
              refine r_goto hC (tgt := 25) dX10_led_71 (by decide) ?_
              refine r_sub [2, 3, 4, 1, 0] rfl ?_
              exact ih14 ((60 - x25_.toInt).toNat) (by omega) x25_ x24_ I14 hs14 hF14 (by omega) (by omega) rfl
            · refine r_aload_n hC dX10_led_57 0 rfl ?_
              refine r_iconst hC (v := (0)) dX10_led_58 (by decide) (by decide) (fun x26_ e26 t26 => ?_)
              refine r_puti hC 0 (ci := 10) rfl u10_in tyX10_ok nmX10 (by decide) mT_4_235 rfl rfl rfl dX10_led_59 ka0 rfl rfl (fun I27 eI27 => ?_)
              have hs27 := hs14.put0 eI27 ka0 rfl rfl rfl (by decide)
              have hF27 := hF14.put eI27 ka0 rfl
              refine r_iload hC dX10_led_62 4 rfl ?_
              exact r_iret hC hQ hlk hr rfl (by decide) (by decide) dX10_led_64 ⟨_, _, rfl, rfl, ⟨hs27, hF27⟩⟩
          · refine r_goto hC (tgt := 68) dX10_led_49 (by decide) ?_
            obtain ⟨x28_, e28⟩ : ∃ z : Int32, z = x14_4 + Int32.ofInt (1) := ⟨_, rfl⟩
            refine r_iinc hC (j := 4) (v := x28_) (lv' := [(4, .int x28_), (0, .ref a0), (1, .int x1), (2, .int x2), (3, .int x14_3)]) dX10_led_68 rfl (by rw [e28]) (by decide) rfl ?_
            try have t28 : x28_.toInt = x14_4.toInt + (1) := by rw [e28]; exact (ti_add (b := Int32.ofInt (1)) (by show _ ≤ _ + (1 : Int); omega) (by show _ + (1 : Int) ≤ _; omega))
            refine r_goto hC (tgt := 25) dX10_led_71 (by decide) ?_
            refine r_sub [1, 2, 3, 4, 0] rfl ?_
            exact ih14 ((60 - x28_.toInt).toNat) (by omega) x28_ x14_3 I14 hs14 hF14 (by omega) (by omega) rfl
      refine r_sub [2, 3, 4, 1, 0] rfl ?_
      exact LP14 _ x13_ x12_ I11 hs11 hF11 (by omega) (by omega) rfl
    · refine r_iconst hC (v := (0)) dX10_led_13 (by decide) (by decide) (fun x29_ e29 t29 => ?_)
      exact r_iret hC hQ hlk hr rfl (by decide) (by decide) dX10_led_14 ⟨_, _, rfl, rfl, ⟨hs7, hF7⟩⟩
set_option maxHeartbeats 4000000 in
set_option maxRecDepth 100000 in
theorem c_X10_peg (g : GG) (l : Launch) (K len : Nat → Nat) (I : Nat → Nat → Int32) (J : Nat → Nat → Int64) (R : Nat → Nat → Option Nat) (hs : Sf K len I R) (a0 : Nat) (ka0 : K a0 = 11) (x1 : Int32) (x2 : Int32) (x3 : Int32) (x4 : Int32) : Ct g l yX10_peg cX10_peg 6 (Option.some Jvm.ClassFile.FieldType.int) rmX10_peg [.ref a0, .int x1, .int x2, .int x3, .int x4] (K, len, I, J, R) (pI1 (K, len, I, J, R) (fun r I' => Sf K len I' R ∧ Fr K [(11, 0), (11, 1), (11, 2), (11, 19), (85, 999), (86, 999), (87, 999), (88, 999)] I I' ∧ ((I' a0 2).toInt = -1))) := by
  refine Ct_intro (by decide +kernel) (Nat.le_of_ble_eq_true rfl) (fun X hC hL hKK hNm hr hlk hQ => ?_)
  subst hL
  have hC : Cx g X cX10_peg "HillTapModel" 6 rmX10_peg := hC
  show P g X 6 0 [(0, .ref a0), (1, .int x1), (2, .int x2), (3, .int x3), (4, .int x4)] [] 0 0 (K, len, I, J, R)
  have hF : Fr K [(11, 0), (11, 1), (11, 2), (11, 19), (85, 999), (86, 999), (87, 999), (88, 999)] I I := Fr.refl
  have b_x1 := ti_rng x1
  have b_x2 := ti_rng x2
  have b_x3 := ti_rng x3
  have b_x4 := ti_rng x4
  rcases hs.2.1.2.2.1 a0 ka0 with hz | ⟨hm, hbm, khm⟩
  · refine r_aload_n hC dX10_peg_0 0 rfl ?_
    refine r_iconst hC (v := (0)) dX10_peg_1 (by decide) (by decide) (fun x1_ e1 t1 => ?_)
    refine r_puti hC 0 (ci := 10) rfl u10_in tyX10_ok nmX10 (by decide) mT_4_235 rfl rfl rfl dX10_peg_2 ka0 rfl rfl (fun I2 eI2 => ?_)
    have hs2 := hs.put0 eI2 ka0 rfl rfl rfl (by decide)
    have hF2 := hF.put eI2 ka0 rfl
    refine r_aload_n hC dX10_peg_5 0 rfl ?_
    refine r_iload_n hC dX10_peg_6 1 rfl ?_
    refine r_callV hC (As := [.int x1]) (rest := []) (ci := 10) (c_X10_isStory g (xL X) K len I2 J R hs2 a0 ka0 x1) mT_6_119 mT_1_10 mT_6_116 mT_6_118 mP_71 okX10_isStory ⟨by decide, by decide⟩ rfl (by show kO (K a0) = _; rw [ka0]; rfl) rfl rfl (Nat.le_of_ble_eq_true rfl) ⟨by decide, by decide⟩ dX10_peg_7 (aI0 (F := fun st M => P g X 6 10 [(0, .ref a0), (1, .int x1), (2, .int x2), (3, .int x3), (4, .int x4)] st _ _ M) (M := (K, len, I2, J, R)) fun x3_ h3 => ?_)
    obtain ⟨k3_0, k3_1, k3_2, k3_3, k3_4⟩ := h3
    show P g X 6 10 [(0, .ref a0), (1, .int x1), (2, .int x2), (3, .int x3), (4, .int x4)] [.int x3_] _ _ (K, len, I2, J, R)
    refine r_if_eq hC (tgt := 39) dX10_peg_10 (by decide) (fun c4 => ?_) (fun c4 => ?_)
    · refine r_aload_n hC dX10_peg_39 0 rfl ?_
      refine r_iconst hC (v := (1)) dX10_peg_40 (by decide) (by decide) (fun x5_ e5 t5 => ?_)
      refine r_callV hC (As := [.int x5_]) (rest := []) (ci := 10) (c_X10_refused g (xL X) K len I2 J R hs2 a0 ka0 x5_) mT_5_85 mT_1_10 mT_5_82 mT_5_84 mP_48 okX10_refused ⟨by decide, by decide⟩ rfl (by show kO (K a0) = _; rw [ka0]; rfl) rfl rfl (Nat.le_of_ble_eq_true rfl) ⟨by decide, by decide⟩ dX10_peg_41 (aI1 (F := fun st M => P g X 6 44 [(0, .ref a0), (1, .int x1), (2, .int x2), (3, .int x3), (4, .int x4)] st _ _ M) (M := (K, len, I2, J, R)) fun x6_ I6 h6 => ?_)
      obtain ⟨hs6, hf6, k6_0, k6_1, k6_2⟩ := h6
      show P g X 6 44 [(0, .ref a0), (1, .int x1), (2, .int x2), (3, .int x3), (4, .int x4)] [.int x6_] _ _ (K, len, I6, J, R)
      have hF6 : Fr K [(11, 0), (11, 1), (11, 2), (11, 19), (85, 999), (86, 999), (87, 999), (88, 999)] I I6 := hF2.trans hf6 rfl rfl
      exact r_iret hC hQ hlk hr rfl (by decide) (by decide) dX10_peg_44 ⟨_, _, rfl, rfl, ⟨hs6, hF6, (by omega)⟩⟩
    · refine r_aload_n hC dX10_peg_13 0 rfl ?_
      refine r_iload_n hC dX10_peg_14 2 rfl ?_
      refine r_callV hC (As := [.int x2]) (rest := []) (ci := 10) (c_X10_isPeg g (xL X) K len I2 J R hs2 a0 ka0 x2) mT_6_123 mT_1_10 mT_6_120 mT_6_122 mP_72 okX10_isPeg ⟨by decide, by decide⟩ rfl (by show kO (K a0) = _; rw [ka0]; rfl) rfl rfl (Nat.le_of_ble_eq_true rfl) ⟨by decide, by decide⟩ dX10_peg_15 (aI0 (F := fun st M => P g X 6 18 [(0, .ref a0), (1, .int x1), (2, .int x2), (3, .int x3), (4, .int x4)] st _ _ M) (M := (K, len, I2, J, R)) fun x7_ h7 => ?_)
      obtain ⟨k7_0, k7_1, k7_2, k7_3⟩ := h7
      show P g X 6 18 [(0, .ref a0), (1, .int x1), (2, .int x2), (3, .int x3), (4, .int x4)] [.int x7_] _ _ (K, len, I2, J, R)
      refine r_if_eq hC (tgt := 39) dX10_peg_18 (by decide) (fun c8 => ?_) (fun c8 => ?_)
      · refine r_aload_n hC dX10_peg_39 0 rfl ?_
        refine r_iconst hC (v := (1)) dX10_peg_40 (by decide) (by decide) (fun x9_ e9 t9 => ?_)
        refine r_callV hC (As := [.int x9_]) (rest := []) (ci := 10) (c_X10_refused g (xL X) K len I2 J R hs2 a0 ka0 x9_) mT_5_85 mT_1_10 mT_5_82 mT_5_84 mP_48 okX10_refused ⟨by decide, by decide⟩ rfl (by show kO (K a0) = _; rw [ka0]; rfl) rfl rfl (Nat.le_of_ble_eq_true rfl) ⟨by decide, by decide⟩ dX10_peg_41 (aI1 (F := fun st M => P g X 6 44 [(0, .ref a0), (1, .int x1), (2, .int x2), (3, .int x3), (4, .int x4)] st _ _ M) (M := (K, len, I2, J, R)) fun x10_ I10 h10 => ?_)
        obtain ⟨hs10, hf10, k10_0, k10_1, k10_2⟩ := h10
        show P g X 6 44 [(0, .ref a0), (1, .int x1), (2, .int x2), (3, .int x3), (4, .int x4)] [.int x10_] _ _ (K, len, I10, J, R)
        have hF10 : Fr K [(11, 0), (11, 1), (11, 2), (11, 19), (85, 999), (86, 999), (87, 999), (88, 999)] I I10 := hF2.trans hf10 rfl rfl
        exact r_iret hC hQ hlk hr rfl (by decide) (by decide) dX10_peg_44 ⟨_, _, rfl, rfl, ⟨hs10, hF10, (by omega)⟩⟩
      · refine r_aload_n hC dX10_peg_21 0 rfl ?_
        refine r_iload_n hC dX10_peg_22 3 rfl ?_
        refine r_callV hC (As := [.int x3]) (rest := []) (ci := 10) (c_X10_isDay g (xL X) K len I2 J R hs2 a0 ka0 x3) mT_6_95 mT_1_10 mT_6_92 mT_6_94 mP_68 okX10_isDay ⟨by decide, by decide⟩ rfl (by show kO (K a0) = _; rw [ka0]; rfl) rfl rfl (Nat.le_of_ble_eq_true rfl) ⟨by decide, by decide⟩ dX10_peg_23 (aI0 (F := fun st M => P g X 6 26 [(0, .ref a0), (1, .int x1), (2, .int x2), (3, .int x3), (4, .int x4)] st _ _ M) (M := (K, len, I2, J, R)) fun x11_ h11 => ?_)
        obtain ⟨k11_0, k11_1, k11_2, k11_3⟩ := h11
        show P g X 6 26 [(0, .ref a0), (1, .int x1), (2, .int x2), (3, .int x3), (4, .int x4)] [.int x11_] _ _ (K, len, I2, J, R)
        refine r_if_eq hC (tgt := 39) dX10_peg_26 (by decide) (fun c12 => ?_) (fun c12 => ?_)
        · refine r_aload_n hC dX10_peg_39 0 rfl ?_
          refine r_iconst hC (v := (1)) dX10_peg_40 (by decide) (by decide) (fun x13_ e13 t13 => ?_)
          refine r_callV hC (As := [.int x13_]) (rest := []) (ci := 10) (c_X10_refused g (xL X) K len I2 J R hs2 a0 ka0 x13_) mT_5_85 mT_1_10 mT_5_82 mT_5_84 mP_48 okX10_refused ⟨by decide, by decide⟩ rfl (by show kO (K a0) = _; rw [ka0]; rfl) rfl rfl (Nat.le_of_ble_eq_true rfl) ⟨by decide, by decide⟩ dX10_peg_41 (aI1 (F := fun st M => P g X 6 44 [(0, .ref a0), (1, .int x1), (2, .int x2), (3, .int x3), (4, .int x4)] st _ _ M) (M := (K, len, I2, J, R)) fun x14_ I14 h14 => ?_)
          obtain ⟨hs14, hf14, k14_0, k14_1, k14_2⟩ := h14
          show P g X 6 44 [(0, .ref a0), (1, .int x1), (2, .int x2), (3, .int x3), (4, .int x4)] [.int x14_] _ _ (K, len, I14, J, R)
          have hF14 : Fr K [(11, 0), (11, 1), (11, 2), (11, 19), (85, 999), (86, 999), (87, 999), (88, 999)] I I14 := hF2.trans hf14 rfl rfl
          exact r_iret hC hQ hlk hr rfl (by decide) (by decide) dX10_peg_44 ⟨_, _, rfl, rfl, ⟨hs14, hF14, (by omega)⟩⟩
        · refine r_iload hC dX10_peg_29 4 rfl ?_
          refine r_iconst hC (v := (0)) dX10_peg_31 (by decide) (by decide) (fun x15_ e15 t15 => ?_)
          refine r_iconst hC (v := (2)) dX10_peg_32 (by decide) (by decide) (fun x16_ e16 t16 => ?_)
          refine r_callS hC (As := [.int x4, .int x15_, .int x16_]) (rest := []) (c_X10_in g (xL X) K len I2 J R hs2 x4 x15_ x16_) mT_6_8 mT_1_10 mT_6_6 mT_6_7 okX10_in ⟨by decide, by decide⟩ rfl rfl (Nat.le_of_ble_eq_true rfl) ⟨by decide, by decide⟩ dX10_peg_33 (aI0 (F := fun st M => P g X 6 36 [(0, .ref a0), (1, .int x1), (2, .int x2), (3, .int x3), (4, .int x4)] st _ _ M) (M := (K, len, I2, J, R)) fun x17_ h17 => ?_)
          obtain ⟨k17_0, k17_1, k17_2⟩ := h17
          show P g X 6 36 [(0, .ref a0), (1, .int x1), (2, .int x2), (3, .int x3), (4, .int x4)] [.int x17_] _ _ (K, len, I2, J, R)
          refine r_if_ne hC (tgt := 45) dX10_peg_36 (by decide) (fun c18 => ?_) (fun c18 => ?_)
          · refine r_aload_n hC dX10_peg_45 0 rfl ?_
            refine r_iload_n hC dX10_peg_46 1 rfl ?_
            first | exact absurd hz (k3_2 (by omega)) | exact absurd hz (k7_2 (by omega)) | exact absurd hz (k11_2 (by omega))
          · refine r_aload_n hC dX10_peg_39 0 rfl ?_
            refine r_iconst hC (v := (1)) dX10_peg_40 (by decide) (by decide) (fun x19_ e19 t19 => ?_)
            refine r_callV hC (As := [.int x19_]) (rest := []) (ci := 10) (c_X10_refused g (xL X) K len I2 J R hs2 a0 ka0 x19_) mT_5_85 mT_1_10 mT_5_82 mT_5_84 mP_48 okX10_refused ⟨by decide, by decide⟩ rfl (by show kO (K a0) = _; rw [ka0]; rfl) rfl rfl (Nat.le_of_ble_eq_true rfl) ⟨by decide, by decide⟩ dX10_peg_41 (aI1 (F := fun st M => P g X 6 44 [(0, .ref a0), (1, .int x1), (2, .int x2), (3, .int x3), (4, .int x4)] st _ _ M) (M := (K, len, I2, J, R)) fun x20_ I20 h20 => ?_)
            obtain ⟨hs20, hf20, k20_0, k20_1, k20_2⟩ := h20
            show P g X 6 44 [(0, .ref a0), (1, .int x1), (2, .int x2), (3, .int x3), (4, .int x4)] [.int x20_] _ _ (K, len, I20, J, R)
            have hF20 : Fr K [(11, 0), (11, 1), (11, 2), (11, 19), (85, 999), (86, 999), (87, 999), (88, 999)] I I20 := hF2.trans hf20 rfl rfl
            exact r_iret hC hQ hlk hr rfl (by decide) (by decide) dX10_peg_44 ⟨_, _, rfl, rfl, ⟨hs20, hF20, (by omega)⟩⟩
  · obtain ⟨S0, eS0⟩ : ∃ z : Int32, z = I hm 7 := ⟨_, rfl⟩
    have fS0 : S0.toInt = (I hm 7).toInt := by rw [eS0]
    have rS0 := hs.rng khm rfl eS0
    refine r_aload_n hC dX10_peg_0 0 rfl ?_
    refine r_iconst hC (v := (0)) dX10_peg_1 (by decide) (by decide) (fun x21_ e21 t21 => ?_)
    refine r_puti hC 0 (ci := 10) rfl u10_in tyX10_ok nmX10 (by decide) mT_4_235 rfl rfl rfl dX10_peg_2 ka0 rfl rfl (fun I22 eI22 => ?_)
    have hs22 := hs.put0 eI22 ka0 rfl rfl rfl (by decide)
    have hF22 := hF.put eI22 ka0 rfl
    refine r_aload_n hC dX10_peg_5 0 rfl ?_
    refine r_iload_n hC dX10_peg_6 1 rfl ?_
    refine r_callV hC (As := [.int x1]) (rest := []) (ci := 10) (c_X10_isStory g (xL X) K len I22 J R hs22 a0 ka0 x1) mT_6_119 mT_1_10 mT_6_116 mT_6_118 mP_71 okX10_isStory ⟨by decide, by decide⟩ rfl (by show kO (K a0) = _; rw [ka0]; rfl) rfl rfl (Nat.le_of_ble_eq_true rfl) ⟨by decide, by decide⟩ dX10_peg_7 (aI0 (F := fun st M => P g X 6 10 [(0, .ref a0), (1, .int x1), (2, .int x2), (3, .int x3), (4, .int x4)] st _ _ M) (M := (K, len, I22, J, R)) fun x23_ h23 => ?_)
    obtain ⟨k23_0, k23_1, k23_2, k23_3, k23_4⟩ := h23
    show P g X 6 10 [(0, .ref a0), (1, .int x1), (2, .int x2), (3, .int x3), (4, .int x4)] [.int x23_] _ _ (K, len, I22, J, R)
    have z23 := fun h9 => k23_4 h9 hm hbm
    have vz23 : (I22 hm 7).toInt = S0.toInt := congrArg Int32.toInt (Eq.trans (up2_kk eI22 ka0 khm (by decide)) eS0.symm)
    refine r_if_eq hC (tgt := 39) dX10_peg_10 (by decide) (fun c24 => ?_) (fun c24 => ?_)
    · refine r_aload_n hC dX10_peg_39 0 rfl ?_
      refine r_iconst hC (v := (1)) dX10_peg_40 (by decide) (by decide) (fun x25_ e25 t25 => ?_)
      refine r_callV hC (As := [.int x25_]) (rest := []) (ci := 10) (c_X10_refused g (xL X) K len I22 J R hs22 a0 ka0 x25_) mT_5_85 mT_1_10 mT_5_82 mT_5_84 mP_48 okX10_refused ⟨by decide, by decide⟩ rfl (by show kO (K a0) = _; rw [ka0]; rfl) rfl rfl (Nat.le_of_ble_eq_true rfl) ⟨by decide, by decide⟩ dX10_peg_41 (aI1 (F := fun st M => P g X 6 44 [(0, .ref a0), (1, .int x1), (2, .int x2), (3, .int x3), (4, .int x4)] st _ _ M) (M := (K, len, I22, J, R)) fun x26_ I26 h26 => ?_)
      obtain ⟨hs26, hf26, k26_0, k26_1, k26_2⟩ := h26
      show P g X 6 44 [(0, .ref a0), (1, .int x1), (2, .int x2), (3, .int x3), (4, .int x4)] [.int x26_] _ _ (K, len, I26, J, R)
      have hF26 : Fr K [(11, 0), (11, 1), (11, 2), (11, 19), (85, 999), (86, 999), (87, 999), (88, 999)] I I26 := hF22.trans hf26 rfl rfl
      exact r_iret hC hQ hlk hr rfl (by decide) (by decide) dX10_peg_44 ⟨_, _, rfl, rfl, ⟨hs26, hF26, (by omega)⟩⟩
    · refine r_aload_n hC dX10_peg_13 0 rfl ?_
      refine r_iload_n hC dX10_peg_14 2 rfl ?_
      refine r_callV hC (As := [.int x2]) (rest := []) (ci := 10) (c_X10_isPeg g (xL X) K len I22 J R hs22 a0 ka0 x2) mT_6_123 mT_1_10 mT_6_120 mT_6_122 mP_72 okX10_isPeg ⟨by decide, by decide⟩ rfl (by show kO (K a0) = _; rw [ka0]; rfl) rfl rfl (Nat.le_of_ble_eq_true rfl) ⟨by decide, by decide⟩ dX10_peg_15 (aI0 (F := fun st M => P g X 6 18 [(0, .ref a0), (1, .int x1), (2, .int x2), (3, .int x3), (4, .int x4)] st _ _ M) (M := (K, len, I22, J, R)) fun x27_ h27 => ?_)
      obtain ⟨k27_0, k27_1, k27_2, k27_3⟩ := h27
      show P g X 6 18 [(0, .ref a0), (1, .int x1), (2, .int x2), (3, .int x3), (4, .int x4)] [.int x27_] _ _ (K, len, I22, J, R)
      refine r_if_eq hC (tgt := 39) dX10_peg_18 (by decide) (fun c28 => ?_) (fun c28 => ?_)
      · refine r_aload_n hC dX10_peg_39 0 rfl ?_
        refine r_iconst hC (v := (1)) dX10_peg_40 (by decide) (by decide) (fun x29_ e29 t29 => ?_)
        refine r_callV hC (As := [.int x29_]) (rest := []) (ci := 10) (c_X10_refused g (xL X) K len I22 J R hs22 a0 ka0 x29_) mT_5_85 mT_1_10 mT_5_82 mT_5_84 mP_48 okX10_refused ⟨by decide, by decide⟩ rfl (by show kO (K a0) = _; rw [ka0]; rfl) rfl rfl (Nat.le_of_ble_eq_true rfl) ⟨by decide, by decide⟩ dX10_peg_41 (aI1 (F := fun st M => P g X 6 44 [(0, .ref a0), (1, .int x1), (2, .int x2), (3, .int x3), (4, .int x4)] st _ _ M) (M := (K, len, I22, J, R)) fun x30_ I30 h30 => ?_)
        obtain ⟨hs30, hf30, k30_0, k30_1, k30_2⟩ := h30
        show P g X 6 44 [(0, .ref a0), (1, .int x1), (2, .int x2), (3, .int x3), (4, .int x4)] [.int x30_] _ _ (K, len, I30, J, R)
        have hF30 : Fr K [(11, 0), (11, 1), (11, 2), (11, 19), (85, 999), (86, 999), (87, 999), (88, 999)] I I30 := hF22.trans hf30 rfl rfl
        exact r_iret hC hQ hlk hr rfl (by decide) (by decide) dX10_peg_44 ⟨_, _, rfl, rfl, ⟨hs30, hF30, (by omega)⟩⟩
      · refine r_aload_n hC dX10_peg_21 0 rfl ?_
        refine r_iload_n hC dX10_peg_22 3 rfl ?_
        refine r_callV hC (As := [.int x3]) (rest := []) (ci := 10) (c_X10_isDay g (xL X) K len I22 J R hs22 a0 ka0 x3) mT_6_95 mT_1_10 mT_6_92 mT_6_94 mP_68 okX10_isDay ⟨by decide, by decide⟩ rfl (by show kO (K a0) = _; rw [ka0]; rfl) rfl rfl (Nat.le_of_ble_eq_true rfl) ⟨by decide, by decide⟩ dX10_peg_23 (aI0 (F := fun st M => P g X 6 26 [(0, .ref a0), (1, .int x1), (2, .int x2), (3, .int x3), (4, .int x4)] st _ _ M) (M := (K, len, I22, J, R)) fun x31_ h31 => ?_)
        obtain ⟨k31_0, k31_1, k31_2, k31_3⟩ := h31
        show P g X 6 26 [(0, .ref a0), (1, .int x1), (2, .int x2), (3, .int x3), (4, .int x4)] [.int x31_] _ _ (K, len, I22, J, R)
        refine r_if_eq hC (tgt := 39) dX10_peg_26 (by decide) (fun c32 => ?_) (fun c32 => ?_)
        · refine r_aload_n hC dX10_peg_39 0 rfl ?_
          refine r_iconst hC (v := (1)) dX10_peg_40 (by decide) (by decide) (fun x33_ e33 t33 => ?_)
          refine r_callV hC (As := [.int x33_]) (rest := []) (ci := 10) (c_X10_refused g (xL X) K len I22 J R hs22 a0 ka0 x33_) mT_5_85 mT_1_10 mT_5_82 mT_5_84 mP_48 okX10_refused ⟨by decide, by decide⟩ rfl (by show kO (K a0) = _; rw [ka0]; rfl) rfl rfl (Nat.le_of_ble_eq_true rfl) ⟨by decide, by decide⟩ dX10_peg_41 (aI1 (F := fun st M => P g X 6 44 [(0, .ref a0), (1, .int x1), (2, .int x2), (3, .int x3), (4, .int x4)] st _ _ M) (M := (K, len, I22, J, R)) fun x34_ I34 h34 => ?_)
          obtain ⟨hs34, hf34, k34_0, k34_1, k34_2⟩ := h34
          show P g X 6 44 [(0, .ref a0), (1, .int x1), (2, .int x2), (3, .int x3), (4, .int x4)] [.int x34_] _ _ (K, len, I34, J, R)
          have hF34 : Fr K [(11, 0), (11, 1), (11, 2), (11, 19), (85, 999), (86, 999), (87, 999), (88, 999)] I I34 := hF22.trans hf34 rfl rfl
          exact r_iret hC hQ hlk hr rfl (by decide) (by decide) dX10_peg_44 ⟨_, _, rfl, rfl, ⟨hs34, hF34, (by omega)⟩⟩
        · refine r_iload hC dX10_peg_29 4 rfl ?_
          refine r_iconst hC (v := (0)) dX10_peg_31 (by decide) (by decide) (fun x35_ e35 t35 => ?_)
          refine r_iconst hC (v := (2)) dX10_peg_32 (by decide) (by decide) (fun x36_ e36 t36 => ?_)
          refine r_callS hC (As := [.int x4, .int x35_, .int x36_]) (rest := []) (c_X10_in g (xL X) K len I22 J R hs22 x4 x35_ x36_) mT_6_8 mT_1_10 mT_6_6 mT_6_7 okX10_in ⟨by decide, by decide⟩ rfl rfl (Nat.le_of_ble_eq_true rfl) ⟨by decide, by decide⟩ dX10_peg_33 (aI0 (F := fun st M => P g X 6 36 [(0, .ref a0), (1, .int x1), (2, .int x2), (3, .int x3), (4, .int x4)] st _ _ M) (M := (K, len, I22, J, R)) fun x37_ h37 => ?_)
          obtain ⟨k37_0, k37_1, k37_2⟩ := h37
          show P g X 6 36 [(0, .ref a0), (1, .int x1), (2, .int x2), (3, .int x3), (4, .int x4)] [.int x37_] _ _ (K, len, I22, J, R)
          refine r_if_ne hC (tgt := 45) dX10_peg_36 (by decide) (fun c38 => ?_) (fun c38 => ?_)
          · refine r_aload_n hC dX10_peg_45 0 rfl ?_
            refine r_iload_n hC dX10_peg_46 1 rfl ?_
            have hv39 : I22 hm 7 = S0 := (Eq.trans (up2_kk eI22 ka0 khm (by decide)) eS0.symm)
            refine r_callV hC (As := [.int x1]) (rest := []) (ci := 10) (c_X10_runsAsTold g (xL X) K len I22 J R hs22 a0 ka0 x1 hm hbm khm (by rw [hv39]; omega) (by omega) (by omega)) mT_6_127 mT_1_10 mT_6_124 mT_6_126 mP_73 okX10_runsAsTold ⟨by decide, by decide⟩ rfl (by show kO (K a0) = _; rw [ka0]; rfl) rfl rfl (Nat.le_of_ble_eq_true rfl) ⟨by decide, by decide⟩ dX10_peg_47 (aV1 (F := fun st M => P g X 6 50 [(0, .ref a0), (1, .int x1), (2, .int x2), (3, .int x3), (4, .int x4)] st _ _ M) (M := (K, len, I22, J, R)) fun I40 h40 => ?_)
            obtain ⟨hs40, hf40⟩ := h40
            show P g X 6 50 [(0, .ref a0), (1, .int x1), (2, .int x2), (3, .int x3), (4, .int x4)] [] _ _ (K, len, I40, J, R)
            have hF40 : Fr K [(11, 0), (11, 1), (11, 2), (11, 19), (85, 999), (86, 999), (87, 999), (88, 999)] I I40 := hF22.trans hf40 rfl rfl
            refine r_bipush hC (v := (60)) dX10_peg_50 (by decide) (by decide) (fun x41_ e41 t41 => ?_)
            refine r_iload_n hC dX10_peg_52 2 rfl ?_
            refine r_imul hC dX10_peg_53 (fun x42_ e42 => ?_)
            try have t42 : x42_.toInt = (60) * x2.toInt := by rw [e42]; exact ti_mul (by omega) rfl (by omega) (by omega)
            refine r_iload_n hC dX10_peg_54 3 rfl ?_
            refine r_iadd hC dX10_peg_55 (fun x43_ e43 => ?_)
            try have t43 : x43_.toInt = x42_.toInt + x3.toInt := by rw [e43]; exact ti_add (by omega) (by omega)
            refine r_istore hC (lv' := [(5, .int x43_), (0, .ref a0), (1, .int x1), (2, .int x2), (3, .int x3), (4, .int x4)]) dX10_peg_56 (by decide) rfl ?_
            refine r_aload_n hC dX10_peg_58 1 rfl ?_
            refine r_iload hC dX10_peg_59 5 rfl ?_
            refine r_if_ne hC (tgt := 74) dX10_peg_61 (by decide) (fun c44 => ?_) (fun c44 => ?_)
            · refine r_iload hC dX10_peg_74 5 rfl ?_
              refine r_iconst hC (v := (1)) dX10_peg_76 (by decide) (by decide) (fun x45_ e45 t45 => ?_)
              refine r_icmp_ne hC (tgt := 90) dX10_peg_77 (by decide) (fun c46 => ?_) (fun c46 => ?_)
              · refine r_aload_n hC dX10_peg_90 1 rfl ?_
                obtain ⟨a47_, hb47, hk47, hn47⟩ := hs40.row ka0 18 88 300 (by decide) (by decide)
                refine r_getr hC 18 (ci := 10) rfl u10_in (by decide) mT_5_13 dX10_peg_91 ka0 rfl rfl hb47 ?_
                refine r_iload hC dX10_peg_94 0 rfl ?_
                refine x_iaload hC hk47 hn47 (by decide) rfl rfl dX10_peg_96 (by omega) (by omega) (fun x48_ e48 => ?_)
                refine r_callV hC (As := [.int x48_]) (rest := []) (ci := 10) (c_X10_done g (xL X) K len I40 J R hs40 a0 ka0 x48_) mT_6_79 mT_1_10 mT_6_76 mT_6_78 mP_67 okX10_done ⟨by decide, by decide⟩ rfl (by show kO (K a0) = _; rw [ka0]; rfl) rfl rfl (Nat.le_of_ble_eq_true rfl) ⟨by decide, by decide⟩ dX10_peg_97 (aI1 (F := fun st M => P g X 6 100 [(5, .int x43_), (0, .ref a0), (1, .int x1), (2, .int x2), (3, .int x3), (4, .int x4)] st _ _ M) (M := (K, len, I40, J, R)) fun x49_ I49 h49 => ?_)
                obtain ⟨hs49, hf49, k49_0, k49_1, k49_2⟩ := h49
                show P g X 6 100 [(5, .int x43_), (0, .ref a0), (1, .int x1), (2, .int x2), (3, .int x3), (4, .int x4)] [.int x49_] _ _ (K, len, I49, J, R)
                have hF49 : Fr K [(11, 0), (11, 1), (11, 2), (11, 19), (85, 999), (86, 999), (87, 999), (88, 999)] I I49 := hF40.trans hf49 rfl rfl
                exact r_iret hC hQ hlk hr rfl (by decide) (by decide) dX10_peg_100 ⟨_, _, rfl, rfl, ⟨hs49, hF49, (by omega)⟩⟩
              · refine r_aload_n hC dX10_peg_80 1 rfl ?_
                obtain ⟨a50_, hb50, hk50, hn50⟩ := hs40.row ka0 16 86 300 (by decide) (by decide)
                refine r_getr hC 16 (ci := 10) rfl u10_in (by decide) mT_5_11 dX10_peg_81 ka0 rfl rfl hb50 ?_
                refine r_iload hC dX10_peg_84 0 rfl ?_
                refine x_iaload hC hk50 hn50 (by decide) rfl rfl dX10_peg_86 (by omega) (by omega) (fun x51_ e51 => ?_)
                refine r_goto hC (tgt := 97) dX10_peg_87 (by decide) ?_
                refine r_callV hC (As := [.int x51_]) (rest := []) (ci := 10) (c_X10_done g (xL X) K len I40 J R hs40 a0 ka0 x51_) mT_6_79 mT_1_10 mT_6_76 mT_6_78 mP_67 okX10_done ⟨by decide, by decide⟩ rfl (by show kO (K a0) = _; rw [ka0]; rfl) rfl rfl (Nat.le_of_ble_eq_true rfl) ⟨by decide, by decide⟩ dX10_peg_97 (aI1 (F := fun st M => P g X 6 100 [(5, .int x43_), (0, .ref a0), (1, .int x1), (2, .int x2), (3, .int x3), (4, .int x4)] st _ _ M) (M := (K, len, I40, J, R)) fun x52_ I52 h52 => ?_)
                obtain ⟨hs52, hf52, k52_0, k52_1, k52_2⟩ := h52
                show P g X 6 100 [(5, .int x43_), (0, .ref a0), (1, .int x1), (2, .int x2), (3, .int x3), (4, .int x4)] [.int x52_] _ _ (K, len, I52, J, R)
                have hF52 : Fr K [(11, 0), (11, 1), (11, 2), (11, 19), (85, 999), (86, 999), (87, 999), (88, 999)] I I52 := hF40.trans hf52 rfl rfl
                exact r_iret hC hQ hlk hr rfl (by decide) (by decide) dX10_peg_100 ⟨_, _, rfl, rfl, ⟨hs52, hF52, (by omega)⟩⟩
            · refine r_aload_n hC dX10_peg_64 1 rfl ?_
              obtain ⟨a53_, hb53, hk53, hn53⟩ := hs40.row ka0 17 87 300 (by decide) (by decide)
              refine r_getr hC 17 (ci := 10) rfl u10_in (by decide) mT_5_12 dX10_peg_65 ka0 rfl rfl hb53 ?_
              refine r_iload hC dX10_peg_68 0 rfl ?_
              refine x_iaload hC hk53 hn53 (by decide) rfl rfl dX10_peg_70 (by omega) (by omega) (fun x54_ e54 => ?_)
              refine r_goto hC (tgt := 97) dX10_peg_71 (by decide) ?_
              refine r_callV hC (As := [.int x54_]) (rest := []) (ci := 10) (c_X10_done g (xL X) K len I40 J R hs40 a0 ka0 x54_) mT_6_79 mT_1_10 mT_6_76 mT_6_78 mP_67 okX10_done ⟨by decide, by decide⟩ rfl (by show kO (K a0) = _; rw [ka0]; rfl) rfl rfl (Nat.le_of_ble_eq_true rfl) ⟨by decide, by decide⟩ dX10_peg_97 (aI1 (F := fun st M => P g X 6 100 [(5, .int x43_), (0, .ref a0), (1, .int x1), (2, .int x2), (3, .int x3), (4, .int x4)] st _ _ M) (M := (K, len, I40, J, R)) fun x55_ I55 h55 => ?_)
              obtain ⟨hs55, hf55, k55_0, k55_1, k55_2⟩ := h55
              show P g X 6 100 [(5, .int x43_), (0, .ref a0), (1, .int x1), (2, .int x2), (3, .int x3), (4, .int x4)] [.int x55_] _ _ (K, len, I55, J, R)
              have hF55 : Fr K [(11, 0), (11, 1), (11, 2), (11, 19), (85, 999), (86, 999), (87, 999), (88, 999)] I I55 := hF40.trans hf55 rfl rfl
              exact r_iret hC hQ hlk hr rfl (by decide) (by decide) dX10_peg_100 ⟨_, _, rfl, rfl, ⟨hs55, hF55, (by omega)⟩⟩
          · refine r_aload_n hC dX10_peg_39 0 rfl ?_
            refine r_iconst hC (v := (1)) dX10_peg_40 (by decide) (by decide) (fun x56_ e56 t56 => ?_)
            refine r_callV hC (As := [.int x56_]) (rest := []) (ci := 10) (c_X10_refused g (xL X) K len I22 J R hs22 a0 ka0 x56_) mT_5_85 mT_1_10 mT_5_82 mT_5_84 mP_48 okX10_refused ⟨by decide, by decide⟩ rfl (by show kO (K a0) = _; rw [ka0]; rfl) rfl rfl (Nat.le_of_ble_eq_true rfl) ⟨by decide, by decide⟩ dX10_peg_41 (aI1 (F := fun st M => P g X 6 44 [(0, .ref a0), (1, .int x1), (2, .int x2), (3, .int x3), (4, .int x4)] st _ _ M) (M := (K, len, I22, J, R)) fun x57_ I57 h57 => ?_)
            obtain ⟨hs57, hf57, k57_0, k57_1, k57_2⟩ := h57
            show P g X 6 44 [(0, .ref a0), (1, .int x1), (2, .int x2), (3, .int x3), (4, .int x4)] [.int x57_] _ _ (K, len, I57, J, R)
            have hF57 : Fr K [(11, 0), (11, 1), (11, 2), (11, 19), (85, 999), (86, 999), (87, 999), (88, 999)] I I57 := hF22.trans hf57 rfl rfl
            exact r_iret hC hQ hlk hr rfl (by decide) (by decide) dX10_peg_44 ⟨_, _, rfl, rfl, ⟨hs57, hF57, (by omega)⟩⟩
set_option maxHeartbeats 4000000 in
set_option maxRecDepth 100000 in
theorem c_X10_gone (g : GG) (l : Launch) (K len : Nat → Nat) (I : Nat → Nat → Int32) (J : Nat → Nat → Int64) (R : Nat → Nat → Option Nat) (hs : Sf K len I R) (a0 : Nat) (ka0 : K a0 = 11) (x1 : Int32) : Ct g l yX10_gone cX10_gone 2 (Option.some Jvm.ClassFile.FieldType.int) rmX10_gone [.ref a0, .int x1] (K, len, I, J, R) (pI1 (K, len, I, J, R) (fun r I' => Sf K len I' R ∧ Fr K [(11, 0), (11, 1), (11, 2), (11, 19), (85, 999), (86, 999), (87, 999), (88, 999)] I I' ∧ ((I' a0 2).toInt = -1))) := by
  refine Ct_intro (by decide +kernel) (Nat.le_of_ble_eq_true rfl) (fun X hC hL hKK hNm hr hlk hQ => ?_)
  subst hL
  have hC : Cx g X cX10_gone "HillTapModel" 2 rmX10_gone := hC
  show P g X 2 0 [(0, .ref a0), (1, .int x1)] [] 0 0 (K, len, I, J, R)
  have hF : Fr K [(11, 0), (11, 1), (11, 2), (11, 19), (85, 999), (86, 999), (87, 999), (88, 999)] I I := Fr.refl
  have b_x1 := ti_rng x1
  rcases hs.2.1.2.2.1 a0 ka0 with hz | ⟨hm, hbm, khm⟩
  · refine r_aload_n hC dX10_gone_0 0 rfl ?_
    refine r_iconst hC (v := (0)) dX10_gone_1 (by decide) (by decide) (fun x1_ e1 t1 => ?_)
    refine r_puti hC 0 (ci := 10) rfl u10_in tyX10_ok nmX10 (by decide) mT_4_235 rfl rfl rfl dX10_gone_2 ka0 rfl rfl (fun I2 eI2 => ?_)
    have hs2 := hs.put0 eI2 ka0 rfl rfl rfl (by decide)
    have hF2 := hF.put eI2 ka0 rfl
    refine r_aload_n hC dX10_gone_5 0 rfl ?_
    refine r_iload_n hC dX10_gone_6 1 rfl ?_
    refine r_callV hC (As := [.int x1]) (rest := []) (ci := 10) (c_X10_isStory g (xL X) K len I2 J R hs2 a0 ka0 x1) mT_6_119 mT_1_10 mT_6_116 mT_6_118 mP_71 okX10_isStory ⟨by decide, by decide⟩ rfl (by show kO (K a0) = _; rw [ka0]; rfl) rfl rfl (Nat.le_of_ble_eq_true rfl) ⟨by decide, by decide⟩ dX10_gone_7 (aI0 (F := fun st M => P g X 2 10 [(0, .ref a0), (1, .int x1)] st _ _ M) (M := (K, len, I2, J, R)) fun x3_ h3 => ?_)
    obtain ⟨k3_0, k3_1, k3_2, k3_3, k3_4⟩ := h3
    show P g X 2 10 [(0, .ref a0), (1, .int x1)] [.int x3_] _ _ (K, len, I2, J, R)
    refine r_if_ne hC (tgt := 19) dX10_gone_10 (by decide) (fun c4 => ?_) (fun c4 => ?_)
    · refine r_aload_n hC dX10_gone_19 0 rfl ?_
      refine r_iload_n hC dX10_gone_20 1 rfl ?_
      first | exact absurd hz (k3_2 (by omega))
    · refine r_aload_n hC dX10_gone_13 0 rfl ?_
      refine r_iconst hC (v := (1)) dX10_gone_14 (by decide) (by decide) (fun x5_ e5 t5 => ?_)
      refine r_callV hC (As := [.int x5_]) (rest := []) (ci := 10) (c_X10_refused g (xL X) K len I2 J R hs2 a0 ka0 x5_) mT_5_85 mT_1_10 mT_5_82 mT_5_84 mP_48 okX10_refused ⟨by decide, by decide⟩ rfl (by show kO (K a0) = _; rw [ka0]; rfl) rfl rfl (Nat.le_of_ble_eq_true rfl) ⟨by decide, by decide⟩ dX10_gone_15 (aI1 (F := fun st M => P g X 2 18 [(0, .ref a0), (1, .int x1)] st _ _ M) (M := (K, len, I2, J, R)) fun x6_ I6 h6 => ?_)
      obtain ⟨hs6, hf6, k6_0, k6_1, k6_2⟩ := h6
      show P g X 2 18 [(0, .ref a0), (1, .int x1)] [.int x6_] _ _ (K, len, I6, J, R)
      have hF6 : Fr K [(11, 0), (11, 1), (11, 2), (11, 19), (85, 999), (86, 999), (87, 999), (88, 999)] I I6 := hF2.trans hf6 rfl rfl
      exact r_iret hC hQ hlk hr rfl (by decide) (by decide) dX10_gone_18 ⟨_, _, rfl, rfl, ⟨hs6, hF6, (by omega)⟩⟩
  · obtain ⟨S0, eS0⟩ : ∃ z : Int32, z = I hm 7 := ⟨_, rfl⟩
    have fS0 : S0.toInt = (I hm 7).toInt := by rw [eS0]
    have rS0 := hs.rng khm rfl eS0
    refine r_aload_n hC dX10_gone_0 0 rfl ?_
    refine r_iconst hC (v := (0)) dX10_gone_1 (by decide) (by decide) (fun x7_ e7 t7 => ?_)
    refine r_puti hC 0 (ci := 10) rfl u10_in tyX10_ok nmX10 (by decide) mT_4_235 rfl rfl rfl dX10_gone_2 ka0 rfl rfl (fun I8 eI8 => ?_)
    have hs8 := hs.put0 eI8 ka0 rfl rfl rfl (by decide)
    have hF8 := hF.put eI8 ka0 rfl
    refine r_aload_n hC dX10_gone_5 0 rfl ?_
    refine r_iload_n hC dX10_gone_6 1 rfl ?_
    refine r_callV hC (As := [.int x1]) (rest := []) (ci := 10) (c_X10_isStory g (xL X) K len I8 J R hs8 a0 ka0 x1) mT_6_119 mT_1_10 mT_6_116 mT_6_118 mP_71 okX10_isStory ⟨by decide, by decide⟩ rfl (by show kO (K a0) = _; rw [ka0]; rfl) rfl rfl (Nat.le_of_ble_eq_true rfl) ⟨by decide, by decide⟩ dX10_gone_7 (aI0 (F := fun st M => P g X 2 10 [(0, .ref a0), (1, .int x1)] st _ _ M) (M := (K, len, I8, J, R)) fun x9_ h9 => ?_)
    obtain ⟨k9_0, k9_1, k9_2, k9_3, k9_4⟩ := h9
    show P g X 2 10 [(0, .ref a0), (1, .int x1)] [.int x9_] _ _ (K, len, I8, J, R)
    have z9 := fun h9 => k9_4 h9 hm hbm
    have vz9 : (I8 hm 7).toInt = S0.toInt := congrArg Int32.toInt (Eq.trans (up2_kk eI8 ka0 khm (by decide)) eS0.symm)
    refine r_if_ne hC (tgt := 19) dX10_gone_10 (by decide) (fun c10 => ?_) (fun c10 => ?_)
    · refine r_aload_n hC dX10_gone_19 0 rfl ?_
      refine r_iload_n hC dX10_gone_20 1 rfl ?_
      have hv11 : I8 hm 7 = S0 := (Eq.trans (up2_kk eI8 ka0 khm (by decide)) eS0.symm)
      refine r_callV hC (As := [.int x1]) (rest := []) (ci := 10) (c_X10_runsAsTold g (xL X) K len I8 J R hs8 a0 ka0 x1 hm hbm khm (by rw [hv11]; omega) (by omega) (by omega)) mT_6_127 mT_1_10 mT_6_124 mT_6_126 mP_73 okX10_runsAsTold ⟨by decide, by decide⟩ rfl (by show kO (K a0) = _; rw [ka0]; rfl) rfl rfl (Nat.le_of_ble_eq_true rfl) ⟨by decide, by decide⟩ dX10_gone_21 (aV1 (F := fun st M => P g X 2 24 [(0, .ref a0), (1, .int x1)] st _ _ M) (M := (K, len, I8, J, R)) fun I12 h12 => ?_)
      obtain ⟨hs12, hf12⟩ := h12
      show P g X 2 24 [(0, .ref a0), (1, .int x1)] [] _ _ (K, len, I12, J, R)
      have hF12 : Fr K [(11, 0), (11, 1), (11, 2), (11, 19), (85, 999), (86, 999), (87, 999), (88, 999)] I I12 := hF8.trans hf12 rfl rfl
      refine r_aload_n hC dX10_gone_24 0 rfl ?_
      refine r_aload_n hC dX10_gone_25 0 rfl ?_
      refine r_geti hC 19 (ci := 10) rfl u10_in (by decide) mT_5_14 dX10_gone_26 ka0 rfl rfl (fun x13_ e13 => ?_)
      have r13 := hs12.rng ka0 rfl e13
      have q13 := hs12.gone ka0 e13
      refine r_callV hC (As := [.int x13_]) (rest := []) (ci := 10) (c_X10_done g (xL X) K len I12 J R hs12 a0 ka0 x13_) mT_6_79 mT_1_10 mT_6_76 mT_6_78 mP_67 okX10_done ⟨by decide, by decide⟩ rfl (by show kO (K a0) = _; rw [ka0]; rfl) rfl rfl (Nat.le_of_ble_eq_true rfl) ⟨by decide, by decide⟩ dX10_gone_29 (aI1 (F := fun st M => P g X 2 32 [(0, .ref a0), (1, .int x1)] st _ _ M) (M := (K, len, I12, J, R)) fun x14_ I14 h14 => ?_)
      obtain ⟨hs14, hf14, k14_0, k14_1, k14_2⟩ := h14
      show P g X 2 32 [(0, .ref a0), (1, .int x1)] [.int x14_] _ _ (K, len, I14, J, R)
      have hF14 : Fr K [(11, 0), (11, 1), (11, 2), (11, 19), (85, 999), (86, 999), (87, 999), (88, 999)] I I14 := hF12.trans hf14 rfl rfl
      exact r_iret hC hQ hlk hr rfl (by decide) (by decide) dX10_gone_32 ⟨_, _, rfl, rfl, ⟨hs14, hF14, (by omega)⟩⟩
    · refine r_aload_n hC dX10_gone_13 0 rfl ?_
      refine r_iconst hC (v := (1)) dX10_gone_14 (by decide) (by decide) (fun x15_ e15 t15 => ?_)
      refine r_callV hC (As := [.int x15_]) (rest := []) (ci := 10) (c_X10_refused g (xL X) K len I8 J R hs8 a0 ka0 x15_) mT_5_85 mT_1_10 mT_5_82 mT_5_84 mP_48 okX10_refused ⟨by decide, by decide⟩ rfl (by show kO (K a0) = _; rw [ka0]; rfl) rfl rfl (Nat.le_of_ble_eq_true rfl) ⟨by decide, by decide⟩ dX10_gone_15 (aI1 (F := fun st M => P g X 2 18 [(0, .ref a0), (1, .int x1)] st _ _ M) (M := (K, len, I8, J, R)) fun x16_ I16 h16 => ?_)
      obtain ⟨hs16, hf16, k16_0, k16_1, k16_2⟩ := h16
      show P g X 2 18 [(0, .ref a0), (1, .int x1)] [.int x16_] _ _ (K, len, I16, J, R)
      have hF16 : Fr K [(11, 0), (11, 1), (11, 2), (11, 19), (85, 999), (86, 999), (87, 999), (88, 999)] I I16 := hF8.trans hf16 rfl rfl
      exact r_iret hC hQ hlk hr rfl (by decide) (by decide) dX10_gone_18 ⟨_, _, rfl, rfl, ⟨hs16, hF16, (by omega)⟩⟩
set_option maxHeartbeats 4000000 in
set_option maxRecDepth 100000 in
theorem c_X10_wave (g : GG) (l : Launch) (K len : Nat → Nat) (I : Nat → Nat → Int32) (J : Nat → Nat → Int64) (R : Nat → Nat → Option Nat) (hs : Sf K len I R) (a0 : Nat) (ka0 : K a0 = 11) (x1 : Int32) : Ct g l yX10_wave cX10_wave 2 (Option.some Jvm.ClassFile.FieldType.int) rmX10_wave [.ref a0, .int x1] (K, len, I, J, R) (pI1 (K, len, I, J, R) (fun r I' => Sf K len I' R ∧ Fr K [(11, 0), (11, 1), (11, 2), (11, 19), (85, 999), (86, 999), (87, 999), (88, 999)] I I' ∧ ((I' a0 2).toInt = -1))) := by
  refine Ct_intro (by decide +kernel) (Nat.le_of_ble_eq_true rfl) (fun X hC hL hKK hNm hr hlk hQ => ?_)
  subst hL
  have hC : Cx g X cX10_wave "HillTapModel" 2 rmX10_wave := hC
  show P g X 2 0 [(0, .ref a0), (1, .int x1)] [] 0 0 (K, len, I, J, R)
  have hF : Fr K [(11, 0), (11, 1), (11, 2), (11, 19), (85, 999), (86, 999), (87, 999), (88, 999)] I I := Fr.refl
  have b_x1 := ti_rng x1
  rcases hs.2.1.2.2.1 a0 ka0 with hz | ⟨hm, hbm, khm⟩
  · refine r_aload_n hC dX10_wave_0 0 rfl ?_
    refine r_iconst hC (v := (0)) dX10_wave_1 (by decide) (by decide) (fun x1_ e1 t1 => ?_)
    refine r_puti hC 0 (ci := 10) rfl u10_in tyX10_ok nmX10 (by decide) mT_4_235 rfl rfl rfl dX10_wave_2 ka0 rfl rfl (fun I2 eI2 => ?_)
    have hs2 := hs.put0 eI2 ka0 rfl rfl rfl (by decide)
    have hF2 := hF.put eI2 ka0 rfl
    refine r_aload_n hC dX10_wave_5 0 rfl ?_
    refine r_iload_n hC dX10_wave_6 1 rfl ?_
    refine r_callV hC (As := [.int x1]) (rest := []) (ci := 10) (c_X10_isStory g (xL X) K len I2 J R hs2 a0 ka0 x1) mT_6_119 mT_1_10 mT_6_116 mT_6_118 mP_71 okX10_isStory ⟨by decide, by decide⟩ rfl (by show kO (K a0) = _; rw [ka0]; rfl) rfl rfl (Nat.le_of_ble_eq_true rfl) ⟨by decide, by decide⟩ dX10_wave_7 (aI0 (F := fun st M => P g X 2 10 [(0, .ref a0), (1, .int x1)] st _ _ M) (M := (K, len, I2, J, R)) fun x3_ h3 => ?_)
    obtain ⟨k3_0, k3_1, k3_2, k3_3, k3_4⟩ := h3
    show P g X 2 10 [(0, .ref a0), (1, .int x1)] [.int x3_] _ _ (K, len, I2, J, R)
    refine r_if_ne hC (tgt := 19) dX10_wave_10 (by decide) (fun c4 => ?_) (fun c4 => ?_)
    · refine r_aload_n hC dX10_wave_19 0 rfl ?_
      refine r_iload_n hC dX10_wave_20 1 rfl ?_
      first | exact absurd hz (k3_2 (by omega))
    · refine r_aload_n hC dX10_wave_13 0 rfl ?_
      refine r_iconst hC (v := (1)) dX10_wave_14 (by decide) (by decide) (fun x5_ e5 t5 => ?_)
      refine r_callV hC (As := [.int x5_]) (rest := []) (ci := 10) (c_X10_refused g (xL X) K len I2 J R hs2 a0 ka0 x5_) mT_5_85 mT_1_10 mT_5_82 mT_5_84 mP_48 okX10_refused ⟨by decide, by decide⟩ rfl (by show kO (K a0) = _; rw [ka0]; rfl) rfl rfl (Nat.le_of_ble_eq_true rfl) ⟨by decide, by decide⟩ dX10_wave_15 (aI1 (F := fun st M => P g X 2 18 [(0, .ref a0), (1, .int x1)] st _ _ M) (M := (K, len, I2, J, R)) fun x6_ I6 h6 => ?_)
      obtain ⟨hs6, hf6, k6_0, k6_1, k6_2⟩ := h6
      show P g X 2 18 [(0, .ref a0), (1, .int x1)] [.int x6_] _ _ (K, len, I6, J, R)
      have hF6 : Fr K [(11, 0), (11, 1), (11, 2), (11, 19), (85, 999), (86, 999), (87, 999), (88, 999)] I I6 := hF2.trans hf6 rfl rfl
      exact r_iret hC hQ hlk hr rfl (by decide) (by decide) dX10_wave_18 ⟨_, _, rfl, rfl, ⟨hs6, hF6, (by omega)⟩⟩
  · obtain ⟨S0, eS0⟩ : ∃ z : Int32, z = I hm 7 := ⟨_, rfl⟩
    have fS0 : S0.toInt = (I hm 7).toInt := by rw [eS0]
    have rS0 := hs.rng khm rfl eS0
    refine r_aload_n hC dX10_wave_0 0 rfl ?_
    refine r_iconst hC (v := (0)) dX10_wave_1 (by decide) (by decide) (fun x7_ e7 t7 => ?_)
    refine r_puti hC 0 (ci := 10) rfl u10_in tyX10_ok nmX10 (by decide) mT_4_235 rfl rfl rfl dX10_wave_2 ka0 rfl rfl (fun I8 eI8 => ?_)
    have hs8 := hs.put0 eI8 ka0 rfl rfl rfl (by decide)
    have hF8 := hF.put eI8 ka0 rfl
    refine r_aload_n hC dX10_wave_5 0 rfl ?_
    refine r_iload_n hC dX10_wave_6 1 rfl ?_
    refine r_callV hC (As := [.int x1]) (rest := []) (ci := 10) (c_X10_isStory g (xL X) K len I8 J R hs8 a0 ka0 x1) mT_6_119 mT_1_10 mT_6_116 mT_6_118 mP_71 okX10_isStory ⟨by decide, by decide⟩ rfl (by show kO (K a0) = _; rw [ka0]; rfl) rfl rfl (Nat.le_of_ble_eq_true rfl) ⟨by decide, by decide⟩ dX10_wave_7 (aI0 (F := fun st M => P g X 2 10 [(0, .ref a0), (1, .int x1)] st _ _ M) (M := (K, len, I8, J, R)) fun x9_ h9 => ?_)
    obtain ⟨k9_0, k9_1, k9_2, k9_3, k9_4⟩ := h9
    show P g X 2 10 [(0, .ref a0), (1, .int x1)] [.int x9_] _ _ (K, len, I8, J, R)
    have z9 := fun h9 => k9_4 h9 hm hbm
    have vz9 : (I8 hm 7).toInt = S0.toInt := congrArg Int32.toInt (Eq.trans (up2_kk eI8 ka0 khm (by decide)) eS0.symm)
    refine r_if_ne hC (tgt := 19) dX10_wave_10 (by decide) (fun c10 => ?_) (fun c10 => ?_)
    · refine r_aload_n hC dX10_wave_19 0 rfl ?_
      refine r_iload_n hC dX10_wave_20 1 rfl ?_
      have hv11 : I8 hm 7 = S0 := (Eq.trans (up2_kk eI8 ka0 khm (by decide)) eS0.symm)
      refine r_callV hC (As := [.int x1]) (rest := []) (ci := 10) (c_X10_runsAsTold g (xL X) K len I8 J R hs8 a0 ka0 x1 hm hbm khm (by rw [hv11]; omega) (by omega) (by omega)) mT_6_127 mT_1_10 mT_6_124 mT_6_126 mP_73 okX10_runsAsTold ⟨by decide, by decide⟩ rfl (by show kO (K a0) = _; rw [ka0]; rfl) rfl rfl (Nat.le_of_ble_eq_true rfl) ⟨by decide, by decide⟩ dX10_wave_21 (aV1 (F := fun st M => P g X 2 24 [(0, .ref a0), (1, .int x1)] st _ _ M) (M := (K, len, I8, J, R)) fun I12 h12 => ?_)
      obtain ⟨hs12, hf12⟩ := h12
      show P g X 2 24 [(0, .ref a0), (1, .int x1)] [] _ _ (K, len, I12, J, R)
      have hF12 : Fr K [(11, 0), (11, 1), (11, 2), (11, 19), (85, 999), (86, 999), (87, 999), (88, 999)] I I12 := hF8.trans hf12 rfl rfl
      refine r_aload_n hC dX10_wave_24 0 rfl ?_
      refine r_aload_n hC dX10_wave_25 0 rfl ?_
      refine r_callV hC (As := []) (rest := [.ref a0]) (ci := 10) (c_X10_waveOf g (xL X) K len I12 J R hs12 a0 ka0 hm hbm khm) mT_6_163 mT_1_10 mT_6_160 mT_6_162 mP_80 okX10_waveOf ⟨by decide, by decide⟩ rfl (by show kO (K a0) = _; rw [ka0]; rfl) rfl rfl (Nat.le_of_ble_eq_true rfl) ⟨by decide, by decide⟩ dX10_wave_26 (aI0 (F := fun st M => P g X 2 29 [(0, .ref a0), (1, .int x1)] st _ _ M) (M := (K, len, I12, J, R)) fun x13_ h13 => ?_)
      skip
      show P g X 2 29 [(0, .ref a0), (1, .int x1)] [.int x13_, .ref a0] _ _ (K, len, I12, J, R)
      refine r_callV hC (As := [.int x13_]) (rest := []) (ci := 10) (c_X10_done g (xL X) K len I12 J R hs12 a0 ka0 x13_) mT_6_79 mT_1_10 mT_6_76 mT_6_78 mP_67 okX10_done ⟨by decide, by decide⟩ rfl (by show kO (K a0) = _; rw [ka0]; rfl) rfl rfl (Nat.le_of_ble_eq_true rfl) ⟨by decide, by decide⟩ dX10_wave_29 (aI1 (F := fun st M => P g X 2 32 [(0, .ref a0), (1, .int x1)] st _ _ M) (M := (K, len, I12, J, R)) fun x14_ I14 h14 => ?_)
      obtain ⟨hs14, hf14, k14_0, k14_1, k14_2⟩ := h14
      show P g X 2 32 [(0, .ref a0), (1, .int x1)] [.int x14_] _ _ (K, len, I14, J, R)
      have hF14 : Fr K [(11, 0), (11, 1), (11, 2), (11, 19), (85, 999), (86, 999), (87, 999), (88, 999)] I I14 := hF12.trans hf14 rfl rfl
      exact r_iret hC hQ hlk hr rfl (by decide) (by decide) dX10_wave_32 ⟨_, _, rfl, rfl, ⟨hs14, hF14, (by omega)⟩⟩
    · refine r_aload_n hC dX10_wave_13 0 rfl ?_
      refine r_iconst hC (v := (1)) dX10_wave_14 (by decide) (by decide) (fun x15_ e15 t15 => ?_)
      refine r_callV hC (As := [.int x15_]) (rest := []) (ci := 10) (c_X10_refused g (xL X) K len I8 J R hs8 a0 ka0 x15_) mT_5_85 mT_1_10 mT_5_82 mT_5_84 mP_48 okX10_refused ⟨by decide, by decide⟩ rfl (by show kO (K a0) = _; rw [ka0]; rfl) rfl rfl (Nat.le_of_ble_eq_true rfl) ⟨by decide, by decide⟩ dX10_wave_15 (aI1 (F := fun st M => P g X 2 18 [(0, .ref a0), (1, .int x1)] st _ _ M) (M := (K, len, I8, J, R)) fun x16_ I16 h16 => ?_)
      obtain ⟨hs16, hf16, k16_0, k16_1, k16_2⟩ := h16
      show P g X 2 18 [(0, .ref a0), (1, .int x1)] [.int x16_] _ _ (K, len, I16, J, R)
      have hF16 : Fr K [(11, 0), (11, 1), (11, 2), (11, 19), (85, 999), (86, 999), (87, 999), (88, 999)] I I16 := hF8.trans hf16 rfl rfl
      exact r_iret hC hQ hlk hr rfl (by decide) (by decide) dX10_wave_18 ⟨_, _, rfl, rfl, ⟨hs16, hF16, (by omega)⟩⟩
