set_option maxHeartbeats 4000000 in
set_option maxRecDepth 100000 in
theorem f_X8_level (g : GG) (l : Launch) (K len : Nat → Nat) (I : Nat → Nat → Int32) (J : Nat → Nat → Int64) (R : Nat → Nat → Option Nat) (hs : Sf K len I R) (a0 : Nat) (ka0 : K a0 = 9) (x1 : Int32) (h : Nat) (hh : R a0 2 = some h) (kh : K h = 2) (lv : Nat) (hlv : R a0 4 = some lv) (klv : K lv = 41) (llv : len lv = 60) (D : DD) (lvr : (I h 6).toInt ≠ 0 → LvR D lv I) : Ct g l yX8_level cX8_level 2 (Option.some Jvm.ClassFile.FieldType.int) rmX8_level [.ref a0, .int x1] (K, len, I, J, R) (pI1 (K, len, I, J, R) (fun r I' => Sf K len I' R ∧ Fr K [(9, 12)] I I' ∧ ((((I h 6).toInt ≠ 0 ∧ 0 ≤ x1.toInt ∧ x1.toInt ≤ 59) ∧ r.toInt = Lp D (Gp D 60) (x1.toInt.toNat + 1)) ∨ (¬ ((I h 6).toInt ≠ 0 ∧ 0 ≤ x1.toInt ∧ x1.toInt ≤ 59) ∧ r.toInt = -1)) ∧ ((I' a0 12).toInt ≠ 4))) := by
  refine Ct_intro (by decide +kernel) (Nat.le_of_ble_eq_true rfl) (fun X hC hL hKK hNm hr hlk hQ => ?_)
  subst hL
  have hC : Cx g X cX8_level "HillTap" 2 rmX8_level := hC
  show P g X 2 0 [(0, .ref a0), (1, .int x1)] [] 0 0 (K, len, I, J, R)
  have hF : Fr K [(9, 12)] I I := Fr.refl
  have b_x1 := ti_rng x1
  obtain ⟨S6, eS6⟩ : ∃ z : Int32, z = I h 6 := ⟨_, rfl⟩
  have fS6 : S6.toInt = (I h 6).toInt := by rw [eS6]
  have rS6 := hs.rng kh rfl eS6
  refine r_aload_n hC dX8_level_0 0 rfl ?_
  refine r_callV hC (As := []) (rest := []) (ci := 8) (f_X8_noHill g (xL X) K len I J R hs a0 ka0 h hh kh) mT_3_131 mT_1_1 mT_3_128 mT_3_130 mP_22 okX8_noHill ⟨by decide, by decide⟩ rfl (by show kO (K a0) = _; rw [ka0]; rfl) rfl rfl (Nat.le_of_ble_eq_true rfl) ⟨by decide, by decide⟩ dX8_level_1 (aI0 (F := fun st M => P g X 2 4 [(0, .ref a0), (1, .int x1)] st _ _ M) (M := (K, len, I, J, R)) fun x1_ h1 => ?_)
  have k1_0 := h1
  clear h1
  show P g X 2 4 [(0, .ref a0), (1, .int x1)] [.int x1_] _ _ (K, len, I, J, R)
  rcases k1_0 with ⟨hr1, hw1⟩ | ⟨hr1, hw1⟩
  · refine r_if_ne hC (tgt := 14) dX8_level_4 (by decide) (fun c2 => ?_) (fun c2 => ?_)
    rotate_left
    · exfalso; omega
    refine r_aload_n hC dX8_level_14 0 rfl ?_
    refine r_iconst hC (v := (1)) dX8_level_15 (by decide) (by decide) (fun x3_ e3 t3 => ?_)
    refine r_callV hC (As := [.int x3_]) (rest := []) (ci := 8) (c_X8_refuse g (xL X) K len I J R hs a0 ka0 x3_) mT_2_133 mT_1_1 mT_2_130 mT_2_132 mP_0 okX8_refuse ⟨by decide, by decide⟩ rfl (by show kO (K a0) = _; rw [ka0]; rfl) rfl rfl (Nat.le_of_ble_eq_true rfl) ⟨by decide, by decide⟩ dX8_level_16 (aI1 (F := fun st M => P g X 2 19 [(0, .ref a0), (1, .int x1)] st _ _ M) (M := (K, len, I, J, R)) fun x4_ I4 h4 => ?_)
    obtain ⟨hs4, hf4, k4_0, k4_1⟩ := h4
    show P g X 2 19 [(0, .ref a0), (1, .int x1)] [.int x4_] _ _ (K, len, I4, J, R)
    have hF4 : Fr K [(9, 12)] I I4 := hF.trans hf4 rfl rfl
    exact r_iret hC hQ hlk hr rfl (by decide) (by decide) dX8_level_19 ⟨_, _, rfl, rfl, ⟨hs4, hF4, (by first | exact Or.inr ⟨by omega, by omega⟩ | exact Or.inl ⟨by omega, (congrArg Int32.toInt k4_0).trans lq⟩), (by omega)⟩⟩
  · refine r_if_ne hC (tgt := 14) dX8_level_4 (by decide) (fun c5 => ?_) (fun c5 => ?_)
    · exfalso; omega
    refine r_iload_n hC dX8_level_7 1 rfl ?_
    refine r_callS hC (As := [.int x1]) (rest := []) (f_X8_isDay g (xL X) K len I J R hs x1) mT_3_134 mT_1_1 mT_3_132 mT_3_133 okX8_isDay ⟨by decide, by decide⟩ rfl rfl (Nat.le_of_ble_eq_true rfl) ⟨by decide, by decide⟩ dX8_level_8 (aI0 (F := fun st M => P g X 2 11 [(0, .ref a0), (1, .int x1)] st _ _ M) (M := (K, len, I, J, R)) fun x6_ h6 => ?_)
    have k6_0 := h6
    clear h6
    show P g X 2 11 [(0, .ref a0), (1, .int x1)] [.int x6_] _ _ (K, len, I, J, R)
    rcases k6_0 with ⟨hr6, hw6⟩ | ⟨hr6, hw6⟩
    · refine r_if_ne hC (tgt := 20) dX8_level_11 (by decide) (fun c7 => ?_) (fun c7 => ?_)
      rotate_left
      · exfalso; omega
      refine r_aload_n hC dX8_level_20 0 rfl ?_
      refine r_aload_n hC dX8_level_21 0 rfl ?_
      refine r_getr hC 4 (ci := 8) rfl u8_in (by decide) mT_2_82 dX8_level_22 ka0 rfl rfl hlv ?_
      refine r_iload_n hC dX8_level_25 1 rfl ?_
      refine x_iaload hC klv llv (by decide) rfl rfl dX8_level_26 (by omega) (by omega) (fun x8_ e8 => ?_)
      have lq : x8_.toInt = Lp D (Gp D 60) (x1.toInt.toNat + 1) := by rw [e8, clx (i := x1) rfl (by omega)]; exact lvr (by omega) _ (by omega)
      refine r_callV hC (As := [.int x8_]) (rest := []) (ci := 8) (c_X8_answer g (xL X) K len I J R hs a0 ka0 x8_) mT_3_115 mT_1_1 mT_3_112 mT_3_114 mP_21 okX8_answer ⟨by decide, by decide⟩ rfl (by show kO (K a0) = _; rw [ka0]; rfl) rfl rfl (Nat.le_of_ble_eq_true rfl) ⟨by decide, by decide⟩ dX8_level_27 (aI1 (F := fun st M => P g X 2 30 [(0, .ref a0), (1, .int x1)] st _ _ M) (M := (K, len, I, J, R)) fun x9_ I9 h9 => ?_)
      obtain ⟨hs9, hf9, k9_0, k9_1⟩ := h9
      show P g X 2 30 [(0, .ref a0), (1, .int x1)] [.int x9_] _ _ (K, len, I9, J, R)
      have hF9 : Fr K [(9, 12)] I I9 := hF.trans hf9 rfl rfl
      exact r_iret hC hQ hlk hr rfl (by decide) (by decide) dX8_level_30 ⟨_, _, rfl, rfl, ⟨hs9, hF9, (by first | exact Or.inr ⟨by omega, by omega⟩ | exact Or.inl ⟨by omega, (congrArg Int32.toInt k9_0).trans lq⟩), (by omega)⟩⟩
    · refine r_if_ne hC (tgt := 20) dX8_level_11 (by decide) (fun c10 => ?_) (fun c10 => ?_)
      · exfalso; omega
      refine r_aload_n hC dX8_level_14 0 rfl ?_
      refine r_iconst hC (v := (1)) dX8_level_15 (by decide) (by decide) (fun x11_ e11 t11 => ?_)
      refine r_callV hC (As := [.int x11_]) (rest := []) (ci := 8) (c_X8_refuse g (xL X) K len I J R hs a0 ka0 x11_) mT_2_133 mT_1_1 mT_2_130 mT_2_132 mP_0 okX8_refuse ⟨by decide, by decide⟩ rfl (by show kO (K a0) = _; rw [ka0]; rfl) rfl rfl (Nat.le_of_ble_eq_true rfl) ⟨by decide, by decide⟩ dX8_level_16 (aI1 (F := fun st M => P g X 2 19 [(0, .ref a0), (1, .int x1)] st _ _ M) (M := (K, len, I, J, R)) fun x12_ I12 h12 => ?_)
      obtain ⟨hs12, hf12, k12_0, k12_1⟩ := h12
      show P g X 2 19 [(0, .ref a0), (1, .int x1)] [.int x12_] _ _ (K, len, I12, J, R)
      have hF12 : Fr K [(9, 12)] I I12 := hF.trans hf12 rfl rfl
      exact r_iret hC hQ hlk hr rfl (by decide) (by decide) dX8_level_19 ⟨_, _, rfl, rfl, ⟨hs12, hF12, (by first | exact Or.inr ⟨by omega, by omega⟩ | exact Or.inl ⟨by omega, (congrArg Int32.toInt k12_0).trans lq⟩), (by omega)⟩⟩
set_option maxHeartbeats 4000000 in
set_option maxRecDepth 100000 in
theorem f_X10_level (g : GG) (l : Launch) (K len : Nat → Nat) (I : Nat → Nat → Int32) (J : Nat → Nat → Int64) (R : Nat → Nat → Option Nat) (hs : Sf K len I R) (a0 : Nat) (ka0 : K a0 = 11) (x1 : Int32) (D : DD) (hmx : ∀ hm, R a0 3 = some hm → DJ D ∧ RW (CM hm R) (cntN D) D I ∧ (I hm 0).toInt = D 0 1 ∧ (I hm 1).toInt = D 0 2 ∧ (I hm 2).toInt = D 0 3 ∧ (I hm 4).toInt = D 0 4) (lr : Nat) (hlr : R a0 15 = some lr) (klr : K lr = 85) (llr : len lr = 60) : Ct g l yX10_level cX10_level 2 (Option.some Jvm.ClassFile.FieldType.int) rmX10_level [.ref a0, .int x1] (K, len, I, J, R) (pI1 (K, len, I, J, R) (fun r I' => Sf K len I' R ∧ Fr K [(11, 0), (11, 1), (11, 2), (85, 999)] I I' ∧ ((R a0 3 = none ∧ r.toInt = -1) ∨ (∃ hm, R a0 3 = some hm ∧ (((0 ≤ x1.toInt ∧ x1.toInt ≤ 59) ∧ r.toInt = Lp D (Gp D 60) (x1.toInt.toNat + 1)) ∨ (¬ (0 ≤ x1.toInt ∧ x1.toInt ≤ 59) ∧ r.toInt = -1)))) ∧ ((I' a0 2).toInt = -1))) := by
  refine Ct_intro (by decide +kernel) (Nat.le_of_ble_eq_true rfl) (fun X hC hL hKK hNm hr hlk hQ => ?_)
  subst hL
  have hC : Cx g X cX10_level "HillTapModel" 2 rmX10_level := hC
  show P g X 2 0 [(0, .ref a0), (1, .int x1)] [] 0 0 (K, len, I, J, R)
  have hF : Fr K [(11, 0), (11, 1), (11, 2), (85, 999)] I I := Fr.refl
  have b_x1 := ti_rng x1
  rcases hs.2.1.2.2.1 a0 ka0 with hz | ⟨hm, hbm, khm⟩
  · refine r_aload_n hC dX10_level_0 0 rfl ?_
    refine r_iconst hC (v := (0)) dX10_level_1 (by decide) (by decide) (fun x1_ e1 t1 => ?_)
    refine r_puti hC 0 (ci := 10) rfl u10_in tyX10_ok nmX10 (by decide) mT_4_235 rfl rfl rfl dX10_level_2 ka0 rfl rfl (fun I2 eI2 => ?_)
    have hs2 := hs.put0 eI2 ka0 rfl rfl rfl (by decide)
    have hF2 := hF.put eI2 ka0 rfl
    refine r_aload_n hC dX10_level_5 0 rfl ?_
    refine r_iload_n hC dX10_level_6 1 rfl ?_
    refine r_callV hC (As := [.int x1]) (rest := []) (ci := 10) (f_X10_isDay g (xL X) K len I2 J R hs2 a0 ka0 x1) mT_6_95 mT_1_10 mT_6_92 mT_6_94 mP_68 okX10_isDay ⟨by decide, by decide⟩ rfl (by show kO (K a0) = _; rw [ka0]; rfl) rfl rfl (Nat.le_of_ble_eq_true rfl) ⟨by decide, by decide⟩ dX10_level_7 (aI0 (F := fun st M => P g X 2 10 [(0, .ref a0), (1, .int x1)] st _ _ M) (M := (K, len, I2, J, R)) fun x3_ h3 => ?_)
    have k3_0 := h3
    clear h3
    show P g X 2 10 [(0, .ref a0), (1, .int x1)] [.int x3_] _ _ (K, len, I2, J, R)
    have kq3 : x3_.toInt = 0 := by rcases k3_0 with ⟨z, y⟩ | ⟨hm9, z, y⟩; exact y; rw [hz] at z; cases z
    clear k3_0
    refine r_if_ne hC (tgt := 19) dX10_level_10 (by decide) (fun c4 => ?_) (fun c4 => ?_)
    · exfalso; omega
    refine r_aload_n hC dX10_level_13 0 rfl ?_
    refine r_iconst hC (v := (1)) dX10_level_14 (by decide) (by decide) (fun x5_ e5 t5 => ?_)
    refine r_callV hC (As := [.int x5_]) (rest := []) (ci := 10) (c_X10_refused g (xL X) K len I2 J R hs2 a0 ka0 x5_) mT_5_85 mT_1_10 mT_5_82 mT_5_84 mP_48 okX10_refused ⟨by decide, by decide⟩ rfl (by show kO (K a0) = _; rw [ka0]; rfl) rfl rfl (Nat.le_of_ble_eq_true rfl) ⟨by decide, by decide⟩ dX10_level_15 (aI1 (F := fun st M => P g X 2 18 [(0, .ref a0), (1, .int x1)] st _ _ M) (M := (K, len, I2, J, R)) fun x6_ I6 h6 => ?_)
    obtain ⟨hs6, hf6, k6_0, k6_1, k6_2⟩ := h6
    show P g X 2 18 [(0, .ref a0), (1, .int x1)] [.int x6_] _ _ (K, len, I6, J, R)
    have hF6 : Fr K [(11, 0), (11, 1), (11, 2), (85, 999)] I I6 := hF2.trans hf6 rfl rfl
    exact r_iret hC hQ hlk hr rfl (by decide) (by decide) dX10_level_18 ⟨_, _, rfl, rfl, ⟨hs6, hF6, (by first | exact Or.inl ⟨hz, by omega⟩ | exact Or.inr ⟨hm, hbm, Or.inr ⟨by omega, by omega⟩⟩ | exact Or.inr ⟨hm, hbm, Or.inl ⟨by omega, (congrArg Int32.toInt k6_0).trans lq⟩⟩), (by omega)⟩⟩
  · obtain ⟨S0, eS0⟩ : ∃ z : Int32, z = I hm 7 := ⟨_, rfl⟩
    have fS0 : S0.toInt = (I hm 7).toInt := by rw [eS0]
    have rS0 := hs.rng khm rfl eS0
    obtain ⟨hJ, rwm, hd1, hd2, hd3, hd4⟩ := hmx hm hbm
    have hcx := CM_x hs khm
    refine r_aload_n hC dX10_level_0 0 rfl ?_
    refine r_iconst hC (v := (0)) dX10_level_1 (by decide) (by decide) (fun x7_ e7 t7 => ?_)
    refine r_puti hC 0 (ci := 10) rfl u10_in tyX10_ok nmX10 (by decide) mT_4_235 rfl rfl rfl dX10_level_2 ka0 rfl rfl (fun I8 eI8 => ?_)
    have hs8 := hs.put0 eI8 ka0 rfl rfl rfl (by decide)
    have hF8 := hF.put eI8 ka0 rfl
    refine r_aload_n hC dX10_level_5 0 rfl ?_
    refine r_iload_n hC dX10_level_6 1 rfl ?_
    refine r_callV hC (As := [.int x1]) (rest := []) (ci := 10) (f_X10_isDay g (xL X) K len I8 J R hs8 a0 ka0 x1) mT_6_95 mT_1_10 mT_6_92 mT_6_94 mP_68 okX10_isDay ⟨by decide, by decide⟩ rfl (by show kO (K a0) = _; rw [ka0]; rfl) rfl rfl (Nat.le_of_ble_eq_true rfl) ⟨by decide, by decide⟩ dX10_level_7 (aI0 (F := fun st M => P g X 2 10 [(0, .ref a0), (1, .int x1)] st _ _ M) (M := (K, len, I8, J, R)) fun x9_ h9 => ?_)
    have k9_0 := h9
    clear h9
    show P g X 2 10 [(0, .ref a0), (1, .int x1)] [.int x9_] _ _ (K, len, I8, J, R)
    have kq9 : x9_.toInt = 1 ∧ (0 ≤ x1.toInt ∧ x1.toInt ≤ 59) ∨ x9_.toInt = 0 ∧ ¬ (0 ≤ x1.toInt ∧ x1.toInt ≤ 59) := by rcases k9_0 with ⟨z, -⟩ | ⟨hm9, z, y⟩ <;> rw [hbm] at z <;> cases z; exact y
    clear k9_0
    refine r_if_ne hC (tgt := 19) dX10_level_10 (by decide) (fun c10 => ?_) (fun c10 => ?_)
    · refine r_aload_n hC dX10_level_19 0 rfl ?_
      refine r_bipush hC (v := (60)) dX10_level_20 (by decide) (by decide) (fun x11_ e11 t11 => ?_)
      refine r_iconst hC (v := (-1)) dX10_level_22 (by decide) (by decide) (fun x12_ e12 t12 => ?_)
      refine r_callV hC (As := [.int x11_, .int x12_]) (rest := []) (ci := 10) (f_X10_fills g (xL X) K len I8 J R hs8 a0 ka0 x11_ x12_ hm hbm khm D hJ (rwm.mv hcx qM_big hF8 rfl) (by rw [hF8.get khm rfl]; exact hd1) (by rw [hF8.get khm rfl]; exact hd2) (by rw [hF8.get khm rfl]; exact hd3) (by rw [hF8.get khm rfl]; exact hd4) lr hlr klr llr (by omega)) mT_6_99 mT_1_10 mT_6_96 mT_6_98 mP_69 okX10_fills ⟨by decide, by decide⟩ rfl (by show kO (K a0) = _; rw [ka0]; rfl) rfl rfl (Nat.le_of_ble_eq_true rfl) ⟨by decide, by decide⟩ dX10_level_23 (aV1 (F := fun st M => P g X 2 26 [(0, .ref a0), (1, .int x1)] st _ _ M) (M := (K, len, I8, J, R)) fun I13 h13 => ?_)
      obtain ⟨hs13, hf13, k13_0⟩ := h13
      show P g X 2 26 [(0, .ref a0), (1, .int x1)] [] _ _ (K, len, I13, J, R)
      have hF13 : Fr K [(11, 0), (11, 1), (11, 2), (85, 999)] I I13 := hF8.trans hf13 rfl rfl
      refine r_aload_n hC dX10_level_26 0 rfl ?_
      refine r_aload_n hC dX10_level_27 0 rfl ?_
      refine r_getr hC 15 (ci := 10) rfl u10_in (by decide) mT_5_10 dX10_level_28 ka0 rfl rfl hlr ?_
      refine r_iload_n hC dX10_level_31 1 rfl ?_
      refine x_iaload hC klr llr (by decide) rfl rfl dX10_level_32 (by omega) (by omega) (fun x14_ e14 => ?_)
      have lq : x14_.toInt = Lp D (Gp D 60) (x1.toInt.toNat + 1) := by rw [e14, clx (i := x1) rfl (by omega), k13_0 _ (by omega), show x11_.toInt = 60 by omega, show x12_.toInt = -1 by omega, Gm_p (by have h9 := hJ.2.2.2.2.1; omega)]
      refine r_callV hC (As := [.int x14_]) (rest := []) (ci := 10) (c_X10_done g (xL X) K len I13 J R hs13 a0 ka0 x14_) mT_6_79 mT_1_10 mT_6_76 mT_6_78 mP_67 okX10_done ⟨by decide, by decide⟩ rfl (by show kO (K a0) = _; rw [ka0]; rfl) rfl rfl (Nat.le_of_ble_eq_true rfl) ⟨by decide, by decide⟩ dX10_level_33 (aI1 (F := fun st M => P g X 2 36 [(0, .ref a0), (1, .int x1)] st _ _ M) (M := (K, len, I13, J, R)) fun x15_ I15 h15 => ?_)
      obtain ⟨hs15, hf15, k15_0, k15_1, k15_2⟩ := h15
      show P g X 2 36 [(0, .ref a0), (1, .int x1)] [.int x15_] _ _ (K, len, I15, J, R)
      have hF15 : Fr K [(11, 0), (11, 1), (11, 2), (85, 999)] I I15 := hF13.trans hf15 rfl rfl
      exact r_iret hC hQ hlk hr rfl (by decide) (by decide) dX10_level_36 ⟨_, _, rfl, rfl, ⟨hs15, hF15, (by first | exact Or.inl ⟨hz, by omega⟩ | exact Or.inr ⟨hm, hbm, Or.inr ⟨by omega, by omega⟩⟩ | exact Or.inr ⟨hm, hbm, Or.inl ⟨by omega, (congrArg Int32.toInt k15_0).trans lq⟩⟩), (by omega)⟩⟩
    · refine r_aload_n hC dX10_level_13 0 rfl ?_
      refine r_iconst hC (v := (1)) dX10_level_14 (by decide) (by decide) (fun x16_ e16 t16 => ?_)
      refine r_callV hC (As := [.int x16_]) (rest := []) (ci := 10) (c_X10_refused g (xL X) K len I8 J R hs8 a0 ka0 x16_) mT_5_85 mT_1_10 mT_5_82 mT_5_84 mP_48 okX10_refused ⟨by decide, by decide⟩ rfl (by show kO (K a0) = _; rw [ka0]; rfl) rfl rfl (Nat.le_of_ble_eq_true rfl) ⟨by decide, by decide⟩ dX10_level_15 (aI1 (F := fun st M => P g X 2 18 [(0, .ref a0), (1, .int x1)] st _ _ M) (M := (K, len, I8, J, R)) fun x17_ I17 h17 => ?_)
      obtain ⟨hs17, hf17, k17_0, k17_1, k17_2⟩ := h17
      show P g X 2 18 [(0, .ref a0), (1, .int x1)] [.int x17_] _ _ (K, len, I17, J, R)
      have hF17 : Fr K [(11, 0), (11, 1), (11, 2), (85, 999)] I I17 := hF8.trans hf17 rfl rfl
      exact r_iret hC hQ hlk hr rfl (by decide) (by decide) dX10_level_18 ⟨_, _, rfl, rfl, ⟨hs17, hF17, (by first | exact Or.inl ⟨hz, by omega⟩ | exact Or.inr ⟨hm, hbm, Or.inr ⟨by omega, by omega⟩⟩ | exact Or.inr ⟨hm, hbm, Or.inl ⟨by omega, (congrArg Int32.toInt k17_0).trans lq⟩⟩), (by omega)⟩⟩

