set_option maxHeartbeats 4000000 in
set_option maxRecDepth 100000 in
theorem f_X8_isVillage (g : GG) (l : Launch) (K len : Nat → Nat) (I : Nat → Nat → Int32) (J : Nat → Nat → Int64) (R : Nat → Nat → Option Nat) (hs : Sf K len I R) (a0 : Nat) (ka0 : K a0 = 9) (x1 : Int32) (h : Nat) (hh : R a0 2 = some h) (kh : K h = 2) : Ct g l yX8_isVillage cX8_isVillage 2 (Option.some Jvm.ClassFile.FieldType.boolean) rmX8_isVillage [.ref a0, .int x1] (K, len, I, J, R) (pI0 (K, len, I, J, R) (fun r => (r.toInt = 1 ∧ (0 ≤ x1.toInt ∧ x1.toInt < (I h 8).toInt) ∨ r.toInt = 0 ∧ ¬ (0 ≤ x1.toInt ∧ x1.toInt < (I h 8).toInt)))) := by
  refine Ct_intro (by decide +kernel) (Nat.le_of_ble_eq_true rfl) (fun X hC hL hKK hNm hr hlk hQ => ?_)
  subst hL
  have hC : Cx g X cX8_isVillage "HillTap" 2 rmX8_isVillage := hC
  show P g X 2 0 [(0, .ref a0), (1, .int x1)] [] 0 0 (K, len, I, J, R)
  have hF : Fr K [] I I := Fr.refl
  have b_x1 := ti_rng x1
  refine r_iload_n hC dX8_isVillage_0 1 rfl ?_
  refine r_if_lt hC (tgt := 19) dX8_isVillage_1 (by decide) (fun c1 => ?_) (fun c1 => ?_)
  · refine r_iconst hC (v := (0)) dX8_isVillage_19 (by decide) (by decide) (fun x2_ e2 t2 => ?_)
    exact r_iret hC hQ hlk hr (by rw [e2]; rfl) (by decide) (by decide) dX8_isVillage_20 ⟨_, rfl, rfl, (by omega)⟩
  · refine r_iload_n hC dX8_isVillage_4 1 rfl ?_
    refine r_aload_n hC dX8_isVillage_5 0 rfl ?_
    refine r_getr hC 2 (ci := 8) rfl u8_in (by decide) mT_2_80 dX8_isVillage_6 ka0 rfl rfl hh ?_
    refine r_geti hC 8 (ci := 1) rfl u1_in (by decide) mT_1_208 dX8_isVillage_9 kh rfl rfl (fun x3_ e3 => ?_)
    have r3 := hs.rng kh rfl e3
    have f3 : x3_.toInt = (I h 8).toInt := by rw [e3]
    refine r_icmp_ge hC (tgt := 19) dX8_isVillage_12 (by decide) (fun c4 => ?_) (fun c4 => ?_)
    · refine r_iconst hC (v := (0)) dX8_isVillage_19 (by decide) (by decide) (fun x5_ e5 t5 => ?_)
      exact r_iret hC hQ hlk hr (by rw [e5]; rfl) (by decide) (by decide) dX8_isVillage_20 ⟨_, rfl, rfl, (by omega)⟩
    · refine r_iconst hC (v := (1)) dX8_isVillage_15 (by decide) (by decide) (fun x6_ e6 t6 => ?_)
      refine r_goto hC (tgt := 20) dX8_isVillage_16 (by decide) ?_
      exact r_iret hC hQ hlk hr (by rw [e6]; rfl) (by decide) (by decide) dX8_isVillage_20 ⟨_, rfl, rfl, (by omega)⟩
set_option maxHeartbeats 4000000 in
set_option maxRecDepth 100000 in
theorem f_X8_isPegDay (g : GG) (l : Launch) (K len : Nat → Nat) (I : Nat → Nat → Int32) (J : Nat → Nat → Int64) (R : Nat → Nat → Option Nat) (hs : Sf K len I R) (a0 : Nat) (ka0 : K a0 = 9) (x1 : Int32) (x2 : Int32) (x3 : Int32) (h : Nat) (hh : R a0 2 = some h) (kh : K h = 2) : Ct g l yX8_isPegDay cX8_isPegDay 4 (Option.some Jvm.ClassFile.FieldType.boolean) rmX8_isPegDay [.ref a0, .int x1, .int x2, .int x3] (K, len, I, J, R) (pI0 (K, len, I, J, R) (fun r => (r.toInt = 1 ∧ ((0 ≤ x1.toInt ∧ x1.toInt < (I h 6).toInt) ∧ (0 ≤ x2.toInt ∧ x2.toInt < (I h 1).toInt) ∧ 0 ≤ x3.toInt ∧ x3.toInt ≤ 59) ∨ r.toInt = 0 ∧ ¬ ((0 ≤ x1.toInt ∧ x1.toInt < (I h 6).toInt) ∧ (0 ≤ x2.toInt ∧ x2.toInt < (I h 1).toInt) ∧ 0 ≤ x3.toInt ∧ x3.toInt ≤ 59)))) := by
  refine Ct_intro (by decide +kernel) (Nat.le_of_ble_eq_true rfl) (fun X hC hL hKK hNm hr hlk hQ => ?_)
  subst hL
  have hC : Cx g X cX8_isPegDay "HillTap" 4 rmX8_isPegDay := hC
  show P g X 4 0 [(0, .ref a0), (1, .int x1), (2, .int x2), (3, .int x3)] [] 0 0 (K, len, I, J, R)
  have hF : Fr K [] I I := Fr.refl
  have b_x1 := ti_rng x1
  have b_x2 := ti_rng x2
  have b_x3 := ti_rng x3
  refine r_aload_n hC dX8_isPegDay_0 0 rfl ?_
  refine r_iload_n hC dX8_isPegDay_1 1 rfl ?_
  refine r_callV hC (As := [.int x1]) (rest := []) (ci := 8) (f_X8_isStory g (xL X) K len I J R hs a0 ka0 x1 h hh kh) mT_3_155 mT_1_1 mT_3_152 mT_3_154 mP_24 okX8_isStory ⟨by decide, by decide⟩ rfl (by show kO (K a0) = _; rw [ka0]; rfl) rfl rfl (Nat.le_of_ble_eq_true rfl) ⟨by decide, by decide⟩ dX8_isPegDay_2 (aI0 (F := fun st M => P g X 4 5 [(0, .ref a0), (1, .int x1), (2, .int x2), (3, .int x3)] st _ _ M) (M := (K, len, I, J, R)) fun x1_ h1 => ?_)
  have k1_0 := h1
  clear h1
  show P g X 4 5 [(0, .ref a0), (1, .int x1), (2, .int x2), (3, .int x3)] [.int x1_] _ _ (K, len, I, J, R)
  rcases k1_0 with ⟨hr1, hw1⟩ | ⟨hr1, hw1⟩
  · refine r_if_eq hC (tgt := 27) dX8_isPegDay_5 (by decide) (fun c2 => ?_) (fun c2 => ?_)
    · exfalso; omega
    refine r_aload_n hC dX8_isPegDay_8 0 rfl ?_
    refine r_iload_n hC dX8_isPegDay_9 2 rfl ?_
    refine r_callV hC (As := [.int x2]) (rest := []) (ci := 8) (f_X8_isPeg g (xL X) K len I J R hs a0 ka0 x2 h hh kh) mT_3_159 mT_1_1 mT_3_156 mT_3_158 mP_25 okX8_isPeg ⟨by decide, by decide⟩ rfl (by show kO (K a0) = _; rw [ka0]; rfl) rfl rfl (Nat.le_of_ble_eq_true rfl) ⟨by decide, by decide⟩ dX8_isPegDay_10 (aI0 (F := fun st M => P g X 4 13 [(0, .ref a0), (1, .int x1), (2, .int x2), (3, .int x3)] st _ _ M) (M := (K, len, I, J, R)) fun x3_ h3 => ?_)
    have k3_0 := h3
    clear h3
    show P g X 4 13 [(0, .ref a0), (1, .int x1), (2, .int x2), (3, .int x3)] [.int x3_] _ _ (K, len, I, J, R)
    rcases k3_0 with ⟨hr3, hw3⟩ | ⟨hr3, hw3⟩
    · refine r_if_eq hC (tgt := 27) dX8_isPegDay_13 (by decide) (fun c4 => ?_) (fun c4 => ?_)
      · exfalso; omega
      refine r_iload_n hC dX8_isPegDay_16 3 rfl ?_
      refine r_callS hC (As := [.int x3]) (rest := []) (f_X8_isDay g (xL X) K len I J R hs x3) mT_3_134 mT_1_1 mT_3_132 mT_3_133 okX8_isDay ⟨by decide, by decide⟩ rfl rfl (Nat.le_of_ble_eq_true rfl) ⟨by decide, by decide⟩ dX8_isPegDay_17 (aI0 (F := fun st M => P g X 4 20 [(0, .ref a0), (1, .int x1), (2, .int x2), (3, .int x3)] st _ _ M) (M := (K, len, I, J, R)) fun x5_ h5 => ?_)
      have k5_0 := h5
      clear h5
      show P g X 4 20 [(0, .ref a0), (1, .int x1), (2, .int x2), (3, .int x3)] [.int x5_] _ _ (K, len, I, J, R)
      rcases k5_0 with ⟨hr5, hw5⟩ | ⟨hr5, hw5⟩
      · refine r_if_eq hC (tgt := 27) dX8_isPegDay_20 (by decide) (fun c6 => ?_) (fun c6 => ?_)
        · exfalso; omega
        refine r_iconst hC (v := (1)) dX8_isPegDay_23 (by decide) (by decide) (fun x7_ e7 t7 => ?_)
        refine r_goto hC (tgt := 28) dX8_isPegDay_24 (by decide) ?_
        exact r_iret hC hQ hlk hr (by rw [e7]; rfl) (by decide) (by decide) dX8_isPegDay_28 ⟨_, rfl, rfl, (by omega)⟩
      · refine r_if_eq hC (tgt := 27) dX8_isPegDay_20 (by decide) (fun c8 => ?_) (fun c8 => ?_)
        rotate_left
        · exfalso; omega
        refine r_iconst hC (v := (0)) dX8_isPegDay_27 (by decide) (by decide) (fun x9_ e9 t9 => ?_)
        exact r_iret hC hQ hlk hr (by rw [e9]; rfl) (by decide) (by decide) dX8_isPegDay_28 ⟨_, rfl, rfl, (by omega)⟩
    · refine r_if_eq hC (tgt := 27) dX8_isPegDay_13 (by decide) (fun c10 => ?_) (fun c10 => ?_)
      rotate_left
      · exfalso; omega
      refine r_iconst hC (v := (0)) dX8_isPegDay_27 (by decide) (by decide) (fun x11_ e11 t11 => ?_)
      exact r_iret hC hQ hlk hr (by rw [e11]; rfl) (by decide) (by decide) dX8_isPegDay_28 ⟨_, rfl, rfl, (by omega)⟩
  · refine r_if_eq hC (tgt := 27) dX8_isPegDay_5 (by decide) (fun c12 => ?_) (fun c12 => ?_)
    rotate_left
    · exfalso; omega
    refine r_iconst hC (v := (0)) dX8_isPegDay_27 (by decide) (by decide) (fun x13_ e13 t13 => ?_)
    exact r_iret hC hQ hlk hr (by rw [e13]; rfl) (by decide) (by decide) dX8_isPegDay_28 ⟨_, rfl, rfl, (by omega)⟩
set_option maxHeartbeats 4000000 in
set_option maxRecDepth 100000 in
theorem f_X8_findFits (g : GG) (l : Launch) (K len : Nat → Nat) (I : Nat → Nat → Int32) (J : Nat → Nat → Int64) (R : Nat → Nat → Option Nat) (hs : Sf K len I R) (a0 : Nat) (ka0 : K a0 = 9) (h : Nat) (hh : R a0 2 = some h) (kh : K h = 2) (lk : Nat) (hlk2 : R h 0 = some lk) (klk : K lk = 3) (rd : Nat) (hrd : R a0 9 = some rd) (krd : K rd = 4) (lv : Nat) (hlv : R a0 4 = some lv) (klv : K lv = 41) (llv : len lv = 60) (kn : Nat) (hkn : R a0 6 = some kn) (kkn : K kn = 43) (lkn : len kn = 6) (cr : Nat) (hcr : R a0 5 = some cr) (kcr1 : K cr = 44) (lcr : len cr = 6) (hu : UU K R) (D : DD) (E : Nat → Nat → Int) (hc : KC D E a0 h lk rd I R) : Ct g l yX8_findFits cX8_findFits 2 (Option.none : Option Jvm.ClassFile.FieldType) rmX8_findFits [.ref a0] (K, len, I, J, R) (pV1 (K, len, I, J, R) (fun I' => Sf K len I' R ∧ Fr K [(1, 5), (1, 6), (43, 999), (50, 999), (51, 999), (52, 999), (53, 999), (54, 999), (67, 999)] I I' ∧ (KC D E a0 h lk rd I' R))) := by
  refine Ct_intro (by decide +kernel) (Nat.le_of_ble_eq_true rfl) (fun X hC hL hKK hNm hr hlk hQ => ?_)
  subst hL
  have hC : Cx g X cX8_findFits "HillTap" 2 rmX8_findFits := hC
  show P g X 2 0 [(0, .ref a0)] [] 0 0 (K, len, I, J, R)
  have hF : Fr K [(1, 5), (1, 6), (43, 999), (50, 999), (51, 999), (52, 999), (53, 999), (54, 999), (67, 999)] I I := Fr.refl
  have ka : KA a0 h lk rd K len R := ⟨⟨_, hs⟩, hu, ka0, kh, klk, krd⟩
  obtain ⟨sd1, sd2, sd3, sd4, sd5, sd7, sd8, sd9⟩ := id hc.2.1
  have d7b := hs.rng kh (k := 6) rfl (x := I h 6) rfl
  have d5b := hs.rng kh (k := 1) rfl (x := I h 1) rfl
  have d8b := hs.rng kh (k := 8) rfl (x := I h 8) rfl
  refine r_iconst hC (v := (0)) dX8_findFits_0 (by decide) (by decide) (fun x1_ e1 t1 => ?_)
  refine r_istore_n hC (lv' := [(1, .int x1_), (0, .ref a0)]) dX8_findFits_1 (by decide) rfl ?_
  have LP2 : ∀ (mu : Nat) (x2_1 : Int32) (I2 : Nat → Nat → Int32) (hs2 : Sf K len I2 R) (hF2 : Fr K [(1, 5), (1, 6), (43, 999), (50, 999), (51, 999), (52, 999), (53, 999), (54, 999), (67, 999)] I I2) (v2_0 : 0 ≤ x2_1.toInt) (v2_1 : x2_1.toInt ≤ D 0 7) (v2_2 : KC D E a0 h lk rd I2 R), (6 - x2_1.toInt).toNat = mu → P g X 2 2 [(0, .ref a0), (1, .int x2_1)] [] 0 0 (K, len, I2, J, R) := by
    intro mu; induction mu using Nat.strongRecOn with | ind mu ih => ?_
    intro x2_1 I2 hs2 hF2 v2_0 v2_1 v2_2 hmu
    have ih2 := ih
    clear ih
    have hmu2 := hmu
    clear hmu
    refine r_iload_n hC dX8_findFits_2 1 rfl ?_
    refine r_aload_n hC dX8_findFits_3 0 rfl ?_
    refine r_getr hC 2 (ci := 8) rfl u8_in (by decide) mT_2_80 dX8_findFits_4 ka0 rfl rfl hh ?_
    refine r_geti hC 6 (ci := 1) rfl u1_in (by decide) mT_1_202 dX8_findFits_7 kh rfl rfl (fun x3_ e3 => ?_)
    have r3 := hs2.rng kh rfl e3
    have f3 : x3_.toInt = (I2 h 6).toInt := by rw [e3]
    have sc3 : x3_.toInt = D 0 7 := by rw [e3]; exact v2_2.2.1.2.2.2.2.2.1
    refine r_icmp_ge hC (tgt := 37) dX8_findFits_10 (by decide) (fun c4 => ?_) (fun c4 => ?_)
    · exact r_vret hC hQ hlk hr (by decide) (by decide) dX8_findFits_37 ⟨_, rfl, rfl, ⟨hs2, hF2, (by exact v2_2)⟩⟩
    · refine r_aload_n hC dX8_findFits_13 0 rfl ?_
      obtain ⟨a5_, hb5, hk5, hn5⟩ := hs2.row ka0 10 67 6 (by decide) (by decide)
      refine r_getr hC 10 (ci := 8) rfl u8_in (by decide) mT_2_88 dX8_findFits_14 ka0 rfl rfl hb5 ?_
      refine r_iload_n hC dX8_findFits_17 1 rfl ?_
      refine r_aload_n hC dX8_findFits_18 0 rfl ?_
      refine r_getr hC 9 (ci := 8) rfl u8_in (by decide) mT_2_87 dX8_findFits_19 ka0 rfl rfl hrd ?_
      refine r_aload_n hC dX8_findFits_22 0 rfl ?_
      refine r_iload_n hC dX8_findFits_23 1 rfl ?_
      refine r_callV hC (As := [.int x2_1]) (rest := [.ref rd, .int x2_1, .ref a5_]) (ci := 8) (f_X8_courseOf g (xL X) K len I2 J R hs2 a0 ka0 x2_1 h hh kh lk hlk2 klk rd hrd krd lv hlv klv llv kn hkn kkn lkn cr hcr kcr1 lcr hu D E v2_2 (by omega) (by omega)) mT_3_163 mT_1_1 mT_3_160 mT_3_162 mP_26 okX8_courseOf ⟨by decide, by decide⟩ rfl (by show kO (K a0) = _; rw [ka0]; rfl) rfl rfl (Nat.le_of_ble_eq_true rfl) ⟨by decide, by decide⟩ dX8_findFits_24 (aR1 (F := fun st M => P g X 2 27 [(0, .ref a0), (1, .int x2_1)] st _ _ M) (M := (K, len, I2, J, R)) fun a6_ I6 h6 => ?_)
      obtain ⟨hs6, hf6, k6_0, k6_1, k6_2, k6_3, k6_4⟩ := h6
      show P g X 2 27 [(0, .ref a0), (1, .int x2_1)] [.ref a6_, .ref rd, .int x2_1, .ref a5_] _ _ (K, len, I6, J, R)
      have hF6 : Fr K [(1, 5), (1, 6), (43, 999), (50, 999), (51, 999), (52, 999), (53, 999), (54, 999), (67, 999)] I I6 := hF2.trans hf6 rfl rfl
      refine r_callV hC (As := [.ref a6_]) (rest := [.int x2_1, .ref a5_]) (ci := 3) (c_X3_firstMisfit g (xL X) K len I6 J R hs6 rd krd a6_ k6_0) mT_3_230 mT_1_9 mT_3_227 mT_3_228 mT_3_229 okX3_firstMisfit ⟨by decide, by decide⟩ rfl (by show kO (K rd) = _; rw [krd]; rfl) rfl rfl (Nat.le_of_ble_eq_true rfl) ⟨by decide, by decide⟩ dX8_findFits_27 (aI0 (F := fun st M => P g X 2 30 [(0, .ref a0), (1, .int x2_1)] st _ _ M) (M := (K, len, I6, J, R)) fun x7_ h7 => ?_)
      skip
      show P g X 2 30 [(0, .ref a0), (1, .int x2_1)] [.int x7_, .int x2_1, .ref a5_] _ _ (K, len, I6, J, R)
      refine x_iastore hC hk5 hn5 (by decide) rfl rfl dX8_findFits_30 (by omega) (by omega) (fun I8 eI8 => ?_)
      have hs8 := hs6.put0 eI8 hk5 (rng_arr (by decide) _) rfl (xF_arr (by decide) _) (by decide)
      have hF8 := hF6.put eI8 hk5 (inS_arr rfl _)
      have hc8 := k6_2.put ka eI8 hk5 rfl
      obtain ⟨x9_, e9⟩ : ∃ z : Int32, z = x2_1 + Int32.ofInt (1) := ⟨_, rfl⟩
      refine r_iinc hC (j := 1) (v := x9_) (lv' := [(1, .int x9_), (0, .ref a0)]) dX8_findFits_31 rfl (by rw [e9]) (by decide) rfl ?_
      try have t9 : x9_.toInt = x2_1.toInt + (1) := by rw [e9]; exact (ti_add (b := Int32.ofInt (1)) (by show _ ≤ _ + (1 : Int); omega) (by show _ + (1 : Int) ≤ _; omega))
      refine r_goto hC (tgt := 2) dX8_findFits_34 (by decide) ?_
      refine r_sub [1, 0] rfl ?_
      exact ih2 ((6 - x9_.toInt).toNat) (by omega) x9_ I8 hs8 hF8 (by omega) (by omega) (by exact hc8) rfl
  refine r_sub [1, 0] rfl ?_
  exact LP2 _ x1_ I hs hF (by omega) (by omega) (by exact hc) rfl
set_option maxHeartbeats 4000000 in
set_option maxRecDepth 100000 in
theorem f_X8_strikes (g : GG) (l : Launch) (K len : Nat → Nat) (I : Nat → Nat → Int32) (J : Nat → Nat → Int64) (R : Nat → Nat → Option Nat) (hs : Sf K len I R) (a0 : Nat) (ka0 : K a0 = 9) (x1 : Int32) (x2 : Int32) (h : Nat) (hh : R a0 2 = some h) (kh : K h = 2) (lk : Nat) (hlk2 : R h 0 = some lk) (klk : K lk = 3) (rd : Nat) (hrd : R a0 9 = some rd) (krd : K rd = 4) (lv : Nat) (hlv : R a0 4 = some lv) (klv : K lv = 41) (llv : len lv = 60) (kn : Nat) (hkn : R a0 6 = some kn) (kkn : K kn = 43) (lkn : len kn = 6) (cr : Nat) (hcr : R a0 5 = some cr) (kcr1 : K cr = 44) (lcr : len cr = 6) (hu : UU K R) (D : DD) (E : Nat → Nat → Int) (hc : KC D E a0 h lk rd I R) (p0 : 0 ≤ x1.toInt) (p1 : x1.toInt < D 0 7) (p2 : 0 ≤ x2.toInt) (p3 : x2.toInt < D 0 8) : Ct g l yX8_strikes cX8_strikes 4 (Option.some Jvm.ClassFile.FieldType.boolean) rmX8_strikes [.ref a0, .int x1, .int x2] (K, len, I, J, R) (pI1 (K, len, I, J, R) (fun r I' => Sf K len I' R ∧ Fr K [(1, 5), (1, 6), (43, 999), (50, 999), (51, 999), (52, 999), (53, 999), (54, 999)] I I' ∧ (KC D E a0 h lk rd I' R) ∧ (r.toInt = 1 ∧ (GV D x1.toInt.toNat (Ad D x1.toInt.toNat (LP1 D) 1) 60 ≠ -2 ∧ D 10 x2.toInt.toNat ≤ Wq D x1.toInt.toNat (Ad D x1.toInt.toNat (LP1 D) 1) (LP1 D) 60) ∨ r.toInt = 0 ∧ ¬ (GV D x1.toInt.toNat (Ad D x1.toInt.toNat (LP1 D) 1) 60 ≠ -2 ∧ D 10 x2.toInt.toNat ≤ Wq D x1.toInt.toNat (Ad D x1.toInt.toNat (LP1 D) 1) (LP1 D) 60)))) := by
  refine Ct_intro (by decide +kernel) (Nat.le_of_ble_eq_true rfl) (fun X hC hL hKK hNm hr hlk hQ => ?_)
  subst hL
  have hC : Cx g X cX8_strikes "HillTap" 4 rmX8_strikes := hC
  show P g X 4 0 [(0, .ref a0), (1, .int x1), (2, .int x2)] [] 0 0 (K, len, I, J, R)
  have hF : Fr K [(1, 5), (1, 6), (43, 999), (50, 999), (51, 999), (52, 999), (53, 999), (54, 999)] I I := Fr.refl
  have ka : KA a0 h lk rd K len R := ⟨⟨_, hs⟩, hu, ka0, kh, klk, krd⟩
  obtain ⟨sd1, sd2, sd3, sd4, sd5, sd7, sd8, sd9⟩ := id hc.2.1
  have d7b := hs.rng kh (k := 6) rfl (x := I h 6) rfl
  have d5b := hs.rng kh (k := 1) rfl (x := I h 1) rfl
  have d8b := hs.rng kh (k := 8) rfl (x := I h 8) rfl
  have b_x1 := ti_rng x1
  have b_x2 := ti_rng x2
  refine r_aload_n hC dX8_strikes_0 0 rfl ?_
  refine r_iload_n hC dX8_strikes_1 1 rfl ?_
  refine r_callV hC (As := [.int x1]) (rest := []) (ci := 8) (f_X8_courseOf g (xL X) K len I J R hs a0 ka0 x1 h hh kh lk hlk2 klk rd hrd krd lv hlv klv llv kn hkn kkn lkn cr hcr kcr1 lcr hu D E hc (by omega) (by omega)) mT_3_163 mT_1_1 mT_3_160 mT_3_162 mP_26 okX8_courseOf ⟨by decide, by decide⟩ rfl (by show kO (K a0) = _; rw [ka0]; rfl) rfl rfl (Nat.le_of_ble_eq_true rfl) ⟨by decide, by decide⟩ dX8_strikes_2 (aR1 (F := fun st M => P g X 4 5 [(0, .ref a0), (1, .int x1), (2, .int x2)] st _ _ M) (M := (K, len, I, J, R)) fun a1_ I1 h1 => ?_)
  obtain ⟨hs1, hf1, k1_0, k1_1, k1_2, k1_3, k1_4⟩ := h1
  show P g X 4 5 [(0, .ref a0), (1, .int x1), (2, .int x2)] [.ref a1_] _ _ (K, len, I1, J, R)
  have hF1 : Fr K [(1, 5), (1, 6), (43, 999), (50, 999), (51, 999), (52, 999), (53, 999), (54, 999)] I I1 := hF.trans hf1 rfl rfl
  refine r_astore_n hC (lv' := [(3, .ref a1_), (0, .ref a0), (1, .int x1), (2, .int x2)]) dX8_strikes_5 (by decide) rfl ?_
  refine r_aload_n hC dX8_strikes_6 0 rfl ?_
  refine r_geti hC 5 (ci := 0) rfl u0_in (by decide) mT_2_36 dX8_strikes_7 k1_0 rfl rfl (fun x2_ e2 => ?_)
  have f2 : x2_.toInt = (I1 a1_ 5).toInt := by rw [e2]
  have q2 : x2_.toInt = GV D x1.toInt.toNat (Ad D x1.toInt.toNat (LP1 D) 1) 60 := by rw [e2]; exact k1_3.2.1
  refine r_bipush hC (v := (-2)) dX8_strikes_10 (by decide) (by decide) (fun x3_ e3 t3 => ?_)
  refine r_icmp_eq hC (tgt := 35) dX8_strikes_12 (by decide) (fun c4 => ?_) (fun c4 => ?_)
  · refine r_iconst hC (v := (0)) dX8_strikes_35 (by decide) (by decide) (fun x5_ e5 t5 => ?_)
    exact r_iret hC hQ hlk hr (by rw [e5]; rfl) (by decide) (by decide) dX8_strikes_36 ⟨_, _, rfl, rfl, ⟨hs1, hF1, (by exact k1_2), (by omega)⟩⟩
  · refine r_aload_n hC dX8_strikes_15 1 rfl ?_
    refine r_getr hC 2 (ci := 8) rfl u8_in (by decide) mT_2_80 dX8_strikes_16 ka0 rfl rfl hh ?_
    obtain ⟨a6_, hb6, hk6, hn6⟩ := hs1.row kh 9 58 4 (by decide) (by decide)
    refine r_getr hC 9 (ci := 1) rfl u1_in (by decide) mT_1_211 dX8_strikes_19 kh rfl rfl hb6 ?_
    refine r_iload_n hC dX8_strikes_22 3 rfl ?_
    refine x_iaload hC hk6 hn6 (by decide) rfl rfl dX8_strikes_23 (by omega) (by omega) (fun x7_ e7 => ?_)
    have q7 : x7_.toInt = D 10 x2.toInt.toNat := by rw [e7, clx (i := x2) rfl (by omega)]; exact k1_2.1 10 _ _ _ (cCt (r := 10) rfl hb6) (by rw [cnt_10]; omega) (fun h9 => absurd h9 (by decide))
    have jb7 : 0 ≤ D 10 x2.toInt.toNat ∧ D 10 x2.toInt.toNat ≤ 999 := ((k1_2.2.2.1 (by omega)).1).2.2.2.1 10 _ (by decide) (by decide) (by decide)
    refine r_aload_n hC dX8_strikes_24 0 rfl ?_
    refine r_geti hC 6 (ci := 0) rfl u0_in (by decide) mT_2_38 dX8_strikes_25 k1_0 rfl rfl (fun x8_ e8 => ?_)
    have f8 : x8_.toInt = (I1 a1_ 6).toInt := by rw [e8]
    have q8 : x8_.toInt = Wq D x1.toInt.toNat (Ad D x1.toInt.toNat (LP1 D) 1) (LP1 D) 60 := by rw [e8]; exact k1_3.2.2
    refine r_icmp_gt hC (tgt := 35) dX8_strikes_28 (by decide) (fun c9 => ?_) (fun c9 => ?_)
    · refine r_iconst hC (v := (0)) dX8_strikes_35 (by decide) (by decide) (fun x10_ e10 t10 => ?_)
      exact r_iret hC hQ hlk hr (by rw [e10]; rfl) (by decide) (by decide) dX8_strikes_36 ⟨_, _, rfl, rfl, ⟨hs1, hF1, (by exact k1_2), (by omega)⟩⟩
    · refine r_iconst hC (v := (1)) dX8_strikes_31 (by decide) (by decide) (fun x11_ e11 t11 => ?_)
      refine r_goto hC (tgt := 36) dX8_strikes_32 (by decide) ?_
      exact r_iret hC hQ hlk hr (by rw [e11]; rfl) (by decide) (by decide) dX8_strikes_36 ⟨_, _, rfl, rfl, ⟨hs1, hF1, (by exact k1_2), (by omega)⟩⟩

