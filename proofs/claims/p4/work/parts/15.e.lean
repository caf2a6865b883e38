abbrev rmX6_faulty : Room := { frames := 0, cells := 0, slots := 0, locals := 0 }
abbrev rmX6_takeWhole : Room := { frames := 2, cells := 0, slots := 0, locals := 42 }
abbrev rmX6_takeNumber : Room := { frames := 5, cells := 0, slots := 0, locals := 108 }
abbrev rmX6_isName : Room := { frames := 5, cells := 0, slots := 0, locals := 108 }
abbrev rmX6_kindHere : Room := { frames := 5, cells := 0, slots := 0, locals := 108 }
abbrev rmX6_pegNamed : Room := { frames := 0, cells := 0, slots := 0, locals := 0 }
abbrev rmX6_takeNewName : Room := { frames := 6, cells := 0, slots := 0, locals := 128 }
abbrev rmX6_takeLake : Room := { frames := 6, cells := 0, slots := 0, locals := 131 }
abbrev rmX6_takePeg : Room := { frames := 7, cells := 0, slots := 0, locals := 149 }
abbrev rmX6_takeFrom : Room := { frames := 6, cells := 0, slots := 0, locals := 131 }
abbrev rmX6_takeRain : Room := { frames := 6, cells := 0, slots := 0, locals := 131 }
abbrev rmX6_takeStory : Room := { frames := 7, cells := 0, slots := 0, locals := 149 }
abbrev rmX6_takeVillage : Room := { frames := 7, cells := 0, slots := 0, locals := 149 }
abbrev rmX6_takeKnower : Room := { frames := 7, cells := 0, slots := 0, locals := 149 }
abbrev rmX6_takeLine : Room := { frames := 8, cells := 0, slots := 0, locals := 172 }
abbrev rmX6_tellHill : Room := { frames := 9, cells := 0, slots := 0, locals := 193 }
set_option maxHeartbeats 4000000 in
set_option maxRecDepth 100000 in
theorem c_X6_faulty (g : GG) (l : Launch) (K len : Nat → Nat) (I : Nat → Nat → Int32) (J : Nat → Nat → Int64) (R : Nat → Nat → Option Nat) (hs : Sf K len I R) (a0 : Nat) (ka0 : K a0 = 7) (x1 : Int32) : Ct g l yX6_faulty cX6_faulty 2 (Option.some Jvm.ClassFile.FieldType.boolean) rmX6_faulty [.ref a0, .int x1] (K, len, I, J, R) (pI1 (K, len, I, J, R) (fun r I' => Sf K len I' R ∧ Fr K [(7, 5), (7, 6)] I I' ∧ (r.toInt = 0))) := by
  refine Ct_intro (by decide +kernel) (Nat.le_of_ble_eq_true rfl) (fun X hC hL hKK hNm hr hlk hQ => ?_)
  subst hL
  have hC : Cx g X cX6_faulty "HillTap$Teller" 2 rmX6_faulty := hC
  show P g X 2 0 [(0, .ref a0), (1, .int x1)] [] 0 0 (K, len, I, J, R)
  have hF : Fr K [(7, 5), (7, 6)] I I := Fr.refl
  have b_x1 := ti_rng x1
  refine r_aload_n hC dX6_faulty_0 0 rfl ?_
  refine r_iload_n hC dX6_faulty_1 1 rfl ?_
  refine r_puti hC 5 (ci := 6) rfl u6_in tyX6_ok nmX6 (by decide) mT_1_86 rfl rfl rfl dX6_faulty_2 ka0 rfl rfl (fun I1 eI1 => ?_)
  have hs1 := hs.put0 eI1 ka0 rfl rfl rfl (by decide)
  have hF1 := hF.put eI1 ka0 rfl
  refine r_aload_n hC dX6_faulty_5 0 rfl ?_
  refine r_aload_n hC dX6_faulty_6 0 rfl ?_
  obtain ⟨a2_, hb2, hk2⟩ := hs1.obj ka0 0 8 (by decide)
  refine r_getr hC 0 (ci := 6) rfl u6_in (by decide) mT_1_81 dX6_faulty_7 ka0 rfl rfl hb2 ?_
  refine r_geti hC 4 (ci := 7) rfl u7_in (by decide) mT_1_64 dX6_faulty_10 hk2 rfl rfl (fun x3_ e3 => ?_)
  have r3 := hs1.rng hk2 rfl e3
  have f3 : x3_.toInt = (I1 a2_ 4).toInt := by rw [e3]
  refine r_puti hC 6 (ci := 6) rfl u6_in tyX6_ok nmX6 (by decide) mT_1_88 rfl rfl rfl dX6_faulty_13 ka0 rfl rfl (fun I4 eI4 => ?_)
  have hs4 := hs1.put0 eI4 ka0 rfl rfl rfl (by decide)
  have hF4 := hF1.put eI4 ka0 rfl
  refine r_iconst hC (v := (0)) dX6_faulty_16 (by decide) (by decide) (fun x5_ e5 t5 => ?_)
  exact r_iret hC hQ hlk hr (by rw [e5]; rfl) (by decide) (by decide) dX6_faulty_17 ⟨_, _, rfl, rfl, ⟨hs4, hF4, (by omega)⟩⟩
set_option maxHeartbeats 4000000 in
set_option maxRecDepth 100000 in
theorem c_X6_takeWhole (g : GG) (l : Launch) (K len : Nat → Nat) (I : Nat → Nat → Int32) (J : Nat → Nat → Int64) (R : Nat → Nat → Option Nat) (hs : Sf K len I R) (a0 : Nat) (ka0 : K a0 = 7) (x1 : Int32) (x2 : Int32) : Ct g l yX6_takeWhole cX6_takeWhole 3 (Option.some Jvm.ClassFile.FieldType.boolean) rmX6_takeWhole [.ref a0, .int x1, .int x2] (K, len, I, J, R) (pI2 (K, len, I, J, R) (fun r I' J' => Sf K len I' R ∧ Fr K [(7, 4), (7, 5), (7, 6), (8, 2), (8, 3), (8, 4)] I I' ∧ Fr K [(8, 5)] J J' ∧ (0 ≤ r.toInt) ∧ (r.toInt ≤ 1) ∧ (r.toInt ≠ 0 → x1.toInt ≤ (I' a0 4).toInt ∧ (I' a0 4).toInt ≤ x2.toInt))) := by
  refine Ct_intro (by decide +kernel) (Nat.le_of_ble_eq_true rfl) (fun X hC hL hKK hNm hr hlk hQ => ?_)
  subst hL
  have hC : Cx g X cX6_takeWhole "HillTap$Teller" 3 rmX6_takeWhole := hC
  show P g X 3 0 [(0, .ref a0), (1, .int x1), (2, .int x2)] [] 0 0 (K, len, I, J, R)
  have hF : Fr K [(7, 4), (7, 5), (7, 6), (8, 2), (8, 3), (8, 4)] I I := Fr.refl
  have hFJ : Fr K [(8, 5)] J J := Fr.refl
  have b_x1 := ti_rng x1
  have b_x2 := ti_rng x2
  refine r_aload_n hC dX6_takeWhole_0 0 rfl ?_
  obtain ⟨a1_, hb1, hk1⟩ := hs.obj ka0 0 8 (by decide)
  refine r_getr hC 0 (ci := 6) rfl u6_in (by decide) mT_1_81 dX6_takeWhole_1 ka0 rfl rfl hb1 ?_
  refine r_callV hC (As := []) (rest := []) (ci := 7) (c_X7_isWhole g (xL X) K len I J R hs a1_ hk1) mT_3_7 mT_1_4 mT_3_4 mT_3_5 mT_3_6 okX7_isWhole ⟨by decide, by decide⟩ rfl (by show kO (K a1_) = _; rw [hk1]; rfl) rfl rfl (Nat.le_of_ble_eq_true rfl) ⟨by decide, by decide⟩ dX6_takeWhole_4 (aI0 (F := fun st M => P g X 3 7 [(0, .ref a0), (1, .int x1), (2, .int x2)] st _ _ M) (M := (K, len, I, J, R)) fun x2_ h2 => ?_)
  obtain ⟨k2_0, k2_1⟩ := h2
  show P g X 3 7 [(0, .ref a0), (1, .int x1), (2, .int x2)] [.int x2_] _ _ (K, len, I, J, R)
  refine r_if_ne hC (tgt := 16) dX6_takeWhole_7 (by decide) (fun c3 => ?_) (fun c3 => ?_)
  · refine r_aload_n hC dX6_takeWhole_16 0 rfl ?_
    refine r_getr hC 0 (ci := 6) rfl u6_in (by decide) mT_1_81 dX6_takeWhole_17 ka0 rfl rfl hb1 ?_
    refine r_getj hC 5 (ci := 7) rfl u7_in (by decide) mT_1_66 dX6_takeWhole_20 hk1 rfl rfl (fun y4_ e4 => ?_)
    refine r_iload_n hC dX6_takeWhole_23 1 rfl ?_
    refine r_i2l hC dX6_takeWhole_24 (fun y5_ e5 => ?_)
    refine r_lcmp hC dX6_takeWhole_25 (fun x6_ e6 => ?_)
    have qa : 0 ≤ x6_.toInt → x1.toInt ≤ (J a1_ 5).toInt := by intro h9; subst_vars; have h8 := lgc_ge h9; rwa [Int32.toInt_toInt64] at h8
    refine r_if_lt hC (tgt := 42) dX6_takeWhole_26 (by decide) (fun c7 => ?_) (fun c7 => ?_)
    · refine r_aload_n hC dX6_takeWhole_42 0 rfl ?_
      refine r_iconst hC (v := (4)) dX6_takeWhole_43 (by decide) (by decide) (fun x8_ e8 t8 => ?_)
      refine r_callV hC (As := [.int x8_]) (rest := []) (ci := 6) (c_X6_faulty g (xL X) K len I J R hs a0 ka0 x8_) mT_2_233 mT_1_3 mT_2_230 mT_2_232 mP_5 okX6_faulty ⟨by decide, by decide⟩ rfl (by show kO (K a0) = _; rw [ka0]; rfl) rfl rfl (Nat.le_of_ble_eq_true rfl) ⟨by decide, by decide⟩ dX6_takeWhole_44 (aI1 (F := fun st M => P g X 3 47 [(0, .ref a0), (1, .int x1), (2, .int x2)] st _ _ M) (M := (K, len, I, J, R)) fun x9_ I9 h9 => ?_)
      obtain ⟨hs9, hf9, k9_0⟩ := h9
      show P g X 3 47 [(0, .ref a0), (1, .int x1), (2, .int x2)] [.int x9_] _ _ (K, len, I9, J, R)
      have hF9 : Fr K [(7, 4), (7, 5), (7, 6), (8, 2), (8, 3), (8, 4)] I I9 := hF.trans hf9 rfl rfl
      exact r_iret hC hQ hlk hr (nz_b (by omega) (by omega)) (by decide) (by decide) dX6_takeWhole_47 ⟨_, _, _, rfl, rfl, ⟨hs9, hF9, hFJ, (by omega), (by omega), (by first | (intro h9; exfalso; omega) | (intro h9; rw [hv]; omega))⟩⟩
    · refine r_aload_n hC dX6_takeWhole_29 0 rfl ?_
      refine r_getr hC 0 (ci := 6) rfl u6_in (by decide) mT_1_81 dX6_takeWhole_30 ka0 rfl rfl hb1 ?_
      refine r_getj hC 5 (ci := 7) rfl u7_in (by decide) mT_1_66 dX6_takeWhole_33 hk1 rfl rfl (fun y10_ e10 => ?_)
      refine r_iload_n hC dX6_takeWhole_36 2 rfl ?_
      refine r_i2l hC dX6_takeWhole_37 (fun y11_ e11 => ?_)
      refine r_lcmp hC dX6_takeWhole_38 (fun x12_ e12 => ?_)
      have qb : x12_.toInt ≤ 0 → (J a1_ 5).toInt ≤ x2.toInt := by intro h9; subst_vars; have h8 := lgc_le h9; rwa [Int32.toInt_toInt64] at h8
      refine r_if_le hC (tgt := 48) dX6_takeWhole_39 (by decide) (fun c13 => ?_) (fun c13 => ?_)
      · refine r_aload_n hC dX6_takeWhole_48 0 rfl ?_
        refine r_aload_n hC dX6_takeWhole_49 0 rfl ?_
        refine r_getr hC 0 (ci := 6) rfl u6_in (by decide) mT_1_81 dX6_takeWhole_50 ka0 rfl rfl hb1 ?_
        refine r_getj hC 5 (ci := 7) rfl u7_in (by decide) mT_1_66 dX6_takeWhole_53 hk1 rfl rfl (fun y14_ e14 => ?_)
        refine r_l2i hC dX6_takeWhole_56 (fun x15_ e15 => ?_)
        have h1 : x1.toInt ≤ (J a1_ 5).toInt := by omega
        have h2 : (J a1_ 5).toInt ≤ x2.toInt := by omega
        have qc : x15_.toInt = (J a1_ 5).toInt := by subst_vars; exact l2i_in (by omega) (by omega)
        refine r_puti hC 4 (ci := 6) rfl u6_in tyX6_ok nmX6 (by decide) mT_1_85 rfl rfl rfl dX6_takeWhole_57 ka0 rfl rfl (fun I16 eI16 => ?_)
        have hs16 := hs.put0 eI16 ka0 rfl rfl rfl (by decide)
        have hF16 := hF.put eI16 ka0 rfl
        refine r_aload_n hC dX6_takeWhole_60 0 rfl ?_
        refine r_getr hC 0 (ci := 6) rfl u6_in (by decide) mT_1_81 dX6_takeWhole_61 ka0 rfl rfl hb1 ?_
        refine r_callV hC (As := []) (rest := []) (ci := 7) (c_X7_next g (xL X) K len I16 J R hs16 a1_ hk1) mT_2_159 mT_1_4 mT_2_234 mT_2_157 mT_2_158 okX7_next ⟨by decide, by decide⟩ rfl (by show kO (K a1_) = _; rw [hk1]; rfl) rfl rfl (Nat.le_of_ble_eq_true rfl) ⟨by decide, by decide⟩ dX6_takeWhole_64 (aV2 (F := fun st M => P g X 3 67 [(0, .ref a0), (1, .int x1), (2, .int x2)] st _ _ M) (M := (K, len, I16, J, R)) fun I17 J17 h17 => ?_)
        obtain ⟨hs17, hf17, hfj17⟩ := h17
        show P g X 3 67 [(0, .ref a0), (1, .int x1), (2, .int x2)] [] _ _ (K, len, I17, J17, R)
        have hF17 : Fr K [(7, 4), (7, 5), (7, 6), (8, 2), (8, 3), (8, 4)] I I17 := hF16.trans hf17 rfl rfl
        have hFJ17 : Fr K [(8, 5)] J J17 := hFJ.trans hfj17 rfl rfl
        refine r_iconst hC (v := (1)) dX6_takeWhole_67 (by decide) (by decide) (fun x18_ e18 t18 => ?_)
        have hv : I17 a0 4 = x15_ := (Eq.trans (hf17.get ka0 rfl) (by rw [eI16]; exact up2_self _ _ _ _))
        have hvt : (I17 a0 4).toInt = x15_.toInt := congrArg Int32.toInt hv
        exact r_iret hC hQ hlk hr (by rw [e18]; rfl) (by decide) (by decide) dX6_takeWhole_68 ⟨_, _, _, rfl, rfl, ⟨hs17, hF17, hFJ17, (by omega), (by omega), (by first | (intro h9; exfalso; omega) | (intro h9; rw [hv]; omega))⟩⟩
      · refine r_aload_n hC dX6_takeWhole_42 0 rfl ?_
        refine r_iconst hC (v := (4)) dX6_takeWhole_43 (by decide) (by decide) (fun x19_ e19 t19 => ?_)
        refine r_callV hC (As := [.int x19_]) (rest := []) (ci := 6) (c_X6_faulty g (xL X) K len I J R hs a0 ka0 x19_) mT_2_233 mT_1_3 mT_2_230 mT_2_232 mP_5 okX6_faulty ⟨by decide, by decide⟩ rfl (by show kO (K a0) = _; rw [ka0]; rfl) rfl rfl (Nat.le_of_ble_eq_true rfl) ⟨by decide, by decide⟩ dX6_takeWhole_44 (aI1 (F := fun st M => P g X 3 47 [(0, .ref a0), (1, .int x1), (2, .int x2)] st _ _ M) (M := (K, len, I, J, R)) fun x20_ I20 h20 => ?_)
        obtain ⟨hs20, hf20, k20_0⟩ := h20
        show P g X 3 47 [(0, .ref a0), (1, .int x1), (2, .int x2)] [.int x20_] _ _ (K, len, I20, J, R)
        have hF20 : Fr K [(7, 4), (7, 5), (7, 6), (8, 2), (8, 3), (8, 4)] I I20 := hF.trans hf20 rfl rfl
        exact r_iret hC hQ hlk hr (nz_b (by omega) (by omega)) (by decide) (by decide) dX6_takeWhole_47 ⟨_, _, _, rfl, rfl, ⟨hs20, hF20, hFJ, (by omega), (by omega), (by first | (intro h9; exfalso; omega) | (intro h9; rw [hv]; omega))⟩⟩
  · refine r_aload_n hC dX6_takeWhole_10 0 rfl ?_
    refine r_iconst hC (v := (1)) dX6_takeWhole_11 (by decide) (by decide) (fun x21_ e21 t21 => ?_)
    refine r_callV hC (As := [.int x21_]) (rest := []) (ci := 6) (c_X6_faulty g (xL X) K len I J R hs a0 ka0 x21_) mT_2_233 mT_1_3 mT_2_230 mT_2_232 mP_5 okX6_faulty ⟨by decide, by decide⟩ rfl (by show kO (K a0) = _; rw [ka0]; rfl) rfl rfl (Nat.le_of_ble_eq_true rfl) ⟨by decide, by decide⟩ dX6_takeWhole_12 (aI1 (F := fun st M => P g X 3 15 [(0, .ref a0), (1, .int x1), (2, .int x2)] st _ _ M) (M := (K, len, I, J, R)) fun x22_ I22 h22 => ?_)
    obtain ⟨hs22, hf22, k22_0⟩ := h22
    show P g X 3 15 [(0, .ref a0), (1, .int x1), (2, .int x2)] [.int x22_] _ _ (K, len, I22, J, R)
    have hF22 : Fr K [(7, 4), (7, 5), (7, 6), (8, 2), (8, 3), (8, 4)] I I22 := hF.trans hf22 rfl rfl
    exact r_iret hC hQ hlk hr (nz_b (by omega) (by omega)) (by decide) (by decide) dX6_takeWhole_15 ⟨_, _, _, rfl, rfl, ⟨hs22, hF22, hFJ, (by omega), (by omega), (by first | (intro h9; exfalso; omega) | (intro h9; rw [hv]; omega))⟩⟩
set_option maxHeartbeats 4000000 in
set_option maxRecDepth 100000 in
theorem c_X6_takeNumber (g : GG) (l : Launch) (K len : Nat → Nat) (I : Nat → Nat → Int32) (J : Nat → Nat → Int64) (R : Nat → Nat → Option Nat) (hs : Sf K len I R) (a0 : Nat) (ka0 : K a0 = 7) (i1 : Nat) (pi1 : i1 < 60) (x2 : Int32) (x3 : Int32) : Ct g l yX6_takeNumber cX6_takeNumber 4 (Option.some Jvm.ClassFile.FieldType.boolean) rmX6_takeNumber [.ref a0, .ref (g.2.2.1 i1), .int x2, .int x3] (K, len, I, J, R) (pI2 (K, len, I, J, R) (fun r I' J' => Sf K len I' R ∧ Fr K [(7, 4), (7, 5), (7, 6), (8, 2), (8, 3), (8, 4)] I I' ∧ Fr K [(8, 5)] J J' ∧ (0 ≤ r.toInt) ∧ (r.toInt ≤ 1) ∧ (r.toInt ≠ 0 → x2.toInt ≤ (I' a0 4).toInt ∧ (I' a0 4).toInt ≤ x3.toInt))) := by
  refine Ct_intro (by decide +kernel) (Nat.le_of_ble_eq_true rfl) (fun X hC hL hKK hNm hr hlk hQ => ?_)
  subst hL
  have hC : Cx g X cX6_takeNumber "HillTap$Teller" 4 rmX6_takeNumber := hC
  show P g X 4 0 [(0, .ref a0), (1, .ref (g.2.2.1 i1)), (2, .int x2), (3, .int x3)] [] 0 0 (K, len, I, J, R)
  have hF : Fr K [(7, 4), (7, 5), (7, 6), (8, 2), (8, 3), (8, 4)] I I := Fr.refl
  have hFJ : Fr K [(8, 5)] J J := Fr.refl
  have b_x2 := ti_rng x2
  have b_x3 := ti_rng x3
  refine r_aload_n hC dX6_takeNumber_0 0 rfl ?_
  obtain ⟨a1_, hb1, hk1⟩ := hs.obj ka0 0 8 (by decide)
  refine r_getr hC 0 (ci := 6) rfl u6_in (by decide) mT_1_81 dX6_takeNumber_1 ka0 rfl rfl hb1 ?_
  refine r_aload_n hC dX6_takeNumber_4 1 rfl ?_
  refine r_callV hC (As := [.ref (g.2.2.1 i1)]) (rest := []) (ci := 7) (c_X7_isWord g (xL X) K len I J R hs a1_ hk1 i1 pi1) mT_2_177 mT_1_4 mT_2_174 mT_2_175 mT_2_176 okX7_isWord ⟨by decide, by decide⟩ rfl (by show kO (K a1_) = _; rw [hk1]; rfl) rfl rfl (Nat.le_of_ble_eq_true rfl) ⟨by decide, by decide⟩ dX6_takeNumber_5 (aI0 (F := fun st M => P g X 4 8 [(0, .ref a0), (1, .ref (g.2.2.1 i1)), (2, .int x2), (3, .int x3)] st _ _ M) (M := (K, len, I, J, R)) fun x2_ h2 => ?_)
  obtain ⟨k2_0, k2_1⟩ := h2
  show P g X 4 8 [(0, .ref a0), (1, .ref (g.2.2.1 i1)), (2, .int x2), (3, .int x3)] [.int x2_] _ _ (K, len, I, J, R)
  refine r_if_ne hC (tgt := 17) dX6_takeNumber_8 (by decide) (fun c3 => ?_) (fun c3 => ?_)
  · refine r_aload_n hC dX6_takeNumber_17 0 rfl ?_
    refine r_getr hC 0 (ci := 6) rfl u6_in (by decide) mT_1_81 dX6_takeNumber_18 ka0 rfl rfl hb1 ?_
    refine r_callV hC (As := []) (rest := []) (ci := 7) (c_X7_next g (xL X) K len I J R hs a1_ hk1) mT_2_159 mT_1_4 mT_2_234 mT_2_157 mT_2_158 okX7_next ⟨by decide, by decide⟩ rfl (by show kO (K a1_) = _; rw [hk1]; rfl) rfl rfl (Nat.le_of_ble_eq_true rfl) ⟨by decide, by decide⟩ dX6_takeNumber_21 (aV2 (F := fun st M => P g X 4 24 [(0, .ref a0), (1, .ref (g.2.2.1 i1)), (2, .int x2), (3, .int x3)] st _ _ M) (M := (K, len, I, J, R)) fun I4 J4 h4 => ?_)
    obtain ⟨hs4, hf4, hfj4⟩ := h4
    show P g X 4 24 [(0, .ref a0), (1, .ref (g.2.2.1 i1)), (2, .int x2), (3, .int x3)] [] _ _ (K, len, I4, J4, R)
    have hF4 : Fr K [(7, 4), (7, 5), (7, 6), (8, 2), (8, 3), (8, 4)] I I4 := hF.trans hf4 rfl rfl
    have hFJ4 : Fr K [(8, 5)] J J4 := hFJ.trans hfj4 rfl rfl
    refine r_aload_n hC dX6_takeNumber_24 0 rfl ?_
    refine r_iload_n hC dX6_takeNumber_25 2 rfl ?_
    refine r_iload_n hC dX6_takeNumber_26 3 rfl ?_
    refine r_callV hC (As := [.int x2, .int x3]) (rest := []) (ci := 6) (c_X6_takeWhole g (xL X) K len I4 J4 R hs4 a0 ka0 x2 x3) mT_3_3 mT_1_3 mT_3_0 mT_3_2 mP_7 okX6_takeWhole ⟨by decide, by decide⟩ rfl (by show kO (K a0) = _; rw [ka0]; rfl) rfl rfl (Nat.le_of_ble_eq_true rfl) ⟨by decide, by decide⟩ dX6_takeNumber_27 (aI2 (F := fun st M => P g X 4 30 [(0, .ref a0), (1, .ref (g.2.2.1 i1)), (2, .int x2), (3, .int x3)] st _ _ M) (M := (K, len, I4, J4, R)) fun x5_ I5 J5 h5 => ?_)
    obtain ⟨hs5, hf5, hfj5, k5_0, k5_1, k5_2⟩ := h5
    show P g X 4 30 [(0, .ref a0), (1, .ref (g.2.2.1 i1)), (2, .int x2), (3, .int x3)] [.int x5_] _ _ (K, len, I5, J5, R)
    have hF5 : Fr K [(7, 4), (7, 5), (7, 6), (8, 2), (8, 3), (8, 4)] I I5 := hF4.trans hf5 rfl rfl
    have hFJ5 : Fr K [(8, 5)] J J5 := hFJ4.trans hfj5 rfl rfl
    exact r_iret hC hQ hlk hr (nz_b (by omega) (by omega)) (by decide) (by decide) dX6_takeNumber_30 ⟨_, _, _, rfl, rfl, ⟨hs5, hF5, hFJ5, (by omega), (by omega), (by first | assumption | (intro h9; exfalso; omega))⟩⟩
  · refine r_aload_n hC dX6_takeNumber_11 0 rfl ?_
    refine r_iconst hC (v := (1)) dX6_takeNumber_12 (by decide) (by decide) (fun x6_ e6 t6 => ?_)
    refine r_callV hC (As := [.int x6_]) (rest := []) (ci := 6) (c_X6_faulty g (xL X) K len I J R hs a0 ka0 x6_) mT_2_233 mT_1_3 mT_2_230 mT_2_232 mP_5 okX6_faulty ⟨by decide, by decide⟩ rfl (by show kO (K a0) = _; rw [ka0]; rfl) rfl rfl (Nat.le_of_ble_eq_true rfl) ⟨by decide, by decide⟩ dX6_takeNumber_13 (aI1 (F := fun st M => P g X 4 16 [(0, .ref a0), (1, .ref (g.2.2.1 i1)), (2, .int x2), (3, .int x3)] st _ _ M) (M := (K, len, I, J, R)) fun x7_ I7 h7 => ?_)
    obtain ⟨hs7, hf7, k7_0⟩ := h7
    show P g X 4 16 [(0, .ref a0), (1, .ref (g.2.2.1 i1)), (2, .int x2), (3, .int x3)] [.int x7_] _ _ (K, len, I7, J, R)
    have hF7 : Fr K [(7, 4), (7, 5), (7, 6), (8, 2), (8, 3), (8, 4)] I I7 := hF.trans hf7 rfl rfl
    exact r_iret hC hQ hlk hr (nz_b (by omega) (by omega)) (by decide) (by decide) dX6_takeNumber_16 ⟨_, _, _, rfl, rfl, ⟨hs7, hF7, hFJ, (by omega), (by omega), (by first | assumption | (intro h9; exfalso; omega))⟩⟩
set_option maxHeartbeats 4000000 in
set_option maxRecDepth 100000 in
theorem c_X6_isName (g : GG) (l : Launch) (K len : Nat → Nat) (I : Nat → Nat → Int32) (J : Nat → Nat → Int64) (R : Nat → Nat → Option Nat) (hs : Sf K len I R) (a0 : Nat) (ka0 : K a0 = 7) : Ct g l yX6_isName cX6_isName 1 (Option.some Jvm.ClassFile.FieldType.boolean) rmX6_isName [.ref a0] (K, len, I, J, R) (pI0 (K, len, I, J, R) (fun r => (0 ≤ r.toInt) ∧ (r.toInt ≤ 1))) := by
  refine Ct_intro (by decide +kernel) (Nat.le_of_ble_eq_true rfl) (fun X hC hL hKK hNm hr hlk hQ => ?_)
  subst hL
  have hC : Cx g X cX6_isName "HillTap$Teller" 1 rmX6_isName := hC
  show P g X 1 0 [(0, .ref a0)] [] 0 0 (K, len, I, J, R)
  have hF : Fr K [] I I := Fr.refl
  refine r_aload_n hC dX6_isName_0 0 rfl ?_
  obtain ⟨a1_, hb1, hk1⟩ := hs.obj ka0 0 8 (by decide)
  refine r_getr hC 0 (ci := 6) rfl u6_in (by decide) mT_1_81 dX6_isName_1 ka0 rfl rfl hb1 ?_
  refine r_callV hC (As := []) (rest := []) (ci := 7) (c_X7_isAnyWord g (xL X) K len I J R hs a1_ hk1) mT_3_29 mT_1_4 mT_3_26 mT_3_27 mT_3_28 okX7_isAnyWord ⟨by decide, by decide⟩ rfl (by show kO (K a1_) = _; rw [hk1]; rfl) rfl rfl (Nat.le_of_ble_eq_true rfl) ⟨by decide, by decide⟩ dX6_isName_4 (aI0 (F := fun st M => P g X 1 7 [(0, .ref a0)] st _ _ M) (M := (K, len, I, J, R)) fun x2_ h2 => ?_)
  obtain ⟨k2_0, k2_1⟩ := h2
  show P g X 1 7 [(0, .ref a0)] [.int x2_] _ _ (K, len, I, J, R)
  refine r_if_eq hC (tgt := 98) dX6_isName_7 (by decide) (fun c3 => ?_) (fun c3 => ?_)
  · refine r_iconst hC (v := (0)) dX6_isName_98 (by decide) (by decide) (fun x4_ e4 t4 => ?_)
    exact r_iret hC hQ hlk hr (by rw [e4]; rfl) (by decide) (by decide) dX6_isName_99 ⟨_, rfl, rfl, ⟨(by omega), (by omega)⟩⟩
  · refine r_aload_n hC dX6_isName_10 0 rfl ?_
    refine r_getr hC 0 (ci := 6) rfl u6_in (by decide) mT_1_81 dX6_isName_11 ka0 rfl rfl hb1 ?_
    refine r_ldcS hC (i := 0) (by decide) rfl rfl dX6_isName_14 ?_
    refine r_callV hC (As := [.ref (g.2.2.1 0)]) (rest := []) (ci := 7) (c_X7_isWord g (xL X) K len I J R hs a1_ hk1 0 (by decide)) mT_2_177 mT_1_4 mT_2_174 mT_2_175 mT_2_176 okX7_isWord ⟨by decide, by decide⟩ rfl (by show kO (K a1_) = _; rw [hk1]; rfl) rfl rfl (Nat.le_of_ble_eq_true rfl) ⟨by decide, by decide⟩ dX6_isName_16 (aI0 (F := fun st M => P g X 1 19 [(0, .ref a0)] st _ _ M) (M := (K, len, I, J, R)) fun x5_ h5 => ?_)
    obtain ⟨k5_0, k5_1⟩ := h5
    show P g X 1 19 [(0, .ref a0)] [.int x5_] _ _ (K, len, I, J, R)
    refine r_if_ne hC (tgt := 98) dX6_isName_19 (by decide) (fun c6 => ?_) (fun c6 => ?_)
    · refine r_iconst hC (v := (0)) dX6_isName_98 (by decide) (by decide) (fun x7_ e7 t7 => ?_)
      exact r_iret hC hQ hlk hr (by rw [e7]; rfl) (by decide) (by decide) dX6_isName_99 ⟨_, rfl, rfl, ⟨(by omega), (by omega)⟩⟩
    · refine r_aload_n hC dX6_isName_22 0 rfl ?_
      refine r_getr hC 0 (ci := 6) rfl u6_in (by decide) mT_1_81 dX6_isName_23 ka0 rfl rfl hb1 ?_
      refine r_ldcS hC (i := 4) (by decide) rfl rfl dX6_isName_26 ?_
      refine r_callV hC (As := [.ref (g.2.2.1 4)]) (rest := []) (ci := 7) (c_X7_isWord g (xL X) K len I J R hs a1_ hk1 4 (by decide)) mT_2_177 mT_1_4 mT_2_174 mT_2_175 mT_2_176 okX7_isWord ⟨by decide, by decide⟩ rfl (by show kO (K a1_) = _; rw [hk1]; rfl) rfl rfl (Nat.le_of_ble_eq_true rfl) ⟨by decide, by decide⟩ dX6_isName_28 (aI0 (F := fun st M => P g X 1 31 [(0, .ref a0)] st _ _ M) (M := (K, len, I, J, R)) fun x8_ h8 => ?_)
      obtain ⟨k8_0, k8_1⟩ := h8
      show P g X 1 31 [(0, .ref a0)] [.int x8_] _ _ (K, len, I, J, R)
      refine r_if_ne hC (tgt := 98) dX6_isName_31 (by decide) (fun c9 => ?_) (fun c9 => ?_)
      · refine r_iconst hC (v := (0)) dX6_isName_98 (by decide) (by decide) (fun x10_ e10 t10 => ?_)
        exact r_iret hC hQ hlk hr (by rw [e10]; rfl) (by decide) (by decide) dX6_isName_99 ⟨_, rfl, rfl, ⟨(by omega), (by omega)⟩⟩
      · refine r_aload_n hC dX6_isName_34 0 rfl ?_
        refine r_getr hC 0 (ci := 6) rfl u6_in (by decide) mT_1_81 dX6_isName_35 ka0 rfl rfl hb1 ?_
        refine r_ldcS hC (i := 5) (by decide) rfl rfl dX6_isName_38 ?_
        refine r_callV hC (As := [.ref (g.2.2.1 5)]) (rest := []) (ci := 7) (c_X7_isWord g (xL X) K len I J R hs a1_ hk1 5 (by decide)) mT_2_177 mT_1_4 mT_2_174 mT_2_175 mT_2_176 okX7_isWord ⟨by decide, by decide⟩ rfl (by show kO (K a1_) = _; rw [hk1]; rfl) rfl rfl (Nat.le_of_ble_eq_true rfl) ⟨by decide, by decide⟩ dX6_isName_40 (aI0 (F := fun st M => P g X 1 43 [(0, .ref a0)] st _ _ M) (M := (K, len, I, J, R)) fun x11_ h11 => ?_)
        obtain ⟨k11_0, k11_1⟩ := h11
        show P g X 1 43 [(0, .ref a0)] [.int x11_] _ _ (K, len, I, J, R)
        refine r_if_ne hC (tgt := 98) dX6_isName_43 (by decide) (fun c12 => ?_) (fun c12 => ?_)
        · refine r_iconst hC (v := (0)) dX6_isName_98 (by decide) (by decide) (fun x13_ e13 t13 => ?_)
          exact r_iret hC hQ hlk hr (by rw [e13]; rfl) (by decide) (by decide) dX6_isName_99 ⟨_, rfl, rfl, ⟨(by omega), (by omega)⟩⟩
        · refine r_aload_n hC dX6_isName_46 0 rfl ?_
          refine r_getr hC 0 (ci := 6) rfl u6_in (by decide) mT_1_81 dX6_isName_47 ka0 rfl rfl hb1 ?_
          refine r_ldcS hC (i := 6) (by decide) rfl rfl dX6_isName_50 ?_
          refine r_callV hC (As := [.ref (g.2.2.1 6)]) (rest := []) (ci := 7) (c_X7_isWord g (xL X) K len I J R hs a1_ hk1 6 (by decide)) mT_2_177 mT_1_4 mT_2_174 mT_2_175 mT_2_176 okX7_isWord ⟨by decide, by decide⟩ rfl (by show kO (K a1_) = _; rw [hk1]; rfl) rfl rfl (Nat.le_of_ble_eq_true rfl) ⟨by decide, by decide⟩ dX6_isName_52 (aI0 (F := fun st M => P g X 1 55 [(0, .ref a0)] st _ _ M) (M := (K, len, I, J, R)) fun x14_ h14 => ?_)
          obtain ⟨k14_0, k14_1⟩ := h14
          show P g X 1 55 [(0, .ref a0)] [.int x14_] _ _ (K, len, I, J, R)
          refine r_if_ne hC (tgt := 98) dX6_isName_55 (by decide) (fun c15 => ?_) (fun c15 => ?_)
          · refine r_iconst hC (v := (0)) dX6_isName_98 (by decide) (by decide) (fun x16_ e16 t16 => ?_)
            exact r_iret hC hQ hlk hr (by rw [e16]; rfl) (by decide) (by decide) dX6_isName_99 ⟨_, rfl, rfl, ⟨(by omega), (by omega)⟩⟩
          · refine r_aload_n hC dX6_isName_58 0 rfl ?_
            refine r_getr hC 0 (ci := 6) rfl u6_in (by decide) mT_1_81 dX6_isName_59 ka0 rfl rfl hb1 ?_
            refine r_ldcS hC (i := 7) (by decide) rfl rfl dX6_isName_62 ?_
            refine r_callV hC (As := [.ref (g.2.2.1 7)]) (rest := []) (ci := 7) (c_X7_isWord g (xL X) K len I J R hs a1_ hk1 7 (by decide)) mT_2_177 mT_1_4 mT_2_174 mT_2_175 mT_2_176 okX7_isWord ⟨by decide, by decide⟩ rfl (by show kO (K a1_) = _; rw [hk1]; rfl) rfl rfl (Nat.le_of_ble_eq_true rfl) ⟨by decide, by decide⟩ dX6_isName_64 (aI0 (F := fun st M => P g X 1 67 [(0, .ref a0)] st _ _ M) (M := (K, len, I, J, R)) fun x17_ h17 => ?_)
            obtain ⟨k17_0, k17_1⟩ := h17
            show P g X 1 67 [(0, .ref a0)] [.int x17_] _ _ (K, len, I, J, R)
            refine r_if_ne hC (tgt := 98) dX6_isName_67 (by decide) (fun c18 => ?_) (fun c18 => ?_)
            · refine r_iconst hC (v := (0)) dX6_isName_98 (by decide) (by decide) (fun x19_ e19 t19 => ?_)
              exact r_iret hC hQ hlk hr (by rw [e19]; rfl) (by decide) (by decide) dX6_isName_99 ⟨_, rfl, rfl, ⟨(by omega), (by omega)⟩⟩
            · refine r_aload_n hC dX6_isName_70 0 rfl ?_
              refine r_getr hC 0 (ci := 6) rfl u6_in (by decide) mT_1_81 dX6_isName_71 ka0 rfl rfl hb1 ?_
              refine r_ldcS hC (i := 8) (by decide) rfl rfl dX6_isName_74 ?_
              refine r_callV hC (As := [.ref (g.2.2.1 8)]) (rest := []) (ci := 7) (c_X7_isWord g (xL X) K len I J R hs a1_ hk1 8 (by decide)) mT_2_177 mT_1_4 mT_2_174 mT_2_175 mT_2_176 okX7_isWord ⟨by decide, by decide⟩ rfl (by show kO (K a1_) = _; rw [hk1]; rfl) rfl rfl (Nat.le_of_ble_eq_true rfl) ⟨by decide, by decide⟩ dX6_isName_76 (aI0 (F := fun st M => P g X 1 79 [(0, .ref a0)] st _ _ M) (M := (K, len, I, J, R)) fun x20_ h20 => ?_)
              obtain ⟨k20_0, k20_1⟩ := h20
              show P g X 1 79 [(0, .ref a0)] [.int x20_] _ _ (K, len, I, J, R)
              refine r_if_ne hC (tgt := 98) dX6_isName_79 (by decide) (fun c21 => ?_) (fun c21 => ?_)
              · refine r_iconst hC (v := (0)) dX6_isName_98 (by decide) (by decide) (fun x22_ e22 t22 => ?_)
                exact r_iret hC hQ hlk hr (by rw [e22]; rfl) (by decide) (by decide) dX6_isName_99 ⟨_, rfl, rfl, ⟨(by omega), (by omega)⟩⟩
              · refine r_aload_n hC dX6_isName_82 0 rfl ?_
                refine r_getr hC 0 (ci := 6) rfl u6_in (by decide) mT_1_81 dX6_isName_83 ka0 rfl rfl hb1 ?_
                refine r_ldcS hC (i := 9) (by decide) rfl rfl dX6_isName_86 ?_
                refine r_callV hC (As := [.ref (g.2.2.1 9)]) (rest := []) (ci := 7) (c_X7_isWord g (xL X) K len I J R hs a1_ hk1 9 (by decide)) mT_2_177 mT_1_4 mT_2_174 mT_2_175 mT_2_176 okX7_isWord ⟨by decide, by decide⟩ rfl (by show kO (K a1_) = _; rw [hk1]; rfl) rfl rfl (Nat.le_of_ble_eq_true rfl) ⟨by decide, by decide⟩ dX6_isName_88 (aI0 (F := fun st M => P g X 1 91 [(0, .ref a0)] st _ _ M) (M := (K, len, I, J, R)) fun x23_ h23 => ?_)
                obtain ⟨k23_0, k23_1⟩ := h23
                show P g X 1 91 [(0, .ref a0)] [.int x23_] _ _ (K, len, I, J, R)
                refine r_if_ne hC (tgt := 98) dX6_isName_91 (by decide) (fun c24 => ?_) (fun c24 => ?_)
                · refine r_iconst hC (v := (0)) dX6_isName_98 (by decide) (by decide) (fun x25_ e25 t25 => ?_)
                  exact r_iret hC hQ hlk hr (by rw [e25]; rfl) (by decide) (by decide) dX6_isName_99 ⟨_, rfl, rfl, ⟨(by omega), (by omega)⟩⟩
                · refine r_iconst hC (v := (1)) dX6_isName_94 (by decide) (by decide) (fun x26_ e26 t26 => ?_)
                  refine r_goto hC (tgt := 99) dX6_isName_95 (by decide) ?_
                  exact r_iret hC hQ hlk hr (by rw [e26]; rfl) (by decide) (by decide) dX6_isName_99 ⟨_, rfl, rfl, ⟨(by omega), (by omega)⟩⟩
set_option maxHeartbeats 4000000 in
set_option maxRecDepth 100000 in
theorem c_X6_kindHere (g : GG) (l : Launch) (K len : Nat → Nat) (I : Nat → Nat → Int32) (J : Nat → Nat → Int64) (R : Nat → Nat → Option Nat) (hs : Sf K len I R) (a0 : Nat) (ka0 : K a0 = 7) : Ct g l yX6_kindHere cX6_kindHere 1 (Option.some Jvm.ClassFile.FieldType.int) rmX6_kindHere [.ref a0] (K, len, I, J, R) (pI0 (K, len, I, J, R) (fun r => True)) := by
  refine Ct_intro (by decide +kernel) (Nat.le_of_ble_eq_true rfl) (fun X hC hL hKK hNm hr hlk hQ => ?_)
  subst hL
  have hC : Cx g X cX6_kindHere "HillTap$Teller" 1 rmX6_kindHere := hC
  show P g X 1 0 [(0, .ref a0)] [] 0 0 (K, len, I, J, R)
  have hF : Fr K [] I I := Fr.refl
  refine r_aload_n hC dX6_kindHere_0 0 rfl ?_
  obtain ⟨a1_, hb1, hk1⟩ := hs.obj ka0 0 8 (by decide)
  refine r_getr hC 0 (ci := 6) rfl u6_in (by decide) mT_1_81 dX6_kindHere_1 ka0 rfl rfl hb1 ?_
  refine r_ldcS hC (i := 15) (by decide) rfl rfl dX6_kindHere_4 ?_
  refine r_callV hC (As := [.ref (g.2.2.1 15)]) (rest := []) (ci := 7) (c_X7_isWord g (xL X) K len I J R hs a1_ hk1 15 (by decide)) mT_2_177 mT_1_4 mT_2_174 mT_2_175 mT_2_176 okX7_isWord ⟨by decide, by decide⟩ rfl (by show kO (K a1_) = _; rw [hk1]; rfl) rfl rfl (Nat.le_of_ble_eq_true rfl) ⟨by decide, by decide⟩ dX6_kindHere_6 (aI0 (F := fun st M => P g X 1 9 [(0, .ref a0)] st _ _ M) (M := (K, len, I, J, R)) fun x2_ h2 => ?_)
  obtain ⟨k2_0, k2_1⟩ := h2
  show P g X 1 9 [(0, .ref a0)] [.int x2_] _ _ (K, len, I, J, R)
  refine r_if_eq hC (tgt := 14) dX6_kindHere_9 (by decide) (fun c3 => ?_) (fun c3 => ?_)
  · refine r_aload_n hC dX6_kindHere_14 0 rfl ?_
    refine r_getr hC 0 (ci := 6) rfl u6_in (by decide) mT_1_81 dX6_kindHere_15 ka0 rfl rfl hb1 ?_
    refine r_ldcS hC (i := 16) (by decide) rfl rfl dX6_kindHere_18 ?_
    refine r_callV hC (As := [.ref (g.2.2.1 16)]) (rest := []) (ci := 7) (c_X7_isWord g (xL X) K len I J R hs a1_ hk1 16 (by decide)) mT_2_177 mT_1_4 mT_2_174 mT_2_175 mT_2_176 okX7_isWord ⟨by decide, by decide⟩ rfl (by show kO (K a1_) = _; rw [hk1]; rfl) rfl rfl (Nat.le_of_ble_eq_true rfl) ⟨by decide, by decide⟩ dX6_kindHere_20 (aI0 (F := fun st M => P g X 1 23 [(0, .ref a0)] st _ _ M) (M := (K, len, I, J, R)) fun x4_ h4 => ?_)
    obtain ⟨k4_0, k4_1⟩ := h4
    show P g X 1 23 [(0, .ref a0)] [.int x4_] _ _ (K, len, I, J, R)
    refine r_if_eq hC (tgt := 28) dX6_kindHere_23 (by decide) (fun c5 => ?_) (fun c5 => ?_)
    · refine r_aload_n hC dX6_kindHere_28 0 rfl ?_
      refine r_getr hC 0 (ci := 6) rfl u6_in (by decide) mT_1_81 dX6_kindHere_29 ka0 rfl rfl hb1 ?_
      refine r_ldcS hC (i := 17) (by decide) rfl rfl dX6_kindHere_32 ?_
      refine r_callV hC (As := [.ref (g.2.2.1 17)]) (rest := []) (ci := 7) (c_X7_isWord g (xL X) K len I J R hs a1_ hk1 17 (by decide)) mT_2_177 mT_1_4 mT_2_174 mT_2_175 mT_2_176 okX7_isWord ⟨by decide, by decide⟩ rfl (by show kO (K a1_) = _; rw [hk1]; rfl) rfl rfl (Nat.le_of_ble_eq_true rfl) ⟨by decide, by decide⟩ dX6_kindHere_34 (aI0 (F := fun st M => P g X 1 37 [(0, .ref a0)] st _ _ M) (M := (K, len, I, J, R)) fun x6_ h6 => ?_)
      obtain ⟨k6_0, k6_1⟩ := h6
      show P g X 1 37 [(0, .ref a0)] [.int x6_] _ _ (K, len, I, J, R)
      refine r_if_eq hC (tgt := 42) dX6_kindHere_37 (by decide) (fun c7 => ?_) (fun c7 => ?_)
      · refine r_aload_n hC dX6_kindHere_42 0 rfl ?_
        refine r_getr hC 0 (ci := 6) rfl u6_in (by decide) mT_1_81 dX6_kindHere_43 ka0 rfl rfl hb1 ?_
        refine r_ldcS hC (i := 18) (by decide) rfl rfl dX6_kindHere_46 ?_
        refine r_callV hC (As := [.ref (g.2.2.1 18)]) (rest := []) (ci := 7) (c_X7_isWord g (xL X) K len I J R hs a1_ hk1 18 (by decide)) mT_2_177 mT_1_4 mT_2_174 mT_2_175 mT_2_176 okX7_isWord ⟨by decide, by decide⟩ rfl (by show kO (K a1_) = _; rw [hk1]; rfl) rfl rfl (Nat.le_of_ble_eq_true rfl) ⟨by decide, by decide⟩ dX6_kindHere_48 (aI0 (F := fun st M => P g X 1 51 [(0, .ref a0)] st _ _ M) (M := (K, len, I, J, R)) fun x8_ h8 => ?_)
        obtain ⟨k8_0, k8_1⟩ := h8
        show P g X 1 51 [(0, .ref a0)] [.int x8_] _ _ (K, len, I, J, R)
        refine r_if_eq hC (tgt := 56) dX6_kindHere_51 (by decide) (fun c9 => ?_) (fun c9 => ?_)
        · refine r_aload_n hC dX6_kindHere_56 0 rfl ?_
          refine r_getr hC 0 (ci := 6) rfl u6_in (by decide) mT_1_81 dX6_kindHere_57 ka0 rfl rfl hb1 ?_
          refine r_ldcS hC (i := 19) (by decide) rfl rfl dX6_kindHere_60 ?_
          refine r_callV hC (As := [.ref (g.2.2.1 19)]) (rest := []) (ci := 7) (c_X7_isWord g (xL X) K len I J R hs a1_ hk1 19 (by decide)) mT_2_177 mT_1_4 mT_2_174 mT_2_175 mT_2_176 okX7_isWord ⟨by decide, by decide⟩ rfl (by show kO (K a1_) = _; rw [hk1]; rfl) rfl rfl (Nat.le_of_ble_eq_true rfl) ⟨by decide, by decide⟩ dX6_kindHere_62 (aI0 (F := fun st M => P g X 1 65 [(0, .ref a0)] st _ _ M) (M := (K, len, I, J, R)) fun x10_ h10 => ?_)
          obtain ⟨k10_0, k10_1⟩ := h10
          show P g X 1 65 [(0, .ref a0)] [.int x10_] _ _ (K, len, I, J, R)
          refine r_if_eq hC (tgt := 70) dX6_kindHere_65 (by decide) (fun c11 => ?_) (fun c11 => ?_)
          · refine r_aload_n hC dX6_kindHere_70 0 rfl ?_
            refine r_getr hC 0 (ci := 6) rfl u6_in (by decide) mT_1_81 dX6_kindHere_71 ka0 rfl rfl hb1 ?_
            refine r_ldcS hC (i := 20) (by decide) rfl rfl dX6_kindHere_74 ?_
            refine r_callV hC (As := [.ref (g.2.2.1 20)]) (rest := []) (ci := 7) (c_X7_isWord g (xL X) K len I J R hs a1_ hk1 20 (by decide)) mT_2_177 mT_1_4 mT_2_174 mT_2_175 mT_2_176 okX7_isWord ⟨by decide, by decide⟩ rfl (by show kO (K a1_) = _; rw [hk1]; rfl) rfl rfl (Nat.le_of_ble_eq_true rfl) ⟨by decide, by decide⟩ dX6_kindHere_76 (aI0 (F := fun st M => P g X 1 79 [(0, .ref a0)] st _ _ M) (M := (K, len, I, J, R)) fun x12_ h12 => ?_)
            obtain ⟨k12_0, k12_1⟩ := h12
            show P g X 1 79 [(0, .ref a0)] [.int x12_] _ _ (K, len, I, J, R)
            refine r_if_eq hC (tgt := 86) dX6_kindHere_79 (by decide) (fun c13 => ?_) (fun c13 => ?_)
            · refine r_iconst hC (v := (-1)) dX6_kindHere_86 (by decide) (by decide) (fun x14_ e14 t14 => ?_)
              exact r_iret hC hQ hlk hr rfl (by decide) (by decide) dX6_kindHere_87 ⟨_, rfl, rfl, trivial⟩
            · refine r_iconst hC (v := (5)) dX6_kindHere_82 (by decide) (by decide) (fun x15_ e15 t15 => ?_)
              refine r_goto hC (tgt := 87) dX6_kindHere_83 (by decide) ?_
              exact r_iret hC hQ hlk hr rfl (by decide) (by decide) dX6_kindHere_87 ⟨_, rfl, rfl, trivial⟩
          · refine r_iconst hC (v := (4)) dX6_kindHere_68 (by decide) (by decide) (fun x16_ e16 t16 => ?_)
            exact r_iret hC hQ hlk hr rfl (by decide) (by decide) dX6_kindHere_69 ⟨_, rfl, rfl, trivial⟩
        · refine r_iconst hC (v := (3)) dX6_kindHere_54 (by decide) (by decide) (fun x17_ e17 t17 => ?_)
          exact r_iret hC hQ hlk hr rfl (by decide) (by decide) dX6_kindHere_55 ⟨_, rfl, rfl, trivial⟩
      · refine r_iconst hC (v := (2)) dX6_kindHere_40 (by decide) (by decide) (fun x18_ e18 t18 => ?_)
        exact r_iret hC hQ hlk hr rfl (by decide) (by decide) dX6_kindHere_41 ⟨_, rfl, rfl, trivial⟩
    · refine r_iconst hC (v := (1)) dX6_kindHere_26 (by decide) (by decide) (fun x19_ e19 t19 => ?_)
      exact r_iret hC hQ hlk hr rfl (by decide) (by decide) dX6_kindHere_27 ⟨_, rfl, rfl, trivial⟩
  · refine r_iconst hC (v := (0)) dX6_kindHere_12 (by decide) (by decide) (fun x20_ e20 t20 => ?_)
    exact r_iret hC hQ hlk hr rfl (by decide) (by decide) dX6_kindHere_13 ⟨_, rfl, rfl, trivial⟩
set_option maxHeartbeats 4000000 in
set_option maxRecDepth 100000 in
theorem c_X6_pegNamed (g : GG) (l : Launch) (K len : Nat → Nat) (I : Nat → Nat → Int32) (J : Nat → Nat → Int64) (R : Nat → Nat → Option Nat) (hs : Sf K len I R) (a0 : Nat) (ka0 : K a0 = 7) (y1 : Int64) (x2 : Int32) (p0 : x2.toInt ≤ 5) : Ct g l yX6_pegNamed cX6_pegNamed 5 (Option.some Jvm.ClassFile.FieldType.int) rmX6_pegNamed [.ref a0, .long y1, .int x2] (K, len, I, J, R) (pI0 (K, len, I, J, R) (fun r => True)) := by
  refine Ct_intro (by decide +kernel) (Nat.le_of_ble_eq_true rfl) (fun X hC hL hKK hNm hr hlk hQ => ?_)
  subst hL
  have hC : Cx g X cX6_pegNamed "HillTap$Teller" 5 rmX6_pegNamed := hC
  show P g X 5 0 [(0, .ref a0), (1, .long y1), (3, .int x2)] [] 0 0 (K, len, I, J, R)
  have hF : Fr K [] I I := Fr.refl
  have b_x2 := ti_rng x2
  refine r_iconst hC (v := (0)) dX6_pegNamed_0 (by decide) (by decide) (fun x1_ e1 t1 => ?_)
  refine r_istore hC (lv' := [(4, .int x1_), (0, .ref a0), (1, .long y1), (3, .int x2)]) dX6_pegNamed_1 (by decide) rfl ?_
  have LP2 : ∀ (mu : Nat) (x2_4 : Int32) (v2_0 : 0 ≤ x2_4.toInt) (v2_1 : x2_4.toInt ≤ 5), (5 - x2_4.toInt).toNat = mu → P g X 5 3 [(0, .ref a0), (1, .long y1), (3, .int x2), (4, .int x2_4)] [] 0 0 (K, len, I, J, R) := by
    intro mu; induction mu using Nat.strongRecOn with | ind mu ih => ?_
    intro x2_4 v2_0 v2_1 hmu
    have ih2 := ih
    clear ih
    have hmu2 := hmu
    clear hmu
    refine r_iload hC dX6_pegNamed_3 3 rfl ?_
    refine r_iload_n hC dX6_pegNamed_5 2 rfl ?_
    refine r_icmp_ge hC (tgt := 30) dX6_pegNamed_6 (by decide) (fun c3 => ?_) (fun c3 => ?_)
    · refine r_iconst hC (v := (-1)) dX6_pegNamed_30 (by decide) (by decide) (fun x4_ e4 t4 => ?_)
      exact r_iret hC hQ hlk hr rfl (by decide) (by decide) dX6_pegNamed_31 ⟨_, rfl, rfl, trivial⟩
    · refine r_aload_n hC dX6_pegNamed_9 0 rfl ?_
      obtain ⟨a5_, hb5, hk5, hn5⟩ := hs.row ka0 2 48 5 (by decide) (by decide)
      refine r_getr hC 2 (ci := 6) rfl u6_in (by decide) mT_1_83 dX6_pegNamed_10 ka0 rfl rfl hb5 ?_
      refine r_iload hC dX6_pegNamed_13 3 rfl ?_
      refine x_laload hC hk5 hn5 (by decide) rfl rfl dX6_pegNamed_15 (by omega) (by omega) (fun y6_ e6 => ?_)
      refine r_lload_n hC dX6_pegNamed_16 1 rfl ?_
      refine r_lcmp hC dX6_pegNamed_17 (fun x7_ e7 => ?_)
      refine r_if_ne hC (tgt := 24) dX6_pegNamed_18 (by decide) (fun c8 => ?_) (fun c8 => ?_)
      · obtain ⟨x9_, e9⟩ : ∃ z : Int32, z = x2_4 + Int32.ofInt (1) := ⟨_, rfl⟩
        refine r_iinc hC (j := 3) (v := x9_) (lv' := [(4, .int x9_), (0, .ref a0), (1, .long y1), (3, .int x2)]) dX6_pegNamed_24 rfl (by rw [e9]) (by decide) rfl ?_
        try have t9 : x9_.toInt = x2_4.toInt + (1) := by rw [e9]; exact (ti_add (b := Int32.ofInt (1)) (by show _ ≤ _ + (1 : Int); omega) (by show _ + (1 : Int) ≤ _; omega))
        refine r_goto hC (tgt := 3) dX6_pegNamed_27 (by decide) ?_
        refine r_sub [1, 2, 3, 0] rfl ?_
        exact ih2 ((5 - x9_.toInt).toNat) (by omega) x9_ (by omega) (by omega) rfl
      · refine r_iload hC dX6_pegNamed_21 3 rfl ?_
        exact r_iret hC hQ hlk hr rfl (by decide) (by decide) dX6_pegNamed_23 ⟨_, rfl, rfl, trivial⟩
  refine r_sub [1, 2, 3, 0] rfl ?_
  exact LP2 _ x1_ (by omega) (by omega) rfl
set_option maxHeartbeats 4000000 in
set_option maxRecDepth 100000 in
theorem c_X6_takeNewName (g : GG) (l : Launch) (K len : Nat → Nat) (I : Nat → Nat → Int32) (J : Nat → Nat → Int64) (R : Nat → Nat → Option Nat) (hs : Sf K len I R) (a0 : Nat) (ka0 : K a0 = 7) : Ct g l yX6_takeNewName cX6_takeNewName 2 (Option.some Jvm.ClassFile.FieldType.boolean) rmX6_takeNewName [.ref a0] (K, len, I, J, R) (pI2 (K, len, I, J, R) (fun r I' J' => Sf K len I' R ∧ Fr K [(7, 3), (7, 5), (7, 6), (8, 2), (8, 3), (8, 4)] I I' ∧ Fr K [(8, 5), (42, 999)] J J' ∧ (0 ≤ r.toInt) ∧ (r.toInt ≤ 1))) := by
  refine Ct_intro (by decide +kernel) (Nat.le_of_ble_eq_true rfl) (fun X hC hL hKK hNm hr hlk hQ => ?_)
  subst hL
  have hC : Cx g X cX6_takeNewName "HillTap$Teller" 2 rmX6_takeNewName := hC
  show P g X 2 0 [(0, .ref a0)] [] 0 0 (K, len, I, J, R)
  have hF : Fr K [(7, 3), (7, 5), (7, 6), (8, 2), (8, 3), (8, 4)] I I := Fr.refl
  have hFJ : Fr K [(8, 5), (42, 999)] J J := Fr.refl
  refine r_aload_n hC dX6_takeNewName_0 0 rfl ?_
  refine r_callV hC (As := []) (rest := []) (ci := 6) (c_X6_isName g (xL X) K len I J R hs a0 ka0) mT_3_25 mT_1_3 mT_3_22 mT_3_24 mP_10 okX6_isName ⟨by decide, by decide⟩ rfl (by show kO (K a0) = _; rw [ka0]; rfl) rfl rfl (Nat.le_of_ble_eq_true rfl) ⟨by decide, by decide⟩ dX6_takeNewName_1 (aI0 (F := fun st M => P g X 2 4 [(0, .ref a0)] st _ _ M) (M := (K, len, I, J, R)) fun x1_ h1 => ?_)
  obtain ⟨k1_0, k1_1⟩ := h1
  show P g X 2 4 [(0, .ref a0)] [.int x1_] _ _ (K, len, I, J, R)
  refine r_if_ne hC (tgt := 13) dX6_takeNewName_4 (by decide) (fun c2 => ?_) (fun c2 => ?_)
  · refine r_iconst hC (v := (0)) dX6_takeNewName_13 (by decide) (by decide) (fun x3_ e3 t3 => ?_)
    refine r_istore_n hC (lv' := [(1, .int x3_), (0, .ref a0)]) dX6_takeNewName_14 (by decide) rfl ?_
    have LP4 : ∀ (mu : Nat) (x4_1 : Int32) (I4 : Nat → Nat → Int32) (hs4 : Sf K len I4 R) (hF4 : Fr K [(7, 3), (7, 5), (7, 6), (8, 2), (8, 3), (8, 4)] I I4) (v4_0 : 0 ≤ x4_1.toInt) (v4_1 : x4_1.toInt ≤ 19), (19 - x4_1.toInt).toNat = mu → P g X 2 15 [(0, .ref a0), (1, .int x4_1)] [] 0 0 (K, len, I4, J, R) := by
      intro mu; induction mu using Nat.strongRecOn with | ind mu ih => ?_
      intro x4_1 I4 hs4 hF4 v4_0 v4_1 hmu
      have ih4 := ih
      clear ih
      have hmu4 := hmu
      clear hmu
      refine r_iload_n hC dX6_takeNewName_15 1 rfl ?_
      refine r_aload_n hC dX6_takeNewName_16 0 rfl ?_
      refine r_geti hC 3 (ci := 6) rfl u6_in (by decide) mT_1_84 dX6_takeNewName_17 ka0 rfl rfl (fun x5_ e5 => ?_)
      have r5 := hs4.rng ka0 rfl e5
      refine r_icmp_ge hC (tgt := 52) dX6_takeNewName_20 (by decide) (fun c6 => ?_) (fun c6 => ?_)
      · refine r_aload_n hC dX6_takeNewName_52 0 rfl ?_
        refine r_geti hC 3 (ci := 6) rfl u6_in (by decide) mT_1_84 dX6_takeNewName_53 ka0 rfl rfl (fun x7_ e7 => ?_)
        have r7 := hs4.rng ka0 rfl e7
        have w7 : x7_ = x5_ := by rw [e7]; exact e5.symm
        have wt7 : x7_.toInt = x5_.toInt := by rw [w7]
        refine r_bipush hC (v := (19)) dX6_takeNewName_56 (by decide) (by decide) (fun x8_ e8 t8 => ?_)
        refine r_icmp_ge hC (tgt := 87) dX6_takeNewName_58 (by decide) (fun c9 => ?_) (fun c9 => ?_)
        · refine r_aload_n hC dX6_takeNewName_87 0 rfl ?_
          obtain ⟨a10_, hb10, hk10⟩ := hs4.obj ka0 0 8 (by decide)
          refine r_getr hC 0 (ci := 6) rfl u6_in (by decide) mT_1_81 dX6_takeNewName_88 ka0 rfl rfl hb10 ?_
          refine r_callV hC (As := []) (rest := []) (ci := 7) (c_X7_next g (xL X) K len I4 J R hs4 a10_ hk10) mT_2_159 mT_1_4 mT_2_234 mT_2_157 mT_2_158 okX7_next ⟨by decide, by decide⟩ rfl (by show kO (K a10_) = _; rw [hk10]; rfl) rfl rfl (Nat.le_of_ble_eq_true rfl) ⟨by decide, by decide⟩ dX6_takeNewName_91 (aV2 (F := fun st M => P g X 2 94 [(0, .ref a0), (1, .int x4_1)] st _ _ M) (M := (K, len, I4, J, R)) fun I11 J11 h11 => ?_)
          obtain ⟨hs11, hf11, hfj11⟩ := h11
          show P g X 2 94 [(0, .ref a0), (1, .int x4_1)] [] _ _ (K, len, I11, J11, R)
          have hF11 : Fr K [(7, 3), (7, 5), (7, 6), (8, 2), (8, 3), (8, 4)] I I11 := hF4.trans hf11 rfl rfl
          have hFJ11 : Fr K [(8, 5), (42, 999)] J J11 := hFJ.trans hfj11 rfl rfl
          refine r_iconst hC (v := (1)) dX6_takeNewName_94 (by decide) (by decide) (fun x12_ e12 t12 => ?_)
          exact r_iret hC hQ hlk hr (by rw [e12]; rfl) (by decide) (by decide) dX6_takeNewName_95 ⟨_, _, _, rfl, rfl, ⟨hs11, hF11, hFJ11, (by omega), (by omega)⟩⟩
        · refine r_aload_n hC dX6_takeNewName_61 0 rfl ?_
          obtain ⟨a13_, hb13, hk13, hn13⟩ := hs4.row ka0 1 42 19 (by decide) (by decide)
          refine r_getr hC 1 (ci := 6) rfl u6_in (by decide) mT_1_82 dX6_takeNewName_62 ka0 rfl rfl hb13 ?_
          refine r_aload_n hC dX6_takeNewName_65 0 rfl ?_
          refine r_geti hC 3 (ci := 6) rfl u6_in (by decide) mT_1_84 dX6_takeNewName_66 ka0 rfl rfl (fun x14_ e14 => ?_)
          have r14 := hs4.rng ka0 rfl e14
          have w14 : x14_ = x7_ := by rw [e14]; exact e7.symm
          have wt14 : x14_.toInt = x7_.toInt := by rw [w14]
          refine r_aload_n hC dX6_takeNewName_69 0 rfl ?_
          obtain ⟨a15_, hb15, hk15⟩ := hs4.obj ka0 0 8 (by decide)
          refine r_getr hC 0 (ci := 6) rfl u6_in (by decide) mT_1_81 dX6_takeNewName_70 ka0 rfl rfl hb15 ?_
          refine r_getj hC 5 (ci := 7) rfl u7_in (by decide) mT_1_66 dX6_takeNewName_73 hk15 rfl rfl (fun y16_ e16 => ?_)
          refine x_lastore hC hk13 hn13 (by decide) rfl rfl dX6_takeNewName_76 (by omega) (by omega) (fun J17 eJ17 => ?_)
          have hFJ17 := hFJ.put eJ17 hk13 (inS_arr rfl _)
          refine r_aload_n hC dX6_takeNewName_77 0 rfl ?_
          refine r_dup hC dX6_takeNewName_78 rfl ?_
          refine r_geti hC 3 (ci := 6) rfl u6_in (by decide) mT_1_84 dX6_takeNewName_79 ka0 rfl rfl (fun x18_ e18 => ?_)
          have r18 := hs4.rng ka0 rfl e18
          have w18 : x18_ = x14_ := by rw [e18]; exact e14.symm
          have wt18 : x18_.toInt = x14_.toInt := by rw [w18]
          refine r_iconst hC (v := (1)) dX6_takeNewName_82 (by decide) (by decide) (fun x19_ e19 t19 => ?_)
          refine r_iadd hC dX6_takeNewName_83 (fun x20_ e20 => ?_)
          try have t20 : x20_.toInt = x18_.toInt + x19_.toInt := by rw [e20]; exact ti_add (by omega) (by omega)
          refine r_puti hC 3 (ci := 6) rfl u6_in tyX6_ok nmX6 (by decide) mT_1_84 rfl rfl rfl dX6_takeNewName_84 ka0 rfl rfl (fun I21 eI21 => ?_)
          have hs21 := hs4.put1 eI21 ka0 rfl (by omega) (by omega) rfl rfl (by decide)
          have hF21 := hF4.put eI21 ka0 rfl
          refine r_aload_n hC dX6_takeNewName_87 0 rfl ?_
          refine r_getr hC 0 (ci := 6) rfl u6_in (by decide) mT_1_81 dX6_takeNewName_88 ka0 rfl rfl hb15 ?_
          refine r_callV hC (As := []) (rest := []) (ci := 7) (c_X7_next g (xL X) K len I21 J17 R hs21 a15_ hk15) mT_2_159 mT_1_4 mT_2_234 mT_2_157 mT_2_158 okX7_next ⟨by decide, by decide⟩ rfl (by show kO (K a15_) = _; rw [hk15]; rfl) rfl rfl (Nat.le_of_ble_eq_true rfl) ⟨by decide, by decide⟩ dX6_takeNewName_91 (aV2 (F := fun st M => P g X 2 94 [(0, .ref a0), (1, .int x4_1)] st _ _ M) (M := (K, len, I21, J17, R)) fun I22 J22 h22 => ?_)
          obtain ⟨hs22, hf22, hfj22⟩ := h22
          show P g X 2 94 [(0, .ref a0), (1, .int x4_1)] [] _ _ (K, len, I22, J22, R)
          have hF22 : Fr K [(7, 3), (7, 5), (7, 6), (8, 2), (8, 3), (8, 4)] I I22 := hF21.trans hf22 rfl rfl
          have hFJ22 : Fr K [(8, 5), (42, 999)] J J22 := hFJ17.trans hfj22 rfl rfl
          refine r_iconst hC (v := (1)) dX6_takeNewName_94 (by decide) (by decide) (fun x23_ e23 t23 => ?_)
          exact r_iret hC hQ hlk hr (by rw [e23]; rfl) (by decide) (by decide) dX6_takeNewName_95 ⟨_, _, _, rfl, rfl, ⟨hs22, hF22, hFJ22, (by omega), (by omega)⟩⟩
      · refine r_aload_n hC dX6_takeNewName_23 0 rfl ?_
        obtain ⟨a24_, hb24, hk24, hn24⟩ := hs4.row ka0 1 42 19 (by decide) (by decide)
        refine r_getr hC 1 (ci := 6) rfl u6_in (by decide) mT_1_82 dX6_takeNewName_24 ka0 rfl rfl hb24 ?_
        refine r_iload_n hC dX6_takeNewName_27 1 rfl ?_
        refine x_laload hC hk24 hn24 (by decide) rfl rfl dX6_takeNewName_28 (by omega) (by omega) (fun y25_ e25 => ?_)
        refine r_aload_n hC dX6_takeNewName_29 0 rfl ?_
        obtain ⟨a26_, hb26, hk26⟩ := hs4.obj ka0 0 8 (by decide)
        refine r_getr hC 0 (ci := 6) rfl u6_in (by decide) mT_1_81 dX6_takeNewName_30 ka0 rfl rfl hb26 ?_
        refine r_getj hC 5 (ci := 7) rfl u7_in (by decide) mT_1_66 dX6_takeNewName_33 hk26 rfl rfl (fun y27_ e27 => ?_)
        refine r_lcmp hC dX6_takeNewName_36 (fun x28_ e28 => ?_)
        refine r_if_ne hC (tgt := 46) dX6_takeNewName_37 (by decide) (fun c29 => ?_) (fun c29 => ?_)
        · obtain ⟨x30_, e30⟩ : ∃ z : Int32, z = x4_1 + Int32.ofInt (1) := ⟨_, rfl⟩
          refine r_iinc hC (j := 1) (v := x30_) (lv' := [(1, .int x30_), (0, .ref a0)]) dX6_takeNewName_46 rfl (by rw [e30]) (by decide) rfl ?_
          try have t30 : x30_.toInt = x4_1.toInt + (1) := by rw [e30]; exact (ti_add (b := Int32.ofInt (1)) (by show _ ≤ _ + (1 : Int); omega) (by show _ + (1 : Int) ≤ _; omega))
          refine r_goto hC (tgt := 15) dX6_takeNewName_49 (by decide) ?_
          refine r_sub [1, 0] rfl ?_
          exact ih4 ((19 - x30_.toInt).toNat) (by omega) x30_ I4 hs4 hF4 (by omega) (by omega) rfl
        · refine r_aload_n hC dX6_takeNewName_40 0 rfl ?_
          refine r_iconst hC (v := (3)) dX6_takeNewName_41 (by decide) (by decide) (fun x31_ e31 t31 => ?_)
          refine r_callV hC (As := [.int x31_]) (rest := []) (ci := 6) (c_X6_faulty g (xL X) K len I4 J R hs4 a0 ka0 x31_) mT_2_233 mT_1_3 mT_2_230 mT_2_232 mP_5 okX6_faulty ⟨by decide, by decide⟩ rfl (by show kO (K a0) = _; rw [ka0]; rfl) rfl rfl (Nat.le_of_ble_eq_true rfl) ⟨by decide, by decide⟩ dX6_takeNewName_42 (aI1 (F := fun st M => P g X 2 45 [(0, .ref a0), (1, .int x4_1)] st _ _ M) (M := (K, len, I4, J, R)) fun x32_ I32 h32 => ?_)
          obtain ⟨hs32, hf32, k32_0⟩ := h32
          show P g X 2 45 [(0, .ref a0), (1, .int x4_1)] [.int x32_] _ _ (K, len, I32, J, R)
          have hF32 : Fr K [(7, 3), (7, 5), (7, 6), (8, 2), (8, 3), (8, 4)] I I32 := hF4.trans hf32 rfl rfl
          exact r_iret hC hQ hlk hr (nz_b (by omega) (by omega)) (by decide) (by decide) dX6_takeNewName_45 ⟨_, _, _, rfl, rfl, ⟨hs32, hF32, hFJ, (by omega), (by omega)⟩⟩
    refine r_sub [1, 0] rfl ?_
    exact LP4 _ x3_ I hs hF (by omega) (by omega) rfl
  · refine r_aload_n hC dX6_takeNewName_7 0 rfl ?_
    refine r_iconst hC (v := (1)) dX6_takeNewName_8 (by decide) (by decide) (fun x33_ e33 t33 => ?_)
    refine r_callV hC (As := [.int x33_]) (rest := []) (ci := 6) (c_X6_faulty g (xL X) K len I J R hs a0 ka0 x33_) mT_2_233 mT_1_3 mT_2_230 mT_2_232 mP_5 okX6_faulty ⟨by decide, by decide⟩ rfl (by show kO (K a0) = _; rw [ka0]; rfl) rfl rfl (Nat.le_of_ble_eq_true rfl) ⟨by decide, by decide⟩ dX6_takeNewName_9 (aI1 (F := fun st M => P g X 2 12 [(0, .ref a0)] st _ _ M) (M := (K, len, I, J, R)) fun x34_ I34 h34 => ?_)
    obtain ⟨hs34, hf34, k34_0⟩ := h34
    show P g X 2 12 [(0, .ref a0)] [.int x34_] _ _ (K, len, I34, J, R)
    have hF34 : Fr K [(7, 3), (7, 5), (7, 6), (8, 2), (8, 3), (8, 4)] I I34 := hF.trans hf34 rfl rfl
    exact r_iret hC hQ hlk hr (nz_b (by omega) (by omega)) (by decide) (by decide) dX6_takeNewName_12 ⟨_, _, _, rfl, rfl, ⟨hs34, hF34, hFJ, (by omega), (by omega)⟩⟩
set_option maxHeartbeats 4000000 in
set_option maxRecDepth 100000 in
theorem c_X6_takeLake (g : GG) (l : Launch) (K len : Nat → Nat) (I : Nat → Nat → Int32) (J : Nat → Nat → Int64) (R : Nat → Nat → Option Nat) (hs : Sf K len I R) (a0 : Nat) (ka0 : K a0 = 7) (a1 : Nat) (ka1 : K a1 = 3) : Ct g l yX6_takeLake cX6_takeLake 2 (Option.some Jvm.ClassFile.FieldType.boolean) rmX6_takeLake [.ref a0, .ref a1] (K, len, I, J, R) (pI2 (K, len, I, J, R) (fun r I' J' => Sf K len I' R ∧ Fr K [(3, 0), (3, 1), (3, 2), (3, 3), (7, 4), (7, 5), (7, 6), (8, 2), (8, 3), (8, 4)] I I' ∧ Fr K [(8, 5)] J J' ∧ (0 ≤ r.toInt) ∧ (r.toInt ≤ 1))) := by
  refine Ct_intro (by decide +kernel) (Nat.le_of_ble_eq_true rfl) (fun X hC hL hKK hNm hr hlk hQ => ?_)
  subst hL
  have hC : Cx g X cX6_takeLake "HillTap$Teller" 2 rmX6_takeLake := hC
  show P g X 2 0 [(0, .ref a0), (1, .ref a1)] [] 0 0 (K, len, I, J, R)
  have hF : Fr K [(3, 0), (3, 1), (3, 2), (3, 3), (7, 4), (7, 5), (7, 6), (8, 2), (8, 3), (8, 4)] I I := Fr.refl
  have hFJ : Fr K [(8, 5)] J J := Fr.refl
  refine r_aload_n hC dX6_takeLake_0 1 rfl ?_
  refine r_geti hC 0 (ci := 2) rfl u2_in (by decide) mT_1_118 dX6_takeLake_1 ka1 rfl rfl (fun x1_ e1 => ?_)
  refine r_if_eq hC (tgt := 13) dX6_takeLake_4 (by decide) (fun c2 => ?_) (fun c2 => ?_)
  · refine r_aload_n hC dX6_takeLake_13 0 rfl ?_
    obtain ⟨a3_, hb3, hk3⟩ := hs.obj ka0 0 8 (by decide)
    refine r_getr hC 0 (ci := 6) rfl u6_in (by decide) mT_1_81 dX6_takeLake_14 ka0 rfl rfl hb3 ?_
    refine r_callV hC (As := []) (rest := []) (ci := 7) (c_X7_next g (xL X) K len I J R hs a3_ hk3) mT_2_159 mT_1_4 mT_2_234 mT_2_157 mT_2_158 okX7_next ⟨by decide, by decide⟩ rfl (by show kO (K a3_) = _; rw [hk3]; rfl) rfl rfl (Nat.le_of_ble_eq_true rfl) ⟨by decide, by decide⟩ dX6_takeLake_17 (aV2 (F := fun st M => P g X 2 20 [(0, .ref a0), (1, .ref a1)] st _ _ M) (M := (K, len, I, J, R)) fun I4 J4 h4 => ?_)
    obtain ⟨hs4, hf4, hfj4⟩ := h4
    show P g X 2 20 [(0, .ref a0), (1, .ref a1)] [] _ _ (K, len, I4, J4, R)
    have hF4 : Fr K [(3, 0), (3, 1), (3, 2), (3, 3), (7, 4), (7, 5), (7, 6), (8, 2), (8, 3), (8, 4)] I I4 := hF.trans hf4 rfl rfl
    have hFJ4 : Fr K [(8, 5)] J J4 := hFJ.trans hfj4 rfl rfl
    refine r_aload_n hC dX6_takeLake_20 0 rfl ?_
    refine r_ldcS hC (i := 1) (by decide) rfl rfl dX6_takeLake_21 ?_
    refine r_iconst hC (v := (0)) dX6_takeLake_23 (by decide) (by decide) (fun x5_ e5 t5 => ?_)
    refine r_sipush hC (v := (500)) dX6_takeLake_24 (by decide) (by decide) (fun x6_ e6 t6 => ?_)
    refine r_callV hC (As := [.ref (g.2.2.1 1), .int x5_, .int x6_]) (rest := []) (ci := 6) (c_X6_takeNumber g (xL X) K len I4 J4 R hs4 a0 ka0 1 (by decide) x5_ x6_) mT_2_239 mT_1_3 mT_2_236 mT_2_238 mP_6 okX6_takeNumber ⟨by decide, by decide⟩ rfl (by show kO (K a0) = _; rw [ka0]; rfl) rfl rfl (Nat.le_of_ble_eq_true rfl) ⟨by decide, by decide⟩ dX6_takeLake_27 (aI2 (F := fun st M => P g X 2 30 [(0, .ref a0), (1, .ref a1)] st _ _ M) (M := (K, len, I4, J4, R)) fun x7_ I7 J7 h7 => ?_)
    obtain ⟨hs7, hf7, hfj7, k7_0, k7_1, k7_2⟩ := h7
    show P g X 2 30 [(0, .ref a0), (1, .ref a1)] [.int x7_] _ _ (K, len, I7, J7, R)
    have hF7 : Fr K [(3, 0), (3, 1), (3, 2), (3, 3), (7, 4), (7, 5), (7, 6), (8, 2), (8, 3), (8, 4)] I I7 := hF4.trans hf7 rfl rfl
    have hFJ7 : Fr K [(8, 5)] J J7 := hFJ4.trans hfj7 rfl rfl
    refine r_if_ne hC (tgt := 35) dX6_takeLake_30 (by decide) (fun c8 => ?_) (fun c8 => ?_)
    · refine r_aload_n hC dX6_takeLake_35 1 rfl ?_
      refine r_aload_n hC dX6_takeLake_36 0 rfl ?_
      refine r_geti hC 4 (ci := 6) rfl u6_in (by decide) mT_1_85 dX6_takeLake_37 ka0 rfl rfl (fun x9_ e9 => ?_)
      have f9 : x9_.toInt = (I7 a0 4).toInt := by rw [e9]
      refine r_puti hC 1 (ci := 2) rfl u2_in tyX2_ok nmX2 (by decide) mT_1_120 rfl rfl rfl dX6_takeLake_40 ka1 rfl rfl (fun I10 eI10 => ?_)
      have hs10 := hs7.put0 eI10 ka1 rfl rfl rfl (by decide)
      have hF10 := hF7.put eI10 ka1 rfl
      refine r_aload_n hC dX6_takeLake_43 0 rfl ?_
      refine r_ldcS hC (i := 2) (by decide) rfl rfl dX6_takeLake_44 ?_
      refine r_iconst hC (v := (1)) dX6_takeLake_46 (by decide) (by decide) (fun x11_ e11 t11 => ?_)
      refine r_bipush hC (v := (50)) dX6_takeLake_47 (by decide) (by decide) (fun x12_ e12 t12 => ?_)
      refine r_callV hC (As := [.ref (g.2.2.1 2), .int x11_, .int x12_]) (rest := []) (ci := 6) (c_X6_takeNumber g (xL X) K len I10 J7 R hs10 a0 ka0 2 (by decide) x11_ x12_) mT_2_239 mT_1_3 mT_2_236 mT_2_238 mP_6 okX6_takeNumber ⟨by decide, by decide⟩ rfl (by show kO (K a0) = _; rw [ka0]; rfl) rfl rfl (Nat.le_of_ble_eq_true rfl) ⟨by decide, by decide⟩ dX6_takeLake_49 (aI2 (F := fun st M => P g X 2 52 [(0, .ref a0), (1, .ref a1)] st _ _ M) (M := (K, len, I10, J7, R)) fun x13_ I13 J13 h13 => ?_)
      obtain ⟨hs13, hf13, hfj13, k13_0, k13_1, k13_2⟩ := h13
      show P g X 2 52 [(0, .ref a0), (1, .ref a1)] [.int x13_] _ _ (K, len, I13, J13, R)
      have hF13 : Fr K [(3, 0), (3, 1), (3, 2), (3, 3), (7, 4), (7, 5), (7, 6), (8, 2), (8, 3), (8, 4)] I I13 := hF10.trans hf13 rfl rfl
      have hFJ13 : Fr K [(8, 5)] J J13 := hFJ7.trans hfj13 rfl rfl
      refine r_if_ne hC (tgt := 57) dX6_takeLake_52 (by decide) (fun c14 => ?_) (fun c14 => ?_)
      · refine r_aload_n hC dX6_takeLake_57 1 rfl ?_
        refine r_aload_n hC dX6_takeLake_58 0 rfl ?_
        refine r_geti hC 4 (ci := 6) rfl u6_in (by decide) mT_1_85 dX6_takeLake_59 ka0 rfl rfl (fun x15_ e15 => ?_)
        have f15 : x15_.toInt = (I13 a0 4).toInt := by rw [e15]
        refine r_puti hC 2 (ci := 2) rfl u2_in tyX2_ok nmX2 (by decide) mT_1_124 rfl rfl rfl dX6_takeLake_62 ka1 rfl rfl (fun I16 eI16 => ?_)
        have hs16 := hs13.put0 eI16 ka1 rfl rfl rfl (by decide)
        have hF16 := hF13.put eI16 ka1 rfl
        refine r_aload_n hC dX6_takeLake_65 0 rfl ?_
        refine r_ldcS hC (i := 3) (by decide) rfl rfl dX6_takeLake_66 ?_
        refine r_iconst hC (v := (1)) dX6_takeLake_68 (by decide) (by decide) (fun x17_ e17 t17 => ?_)
        refine r_aload_n hC dX6_takeLake_69 1 rfl ?_
        refine r_geti hC 1 (ci := 2) rfl u2_in (by decide) mT_1_120 dX6_takeLake_70 ka1 rfl rfl (fun x18_ e18 => ?_)
        have w18 : x18_ = x9_ := by rw [e18]; exact (Eq.trans (up2_at (Or.inr (by decide)) eI16) (Eq.trans (hf13.get ka1 rfl) (by rw [eI10]; exact up2_self _ _ _ _)))
        have wt18 : x18_.toInt = x9_.toInt := by rw [w18]
        refine r_mmax hC mT_3_10 mT_3_11 mT_1_12 mT_3_12 (by decide) (Nat.le_of_ble_eq_true rfl) (Nat.zero_le _) (Nat.zero_le _) dX6_takeLake_73 (fun x19_ e19 t19a t19b t19c => ?_)
        refine r_sipush hC (v := (999)) dX6_takeLake_76 (by decide) (by decide) (fun x20_ e20 t20 => ?_)
        refine r_callV hC (As := [.ref (g.2.2.1 3), .int x19_, .int x20_]) (rest := []) (ci := 6) (c_X6_takeNumber g (xL X) K len I16 J13 R hs16 a0 ka0 3 (by decide) x19_ x20_) mT_2_239 mT_1_3 mT_2_236 mT_2_238 mP_6 okX6_takeNumber ⟨by decide, by decide⟩ rfl (by show kO (K a0) = _; rw [ka0]; rfl) rfl rfl (Nat.le_of_ble_eq_true rfl) ⟨by decide, by decide⟩ dX6_takeLake_79 (aI2 (F := fun st M => P g X 2 82 [(0, .ref a0), (1, .ref a1)] st _ _ M) (M := (K, len, I16, J13, R)) fun x21_ I21 J21 h21 => ?_)
        obtain ⟨hs21, hf21, hfj21, k21_0, k21_1, k21_2⟩ := h21
        show P g X 2 82 [(0, .ref a0), (1, .ref a1)] [.int x21_] _ _ (K, len, I21, J21, R)
        have hF21 : Fr K [(3, 0), (3, 1), (3, 2), (3, 3), (7, 4), (7, 5), (7, 6), (8, 2), (8, 3), (8, 4)] I I21 := hF16.trans hf21 rfl rfl
        have hFJ21 : Fr K [(8, 5)] J J21 := hFJ13.trans hfj21 rfl rfl
        refine r_if_ne hC (tgt := 87) dX6_takeLake_82 (by decide) (fun c22 => ?_) (fun c22 => ?_)
        · refine r_aload_n hC dX6_takeLake_87 1 rfl ?_
          refine r_aload_n hC dX6_takeLake_88 0 rfl ?_
          refine r_geti hC 4 (ci := 6) rfl u6_in (by decide) mT_1_85 dX6_takeLake_89 ka0 rfl rfl (fun x23_ e23 => ?_)
          have f23 : x23_.toInt = (I21 a0 4).toInt := by rw [e23]
          refine r_puti hC 3 (ci := 2) rfl u2_in tyX2_ok nmX2 (by decide) mT_1_126 rfl rfl rfl dX6_takeLake_92 ka1 rfl rfl (fun I24 eI24 => ?_)
          have hs24 := hs21.put0 eI24 ka1 rfl rfl rfl (by decide)
          have hF24 := hF21.put eI24 ka1 rfl
          refine r_aload_n hC dX6_takeLake_95 1 rfl ?_
          refine r_iconst hC (v := (1)) dX6_takeLake_96 (by decide) (by decide) (fun x25_ e25 t25 => ?_)
          refine r_puti hC 0 (ci := 2) rfl u2_in tyX2_ok nmX2 (by decide) mT_1_118 rfl (by rw [e25]; rfl) (by rw [e25]; rfl) dX6_takeLake_97 ka1 rfl rfl (fun I26 eI26 => ?_)
          have hs26 := hs24.put0 eI26 ka1 rfl rfl rfl (by decide)
          have hF26 := hF24.put eI26 ka1 rfl
          refine r_iconst hC (v := (1)) dX6_takeLake_100 (by decide) (by decide) (fun x27_ e27 t27 => ?_)
          exact r_iret hC hQ hlk hr (by rw [e27]; rfl) (by decide) (by decide) dX6_takeLake_101 ⟨_, _, _, rfl, rfl, ⟨hs26, hF26, hFJ21, (by omega), (by omega)⟩⟩
        · refine r_iconst hC (v := (0)) dX6_takeLake_85 (by decide) (by decide) (fun x28_ e28 t28 => ?_)
          exact r_iret hC hQ hlk hr (by rw [e28]; rfl) (by decide) (by decide) dX6_takeLake_86 ⟨_, _, _, rfl, rfl, ⟨hs21, hF21, hFJ21, (by omega), (by omega)⟩⟩
      · refine r_iconst hC (v := (0)) dX6_takeLake_55 (by decide) (by decide) (fun x29_ e29 t29 => ?_)
        exact r_iret hC hQ hlk hr (by rw [e29]; rfl) (by decide) (by decide) dX6_takeLake_56 ⟨_, _, _, rfl, rfl, ⟨hs13, hF13, hFJ13, (by omega), (by omega)⟩⟩
    · refine r_iconst hC (v := (0)) dX6_takeLake_33 (by decide) (by decide) (fun x30_ e30 t30 => ?_)
      exact r_iret hC hQ hlk hr (by rw [e30]; rfl) (by decide) (by decide) dX6_takeLake_34 ⟨_, _, _, rfl, rfl, ⟨hs7, hF7, hFJ7, (by omega), (by omega)⟩⟩
  · refine r_aload_n hC dX6_takeLake_7 0 rfl ?_
    refine r_iconst hC (v := (3)) dX6_takeLake_8 (by decide) (by decide) (fun x31_ e31 t31 => ?_)
    refine r_callV hC (As := [.int x31_]) (rest := []) (ci := 6) (c_X6_faulty g (xL X) K len I J R hs a0 ka0 x31_) mT_2_233 mT_1_3 mT_2_230 mT_2_232 mP_5 okX6_faulty ⟨by decide, by decide⟩ rfl (by show kO (K a0) = _; rw [ka0]; rfl) rfl rfl (Nat.le_of_ble_eq_true rfl) ⟨by decide, by decide⟩ dX6_takeLake_9 (aI1 (F := fun st M => P g X 2 12 [(0, .ref a0), (1, .ref a1)] st _ _ M) (M := (K, len, I, J, R)) fun x32_ I32 h32 => ?_)
    obtain ⟨hs32, hf32, k32_0⟩ := h32
    show P g X 2 12 [(0, .ref a0), (1, .ref a1)] [.int x32_] _ _ (K, len, I32, J, R)
    have hF32 : Fr K [(3, 0), (3, 1), (3, 2), (3, 3), (7, 4), (7, 5), (7, 6), (8, 2), (8, 3), (8, 4)] I I32 := hF.trans hf32 rfl rfl
    exact r_iret hC hQ hlk hr (nz_b (by omega) (by omega)) (by decide) (by decide) dX6_takeLake_12 ⟨_, _, _, rfl, rfl, ⟨hs32, hF32, hFJ, (by omega), (by omega)⟩⟩
set_option maxHeartbeats 4000000 in
set_option maxRecDepth 100000 in
theorem c_X6_takePeg (g : GG) (l : Launch) (K len : Nat → Nat) (I : Nat → Nat → Int32) (J : Nat → Nat → Int64) (R : Nat → Nat → Option Nat) (hs : Sf K len I R) (a0 : Nat) (ka0 : K a0 = 7) (a1 : Nat) (ka1 : K a1 = 2) : Ct g l yX6_takePeg cX6_takePeg 3 (Option.some Jvm.ClassFile.FieldType.boolean) rmX6_takePeg [.ref a0, .ref a1] (K, len, I, J, R) (pI2 (K, len, I, J, R) (fun r I' J' => Sf K len I' R ∧ Fr K [(2, 1), (7, 3), (7, 4), (7, 5), (7, 6), (8, 2), (8, 3), (8, 4), (55, 999), (56, 999)] I I' ∧ Fr K [(8, 5), (42, 999), (48, 999)] J J' ∧ (0 ≤ r.toInt) ∧ (r.toInt ≤ 1))) := by
  refine Ct_intro (by decide +kernel) (Nat.le_of_ble_eq_true rfl) (fun X hC hL hKK hNm hr hlk hQ => ?_)
  subst hL
  have hC : Cx g X cX6_takePeg "HillTap$Teller" 3 rmX6_takePeg := hC
  show P g X 3 0 [(0, .ref a0), (1, .ref a1)] [] 0 0 (K, len, I, J, R)
  have hF : Fr K [(2, 1), (7, 3), (7, 4), (7, 5), (7, 6), (8, 2), (8, 3), (8, 4), (55, 999), (56, 999)] I I := Fr.refl
  have hFJ : Fr K [(8, 5), (42, 999), (48, 999)] J J := Fr.refl
  refine r_aload_n hC dX6_takePeg_0 1 rfl ?_
  refine r_geti hC 1 (ci := 1) rfl u1_in (by decide) mT_1_186 dX6_takePeg_1 ka1 rfl rfl (fun x1_ e1 => ?_)
  have r1 := hs.rng ka1 rfl e1
  refine r_istore_n hC (lv' := [(2, .int x1_), (0, .ref a0), (1, .ref a1)]) dX6_takePeg_4 (by decide) rfl ?_
  refine r_iload_n hC dX6_takePeg_5 0 rfl ?_
  refine r_iconst hC (v := (5)) dX6_takePeg_6 (by decide) (by decide) (fun x2_ e2 t2 => ?_)
  refine r_icmp_lt hC (tgt := 16) dX6_takePeg_7 (by decide) (fun c3 => ?_) (fun c3 => ?_)
  · refine r_aload_n hC dX6_takePeg_16 1 rfl ?_
    obtain ⟨a4_, hb4, hk4⟩ := hs.obj ka0 0 8 (by decide)
    refine r_getr hC 0 (ci := 6) rfl u6_in (by decide) mT_1_81 dX6_takePeg_17 ka0 rfl rfl hb4 ?_
    refine r_callV hC (As := []) (rest := []) (ci := 7) (c_X7_next g (xL X) K len I J R hs a4_ hk4) mT_2_159 mT_1_4 mT_2_234 mT_2_157 mT_2_158 okX7_next ⟨by decide, by decide⟩ rfl (by show kO (K a4_) = _; rw [hk4]; rfl) rfl rfl (Nat.le_of_ble_eq_true rfl) ⟨by decide, by decide⟩ dX6_takePeg_20 (aV2 (F := fun st M => P g X 3 23 [(2, .int x1_), (0, .ref a0), (1, .ref a1)] st _ _ M) (M := (K, len, I, J, R)) fun I5 J5 h5 => ?_)
    obtain ⟨hs5, hf5, hfj5⟩ := h5
    show P g X 3 23 [(2, .int x1_), (0, .ref a0), (1, .ref a1)] [] _ _ (K, len, I5, J5, R)
    have hF5 : Fr K [(2, 1), (7, 3), (7, 4), (7, 5), (7, 6), (8, 2), (8, 3), (8, 4), (55, 999), (56, 999)] I I5 := hF.trans hf5 rfl rfl
    have hFJ5 : Fr K [(8, 5), (42, 999), (48, 999)] J J5 := hFJ.trans hfj5 rfl rfl
    refine r_aload_n hC dX6_takePeg_23 1 rfl ?_
    obtain ⟨a6_, hb6, hk6, hn6⟩ := hs5.row ka0 2 48 5 (by decide) (by decide)
    refine r_getr hC 2 (ci := 6) rfl u6_in (by decide) mT_1_83 dX6_takePeg_24 ka0 rfl rfl hb6 ?_
    refine r_iload_n hC dX6_takePeg_27 0 rfl ?_
    refine r_aload_n hC dX6_takePeg_28 1 rfl ?_
    refine r_getr hC 0 (ci := 6) rfl u6_in (by decide) mT_1_81 dX6_takePeg_29 ka0 rfl rfl hb4 ?_
    refine r_getj hC 5 (ci := 7) rfl u7_in (by decide) mT_1_66 dX6_takePeg_32 hk4 rfl rfl (fun y7_ e7 => ?_)
    refine x_lastore hC hk6 hn6 (by decide) rfl rfl dX6_takePeg_35 (by omega) (by omega) (fun J8 eJ8 => ?_)
    have hFJ8 := hFJ5.put eJ8 hk6 (inS_arr rfl _)
    refine r_aload_n hC dX6_takePeg_36 1 rfl ?_
    refine r_callV hC (As := []) (rest := []) (ci := 6) (c_X6_takeNewName g (xL X) K len I5 J8 R hs5 a0 ka0) mT_3_21 mT_1_3 mT_3_18 mT_3_20 mP_9 okX6_takeNewName ⟨by decide, by decide⟩ rfl (by show kO (K a0) = _; rw [ka0]; rfl) rfl rfl (Nat.le_of_ble_eq_true rfl) ⟨by decide, by decide⟩ dX6_takePeg_37 (aI2 (F := fun st M => P g X 3 40 [(2, .int x1_), (0, .ref a0), (1, .ref a1)] st _ _ M) (M := (K, len, I5, J8, R)) fun x9_ I9 J9 h9 => ?_)
    obtain ⟨hs9, hf9, hfj9, k9_0, k9_1⟩ := h9
    show P g X 3 40 [(2, .int x1_), (0, .ref a0), (1, .ref a1)] [.int x9_] _ _ (K, len, I9, J9, R)
    have hF9 : Fr K [(2, 1), (7, 3), (7, 4), (7, 5), (7, 6), (8, 2), (8, 3), (8, 4), (55, 999), (56, 999)] I I9 := hF5.trans hf9 rfl rfl
    have hFJ9 : Fr K [(8, 5), (42, 999), (48, 999)] J J9 := hFJ8.trans hfj9 rfl rfl
    refine r_if_eq hC (tgt := 56) dX6_takePeg_40 (by decide) (fun c10 => ?_) (fun c10 => ?_)
    · refine r_iconst hC (v := (0)) dX6_takePeg_56 (by decide) (by decide) (fun x11_ e11 t11 => ?_)
      exact r_iret hC hQ hlk hr (by rw [e11]; rfl) (by decide) (by decide) dX6_takePeg_57 ⟨_, _, _, rfl, rfl, ⟨hs9, hF9, hFJ9, (by omega), (by omega)⟩⟩
    · refine r_aload_n hC dX6_takePeg_43 1 rfl ?_
      refine r_ldcS hC (i := 10) (by decide) rfl rfl dX6_takePeg_44 ?_
      refine r_iconst hC (v := (0)) dX6_takePeg_46 (by decide) (by decide) (fun x12_ e12 t12 => ?_)
      refine r_sipush hC (v := (999)) dX6_takePeg_47 (by decide) (by decide) (fun x13_ e13 t13 => ?_)
      refine r_callV hC (As := [.ref (g.2.2.1 10), .int x12_, .int x13_]) (rest := []) (ci := 6) (c_X6_takeNumber g (xL X) K len I9 J9 R hs9 a0 ka0 10 (by decide) x12_ x13_) mT_2_239 mT_1_3 mT_2_236 mT_2_238 mP_6 okX6_takeNumber ⟨by decide, by decide⟩ rfl (by show kO (K a0) = _; rw [ka0]; rfl) rfl rfl (Nat.le_of_ble_eq_true rfl) ⟨by decide, by decide⟩ dX6_takePeg_50 (aI2 (F := fun st M => P g X 3 53 [(2, .int x1_), (0, .ref a0), (1, .ref a1)] st _ _ M) (M := (K, len, I9, J9, R)) fun x14_ I14 J14 h14 => ?_)
      obtain ⟨hs14, hf14, hfj14, k14_0, k14_1, k14_2⟩ := h14
      show P g X 3 53 [(2, .int x1_), (0, .ref a0), (1, .ref a1)] [.int x14_] _ _ (K, len, I14, J14, R)
      have hF14 : Fr K [(2, 1), (7, 3), (7, 4), (7, 5), (7, 6), (8, 2), (8, 3), (8, 4), (55, 999), (56, 999)] I I14 := hF9.trans hf14 rfl rfl
      have hFJ14 : Fr K [(8, 5), (42, 999), (48, 999)] J J14 := hFJ9.trans hfj14 rfl rfl
      refine r_if_ne hC (tgt := 58) dX6_takePeg_53 (by decide) (fun c15 => ?_) (fun c15 => ?_)
      · refine r_aload_n hC dX6_takePeg_58 2 rfl ?_
        obtain ⟨a16_, hb16, hk16, hn16⟩ := hs14.row ka1 2 55 5 (by decide) (by decide)
        refine r_getr hC 2 (ci := 1) rfl u1_in (by decide) mT_1_189 dX6_takePeg_59 ka1 rfl rfl hb16 ?_
        refine r_iload_n hC dX6_takePeg_62 0 rfl ?_
        refine r_aload_n hC dX6_takePeg_63 1 rfl ?_
        refine r_geti hC 4 (ci := 6) rfl u6_in (by decide) mT_1_85 dX6_takePeg_64 ka0 rfl rfl (fun x17_ e17 => ?_)
        have f17 : x17_.toInt = (I14 a0 4).toInt := by rw [e17]
        refine x_iastore hC hk16 hn16 (by decide) rfl rfl dX6_takePeg_67 (by omega) (by omega) (fun I18 eI18 => ?_)
        have hs18 := hs14.put0 eI18 hk16 (rng_arr (by decide) _) rfl (xF_arr (by decide) _) (by decide)
        have hF18 := hF14.put eI18 hk16 (inS_arr rfl _)
        refine r_aload_n hC dX6_takePeg_68 1 rfl ?_
        refine r_ldcS hC (i := 11) (by decide) rfl rfl dX6_takePeg_69 ?_
        refine r_iconst hC (v := (0)) dX6_takePeg_71 (by decide) (by decide) (fun x19_ e19 t19 => ?_)
        refine r_sipush hC (v := (999)) dX6_takePeg_72 (by decide) (by decide) (fun x20_ e20 t20 => ?_)
        refine r_callV hC (As := [.ref (g.2.2.1 11), .int x19_, .int x20_]) (rest := []) (ci := 6) (c_X6_takeNumber g (xL X) K len I18 J14 R hs18 a0 ka0 11 (by decide) x19_ x20_) mT_2_239 mT_1_3 mT_2_236 mT_2_238 mP_6 okX6_takeNumber ⟨by decide, by decide⟩ rfl (by show kO (K a0) = _; rw [ka0]; rfl) rfl rfl (Nat.le_of_ble_eq_true rfl) ⟨by decide, by decide⟩ dX6_takePeg_75 (aI2 (F := fun st M => P g X 3 78 [(2, .int x1_), (0, .ref a0), (1, .ref a1)] st _ _ M) (M := (K, len, I18, J14, R)) fun x21_ I21 J21 h21 => ?_)
        obtain ⟨hs21, hf21, hfj21, k21_0, k21_1, k21_2⟩ := h21
        show P g X 3 78 [(2, .int x1_), (0, .ref a0), (1, .ref a1)] [.int x21_] _ _ (K, len, I21, J21, R)
        have hF21 : Fr K [(2, 1), (7, 3), (7, 4), (7, 5), (7, 6), (8, 2), (8, 3), (8, 4), (55, 999), (56, 999)] I I21 := hF18.trans hf21 rfl rfl
        have hFJ21 : Fr K [(8, 5), (42, 999), (48, 999)] J J21 := hFJ14.trans hfj21 rfl rfl
        refine r_if_ne hC (tgt := 83) dX6_takePeg_78 (by decide) (fun c22 => ?_) (fun c22 => ?_)
        · refine r_aload_n hC dX6_takePeg_83 2 rfl ?_
          obtain ⟨a23_, hb23, hk23, hn23⟩ := hs21.row ka1 3 56 5 (by decide) (by decide)
          refine r_getr hC 3 (ci := 1) rfl u1_in (by decide) mT_1_193 dX6_takePeg_84 ka1 rfl rfl hb23 ?_
          refine r_iload_n hC dX6_takePeg_87 0 rfl ?_
          refine r_aload_n hC dX6_takePeg_88 1 rfl ?_
          refine r_geti hC 4 (ci := 6) rfl u6_in (by decide) mT_1_85 dX6_takePeg_89 ka0 rfl rfl (fun x24_ e24 => ?_)
          have f24 : x24_.toInt = (I21 a0 4).toInt := by rw [e24]
          refine x_iastore hC hk23 hn23 (by decide) rfl rfl dX6_takePeg_92 (by omega) (by omega) (fun I25 eI25 => ?_)
          have hs25 := hs21.put0 eI25 hk23 (rng_arr (by decide) _) rfl (xF_arr (by decide) _) (by decide)
          have hF25 := hF21.put eI25 hk23 (inS_arr rfl _)
          refine r_aload_n hC dX6_takePeg_93 2 rfl ?_
          refine r_dup hC dX6_takePeg_94 rfl ?_
          refine r_geti hC 1 (ci := 1) rfl u1_in (by decide) mT_1_186 dX6_takePeg_95 ka1 rfl rfl (fun x26_ e26 => ?_)
          have r26 := hs25.rng ka1 rfl e26
          have w26 : x26_ = x1_ := by rw [e26]; exact (Eq.trans (up2_kk eI25 hk23 ka1 (by decide)) (Eq.trans (hf21.get ka1 rfl) (Eq.trans (up2_kk eI18 hk16 ka1 (by decide)) (Eq.trans (hf14.get ka1 rfl) (Eq.trans (hf9.get ka1 rfl) (Eq.trans (hf5.get ka1 rfl) e1.symm))))))
          have wt26 : x26_.toInt = x1_.toInt := by rw [w26]
          refine r_iconst hC (v := (1)) dX6_takePeg_98 (by decide) (by decide) (fun x27_ e27 t27 => ?_)
          refine r_iadd hC dX6_takePeg_99 (fun x28_ e28 => ?_)
          try have t28 : x28_.toInt = x26_.toInt + x27_.toInt := by rw [e28]; exact ti_add (by omega) (by omega)
          refine r_puti hC 1 (ci := 1) rfl u1_in tyX1_ok nmX1 (by decide) mT_1_186 rfl rfl rfl dX6_takePeg_100 ka1 rfl rfl (fun I29 eI29 => ?_)
          have hs29 := hs25.put1 eI29 ka1 rfl (by omega) (by omega) rfl rfl (by decide)
          have hF29 := hF25.put eI29 ka1 rfl
          refine r_iconst hC (v := (1)) dX6_takePeg_103 (by decide) (by decide) (fun x30_ e30 t30 => ?_)
          exact r_iret hC hQ hlk hr (by rw [e30]; rfl) (by decide) (by decide) dX6_takePeg_104 ⟨_, _, _, rfl, rfl, ⟨hs29, hF29, hFJ21, (by omega), (by omega)⟩⟩
        · refine r_iconst hC (v := (0)) dX6_takePeg_81 (by decide) (by decide) (fun x31_ e31 t31 => ?_)
          exact r_iret hC hQ hlk hr (by rw [e31]; rfl) (by decide) (by decide) dX6_takePeg_82 ⟨_, _, _, rfl, rfl, ⟨hs21, hF21, hFJ21, (by omega), (by omega)⟩⟩
      · refine r_iconst hC (v := (0)) dX6_takePeg_56 (by decide) (by decide) (fun x32_ e32 t32 => ?_)
        exact r_iret hC hQ hlk hr (by rw [e32]; rfl) (by decide) (by decide) dX6_takePeg_57 ⟨_, _, _, rfl, rfl, ⟨hs14, hF14, hFJ14, (by omega), (by omega)⟩⟩
  · refine r_aload_n hC dX6_takePeg_10 1 rfl ?_
    refine r_iconst hC (v := (5)) dX6_takePeg_11 (by decide) (by decide) (fun x33_ e33 t33 => ?_)
    refine r_callV hC (As := [.int x33_]) (rest := []) (ci := 6) (c_X6_faulty g (xL X) K len I J R hs a0 ka0 x33_) mT_2_233 mT_1_3 mT_2_230 mT_2_232 mP_5 okX6_faulty ⟨by decide, by decide⟩ rfl (by show kO (K a0) = _; rw [ka0]; rfl) rfl rfl (Nat.le_of_ble_eq_true rfl) ⟨by decide, by decide⟩ dX6_takePeg_12 (aI1 (F := fun st M => P g X 3 15 [(2, .int x1_), (0, .ref a0), (1, .ref a1)] st _ _ M) (M := (K, len, I, J, R)) fun x34_ I34 h34 => ?_)
    obtain ⟨hs34, hf34, k34_0⟩ := h34
    show P g X 3 15 [(2, .int x1_), (0, .ref a0), (1, .ref a1)] [.int x34_] _ _ (K, len, I34, J, R)
    have hF34 : Fr K [(2, 1), (7, 3), (7, 4), (7, 5), (7, 6), (8, 2), (8, 3), (8, 4), (55, 999), (56, 999)] I I34 := hF.trans hf34 rfl rfl
    exact r_iret hC hQ hlk hr (nz_b (by omega) (by omega)) (by decide) (by decide) dX6_takePeg_15 ⟨_, _, _, rfl, rfl, ⟨hs34, hF34, hFJ, (by omega), (by omega)⟩⟩
set_option maxHeartbeats 4000000 in
set_option maxRecDepth 100000 in
theorem c_X6_takeFrom (g : GG) (l : Launch) (K len : Nat → Nat) (I : Nat → Nat → Int32) (J : Nat → Nat → Int64) (R : Nat → Nat → Option Nat) (hs : Sf K len I R) (a0 : Nat) (ka0 : K a0 = 7) (a1 : Nat) (ka1 : K a1 = 3) : Ct g l yX6_takeFrom cX6_takeFrom 3 (Option.some Jvm.ClassFile.FieldType.boolean) rmX6_takeFrom [.ref a0, .ref a1] (K, len, I, J, R) (pI2 (K, len, I, J, R) (fun r I' J' => Sf K len I' R ∧ Fr K [(3, 4), (7, 4), (7, 5), (7, 6), (8, 2), (8, 3), (8, 4), (63, 999), (64, 999)] I I' ∧ Fr K [(8, 5)] J J' ∧ (0 ≤ r.toInt) ∧ (r.toInt ≤ 1))) := by
  refine Ct_intro (by decide +kernel) (Nat.le_of_ble_eq_true rfl) (fun X hC hL hKK hNm hr hlk hQ => ?_)
  subst hL
  have hC : Cx g X cX6_takeFrom "HillTap$Teller" 3 rmX6_takeFrom := hC
  show P g X 3 0 [(0, .ref a0), (1, .ref a1)] [] 0 0 (K, len, I, J, R)
  have hF : Fr K [(3, 4), (7, 4), (7, 5), (7, 6), (8, 2), (8, 3), (8, 4), (63, 999), (64, 999)] I I := Fr.refl
  have hFJ : Fr K [(8, 5)] J J := Fr.refl
  refine r_aload_n hC dX6_takeFrom_0 1 rfl ?_
  refine r_geti hC 4 (ci := 2) rfl u2_in (by decide) mT_1_129 dX6_takeFrom_1 ka1 rfl rfl (fun x1_ e1 => ?_)
  have r1 := hs.rng ka1 rfl e1
  have f1 : x1_.toInt = (I a1 4).toInt := by rw [e1]
  refine r_bipush hC (v := (8)) dX6_takeFrom_4 (by decide) (by decide) (fun x2_ e2 t2 => ?_)
  refine r_icmp_lt hC (tgt := 15) dX6_takeFrom_6 (by decide) (fun c3 => ?_) (fun c3 => ?_)
  · refine r_aload_n hC dX6_takeFrom_15 0 rfl ?_
    obtain ⟨a4_, hb4, hk4⟩ := hs.obj ka0 0 8 (by decide)
    refine r_getr hC 0 (ci := 6) rfl u6_in (by decide) mT_1_81 dX6_takeFrom_16 ka0 rfl rfl hb4 ?_
    refine r_callV hC (As := []) (rest := []) (ci := 7) (c_X7_next g (xL X) K len I J R hs a4_ hk4) mT_2_159 mT_1_4 mT_2_234 mT_2_157 mT_2_158 okX7_next ⟨by decide, by decide⟩ rfl (by show kO (K a4_) = _; rw [hk4]; rfl) rfl rfl (Nat.le_of_ble_eq_true rfl) ⟨by decide, by decide⟩ dX6_takeFrom_19 (aV2 (F := fun st M => P g X 3 22 [(0, .ref a0), (1, .ref a1)] st _ _ M) (M := (K, len, I, J, R)) fun I5 J5 h5 => ?_)
    obtain ⟨hs5, hf5, hfj5⟩ := h5
    show P g X 3 22 [(0, .ref a0), (1, .ref a1)] [] _ _ (K, len, I5, J5, R)
    have hF5 : Fr K [(3, 4), (7, 4), (7, 5), (7, 6), (8, 2), (8, 3), (8, 4), (63, 999), (64, 999)] I I5 := hF.trans hf5 rfl rfl
    have hFJ5 : Fr K [(8, 5)] J J5 := hFJ.trans hfj5 rfl rfl
    refine r_aload_n hC dX6_takeFrom_22 0 rfl ?_
    refine r_iconst hC (v := (0)) dX6_takeFrom_23 (by decide) (by decide) (fun x6_ e6 t6 => ?_)
    refine r_bipush hC (v := (59)) dX6_takeFrom_24 (by decide) (by decide) (fun x7_ e7 t7 => ?_)
    refine r_callV hC (As := [.int x6_, .int x7_]) (rest := []) (ci := 6) (c_X6_takeWhole g (xL X) K len I5 J5 R hs5 a0 ka0 x6_ x7_) mT_3_3 mT_1_3 mT_3_0 mT_3_2 mP_7 okX6_takeWhole ⟨by decide, by decide⟩ rfl (by show kO (K a0) = _; rw [ka0]; rfl) rfl rfl (Nat.le_of_ble_eq_true rfl) ⟨by decide, by decide⟩ dX6_takeFrom_26 (aI2 (F := fun st M => P g X 3 29 [(0, .ref a0), (1, .ref a1)] st _ _ M) (M := (K, len, I5, J5, R)) fun x8_ I8 J8 h8 => ?_)
    obtain ⟨hs8, hf8, hfj8, k8_0, k8_1, k8_2⟩ := h8
    show P g X 3 29 [(0, .ref a0), (1, .ref a1)] [.int x8_] _ _ (K, len, I8, J8, R)
    have hF8 : Fr K [(3, 4), (7, 4), (7, 5), (7, 6), (8, 2), (8, 3), (8, 4), (63, 999), (64, 999)] I I8 := hF5.trans hf8 rfl rfl
    have hFJ8 : Fr K [(8, 5)] J J8 := hFJ5.trans hfj8 rfl rfl
    refine r_if_ne hC (tgt := 34) dX6_takeFrom_29 (by decide) (fun c9 => ?_) (fun c9 => ?_)
    · refine r_aload_n hC dX6_takeFrom_34 0 rfl ?_
      refine r_geti hC 4 (ci := 6) rfl u6_in (by decide) mT_1_85 dX6_takeFrom_35 ka0 rfl rfl (fun x10_ e10 => ?_)
      have f10 : x10_.toInt = (I8 a0 4).toInt := by rw [e10]
      refine r_istore_n hC (lv' := [(2, .int x10_), (0, .ref a0), (1, .ref a1)]) dX6_takeFrom_38 (by decide) rfl ?_
      refine r_aload_n hC dX6_takeFrom_39 1 rfl ?_
      refine r_ldcS hC (i := 12) (by decide) rfl rfl dX6_takeFrom_40 ?_
      refine r_iconst hC (v := (0)) dX6_takeFrom_42 (by decide) (by decide) (fun x11_ e11 t11 => ?_)
      refine r_sipush hC (v := (999)) dX6_takeFrom_43 (by decide) (by decide) (fun x12_ e12 t12 => ?_)
      refine r_callV hC (As := [.ref (g.2.2.1 12), .int x11_, .int x12_]) (rest := []) (ci := 6) (c_X6_takeNumber g (xL X) K len I8 J8 R hs8 a0 ka0 12 (by decide) x11_ x12_) mT_2_239 mT_1_3 mT_2_236 mT_2_238 mP_6 okX6_takeNumber ⟨by decide, by decide⟩ rfl (by show kO (K a0) = _; rw [ka0]; rfl) rfl rfl (Nat.le_of_ble_eq_true rfl) ⟨by decide, by decide⟩ dX6_takeFrom_46 (aI2 (F := fun st M => P g X 3 49 [(2, .int x10_), (0, .ref a0), (1, .ref a1)] st _ _ M) (M := (K, len, I8, J8, R)) fun x13_ I13 J13 h13 => ?_)
      obtain ⟨hs13, hf13, hfj13, k13_0, k13_1, k13_2⟩ := h13
      show P g X 3 49 [(2, .int x10_), (0, .ref a0), (1, .ref a1)] [.int x13_] _ _ (K, len, I13, J13, R)
      have hF13 : Fr K [(3, 4), (7, 4), (7, 5), (7, 6), (8, 2), (8, 3), (8, 4), (63, 999), (64, 999)] I I13 := hF8.trans hf13 rfl rfl
      have hFJ13 : Fr K [(8, 5)] J J13 := hFJ8.trans hfj13 rfl rfl
      refine r_if_ne hC (tgt := 54) dX6_takeFrom_49 (by decide) (fun c14 => ?_) (fun c14 => ?_)
      · refine r_aload_n hC dX6_takeFrom_54 2 rfl ?_
        refine r_iload_n hC dX6_takeFrom_55 0 rfl ?_
        refine r_aload_n hC dX6_takeFrom_56 1 rfl ?_
        refine r_geti hC 4 (ci := 6) rfl u6_in (by decide) mT_1_85 dX6_takeFrom_57 ka0 rfl rfl (fun x15_ e15 => ?_)
        have f15 : x15_.toInt = (I13 a0 4).toInt := by rw [e15]
        refine r_callV hC (As := [.int x10_, .int x15_]) (rest := []) (ci := 2) (c_X2_addFrom g (xL X) K len I13 J13 R hs13 a1 ka1 x10_ x15_) mT_3_45 mT_1_6 mT_3_42 mT_3_43 mT_3_44 okX2_addFrom ⟨by decide, by decide⟩ rfl (by show kO (K a1) = _; rw [ka1]; rfl) rfl rfl (Nat.le_of_ble_eq_true rfl) ⟨by decide, by decide⟩ dX6_takeFrom_60 (aV1 (F := fun st M => P g X 3 63 [(2, .int x10_), (0, .ref a0), (1, .ref a1)] st _ _ M) (M := (K, len, I13, J13, R)) fun I16 h16 => ?_)
        obtain ⟨hs16, hf16, k16_0, k16_1⟩ := h16
        show P g X 3 63 [(2, .int x10_), (0, .ref a0), (1, .ref a1)] [] _ _ (K, len, I16, J13, R)
        have hF16 : Fr K [(3, 4), (7, 4), (7, 5), (7, 6), (8, 2), (8, 3), (8, 4), (63, 999), (64, 999)] I I16 := hF13.trans hf16 rfl rfl
        refine r_iconst hC (v := (1)) dX6_takeFrom_63 (by decide) (by decide) (fun x17_ e17 t17 => ?_)
        exact r_iret hC hQ hlk hr (by rw [e17]; rfl) (by decide) (by decide) dX6_takeFrom_64 ⟨_, _, _, rfl, rfl, ⟨hs16, hF16, hFJ13, (by omega), (by omega)⟩⟩
      · refine r_iconst hC (v := (0)) dX6_takeFrom_52 (by decide) (by decide) (fun x18_ e18 t18 => ?_)
        exact r_iret hC hQ hlk hr (by rw [e18]; rfl) (by decide) (by decide) dX6_takeFrom_53 ⟨_, _, _, rfl, rfl, ⟨hs13, hF13, hFJ13, (by omega), (by omega)⟩⟩
    · refine r_iconst hC (v := (0)) dX6_takeFrom_32 (by decide) (by decide) (fun x19_ e19 t19 => ?_)
      exact r_iret hC hQ hlk hr (by rw [e19]; rfl) (by decide) (by decide) dX6_takeFrom_33 ⟨_, _, _, rfl, rfl, ⟨hs8, hF8, hFJ8, (by omega), (by omega)⟩⟩
  · refine r_aload_n hC dX6_takeFrom_9 0 rfl ?_
    refine r_iconst hC (v := (5)) dX6_takeFrom_10 (by decide) (by decide) (fun x20_ e20 t20 => ?_)
    refine r_callV hC (As := [.int x20_]) (rest := []) (ci := 6) (c_X6_faulty g (xL X) K len I J R hs a0 ka0 x20_) mT_2_233 mT_1_3 mT_2_230 mT_2_232 mP_5 okX6_faulty ⟨by decide, by decide⟩ rfl (by show kO (K a0) = _; rw [ka0]; rfl) rfl rfl (Nat.le_of_ble_eq_true rfl) ⟨by decide, by decide⟩ dX6_takeFrom_11 (aI1 (F := fun st M => P g X 3 14 [(0, .ref a0), (1, .ref a1)] st _ _ M) (M := (K, len, I, J, R)) fun x21_ I21 h21 => ?_)
    obtain ⟨hs21, hf21, k21_0⟩ := h21
    show P g X 3 14 [(0, .ref a0), (1, .ref a1)] [.int x21_] _ _ (K, len, I21, J, R)
    have hF21 : Fr K [(3, 4), (7, 4), (7, 5), (7, 6), (8, 2), (8, 3), (8, 4), (63, 999), (64, 999)] I I21 := hF.trans hf21 rfl rfl
    exact r_iret hC hQ hlk hr (nz_b (by omega) (by omega)) (by decide) (by decide) dX6_takeFrom_14 ⟨_, _, _, rfl, rfl, ⟨hs21, hF21, hFJ, (by omega), (by omega)⟩⟩
set_option maxHeartbeats 4000000 in
set_option maxRecDepth 100000 in
theorem c_X6_takeRain (g : GG) (l : Launch) (K len : Nat → Nat) (I : Nat → Nat → Int32) (J : Nat → Nat → Int64) (R : Nat → Nat → Option Nat) (hs : Sf K len I R) (a0 : Nat) (ka0 : K a0 = 7) (a1 : Nat) (ka1 : K a1 = 2) : Ct g l yX6_takeRain cX6_takeRain 3 (Option.some Jvm.ClassFile.FieldType.boolean) rmX6_takeRain [.ref a0, .ref a1] (K, len, I, J, R) (pI2 (K, len, I, J, R) (fun r I' J' => Sf K len I' R ∧ Fr K [(2, 4), (7, 4), (7, 5), (7, 6), (8, 2), (8, 3), (8, 4), (57, 999)] I I' ∧ Fr K [(8, 5)] J J' ∧ (0 ≤ r.toInt) ∧ (r.toInt ≤ 1))) := by
  refine Ct_intro (by decide +kernel) (Nat.le_of_ble_eq_true rfl) (fun X hC hL hKK hNm hr hlk hQ => ?_)
  subst hL
  have hC : Cx g X cX6_takeRain "HillTap$Teller" 3 rmX6_takeRain := hC
  show P g X 3 0 [(0, .ref a0), (1, .ref a1)] [] 0 0 (K, len, I, J, R)
  have hF : Fr K [(2, 4), (7, 4), (7, 5), (7, 6), (8, 2), (8, 3), (8, 4), (57, 999)] I I := Fr.refl
  have hFJ : Fr K [(8, 5)] J J := Fr.refl
  refine r_aload_n hC dX6_takeRain_0 1 rfl ?_
  refine r_geti hC 4 (ci := 1) rfl u1_in (by decide) mT_1_195 dX6_takeRain_1 ka1 rfl rfl (fun x1_ e1 => ?_)
  have r1 := hs.rng ka1 rfl e1
  refine r_bipush hC (v := (6)) dX6_takeRain_4 (by decide) (by decide) (fun x2_ e2 t2 => ?_)
  refine r_icmp_lt hC (tgt := 15) dX6_takeRain_6 (by decide) (fun c3 => ?_) (fun c3 => ?_)
  · refine r_aload_n hC dX6_takeRain_15 0 rfl ?_
    obtain ⟨a4_, hb4, hk4⟩ := hs.obj ka0 0 8 (by decide)
    refine r_getr hC 0 (ci := 6) rfl u6_in (by decide) mT_1_81 dX6_takeRain_16 ka0 rfl rfl hb4 ?_
    refine r_callV hC (As := []) (rest := []) (ci := 7) (c_X7_next g (xL X) K len I J R hs a4_ hk4) mT_2_159 mT_1_4 mT_2_234 mT_2_157 mT_2_158 okX7_next ⟨by decide, by decide⟩ rfl (by show kO (K a4_) = _; rw [hk4]; rfl) rfl rfl (Nat.le_of_ble_eq_true rfl) ⟨by decide, by decide⟩ dX6_takeRain_19 (aV2 (F := fun st M => P g X 3 22 [(0, .ref a0), (1, .ref a1)] st _ _ M) (M := (K, len, I, J, R)) fun I5 J5 h5 => ?_)
    obtain ⟨hs5, hf5, hfj5⟩ := h5
    show P g X 3 22 [(0, .ref a0), (1, .ref a1)] [] _ _ (K, len, I5, J5, R)
    have hF5 : Fr K [(2, 4), (7, 4), (7, 5), (7, 6), (8, 2), (8, 3), (8, 4), (57, 999)] I I5 := hF.trans hf5 rfl rfl
    have hFJ5 : Fr K [(8, 5)] J J5 := hFJ.trans hfj5 rfl rfl
    refine r_aload_n hC dX6_takeRain_22 0 rfl ?_
    refine r_iconst hC (v := (0)) dX6_takeRain_23 (by decide) (by decide) (fun x6_ e6 t6 => ?_)
    refine r_bipush hC (v := (59)) dX6_takeRain_24 (by decide) (by decide) (fun x7_ e7 t7 => ?_)
    refine r_callV hC (As := [.int x6_, .int x7_]) (rest := []) (ci := 6) (c_X6_takeWhole g (xL X) K len I5 J5 R hs5 a0 ka0 x6_ x7_) mT_3_3 mT_1_3 mT_3_0 mT_3_2 mP_7 okX6_takeWhole ⟨by decide, by decide⟩ rfl (by show kO (K a0) = _; rw [ka0]; rfl) rfl rfl (Nat.le_of_ble_eq_true rfl) ⟨by decide, by decide⟩ dX6_takeRain_26 (aI2 (F := fun st M => P g X 3 29 [(0, .ref a0), (1, .ref a1)] st _ _ M) (M := (K, len, I5, J5, R)) fun x8_ I8 J8 h8 => ?_)
    obtain ⟨hs8, hf8, hfj8, k8_0, k8_1, k8_2⟩ := h8
    show P g X 3 29 [(0, .ref a0), (1, .ref a1)] [.int x8_] _ _ (K, len, I8, J8, R)
    have hF8 : Fr K [(2, 4), (7, 4), (7, 5), (7, 6), (8, 2), (8, 3), (8, 4), (57, 999)] I I8 := hF5.trans hf8 rfl rfl
    have hFJ8 : Fr K [(8, 5)] J J8 := hFJ5.trans hfj8 rfl rfl
    refine r_if_ne hC (tgt := 34) dX6_takeRain_29 (by decide) (fun c9 => ?_) (fun c9 => ?_)
    · refine r_aload_n hC dX6_takeRain_34 0 rfl ?_
      refine r_geti hC 4 (ci := 6) rfl u6_in (by decide) mT_1_85 dX6_takeRain_35 ka0 rfl rfl (fun x10_ e10 => ?_)
      have f10 : x10_.toInt = (I8 a0 4).toInt := by rw [e10]
      refine r_istore_n hC (lv' := [(2, .int x10_), (0, .ref a0), (1, .ref a1)]) dX6_takeRain_38 (by decide) rfl ?_
      refine r_aload_n hC dX6_takeRain_39 1 rfl ?_
      refine r_ldcS hC (i := 13) (by decide) rfl rfl dX6_takeRain_40 ?_
      refine r_iconst hC (v := (1)) dX6_takeRain_42 (by decide) (by decide) (fun x11_ e11 t11 => ?_)
      refine r_bipush hC (v := (99)) dX6_takeRain_43 (by decide) (by decide) (fun x12_ e12 t12 => ?_)
      refine r_callV hC (As := [.ref (g.2.2.1 13), .int x11_, .int x12_]) (rest := []) (ci := 6) (c_X6_takeNumber g (xL X) K len I8 J8 R hs8 a0 ka0 13 (by decide) x11_ x12_) mT_2_239 mT_1_3 mT_2_236 mT_2_238 mP_6 okX6_takeNumber ⟨by decide, by decide⟩ rfl (by show kO (K a0) = _; rw [ka0]; rfl) rfl rfl (Nat.le_of_ble_eq_true rfl) ⟨by decide, by decide⟩ dX6_takeRain_45 (aI2 (F := fun st M => P g X 3 48 [(2, .int x10_), (0, .ref a0), (1, .ref a1)] st _ _ M) (M := (K, len, I8, J8, R)) fun x13_ I13 J13 h13 => ?_)
      obtain ⟨hs13, hf13, hfj13, k13_0, k13_1, k13_2⟩ := h13
      show P g X 3 48 [(2, .int x10_), (0, .ref a0), (1, .ref a1)] [.int x13_] _ _ (K, len, I13, J13, R)
      have hF13 : Fr K [(2, 4), (7, 4), (7, 5), (7, 6), (8, 2), (8, 3), (8, 4), (57, 999)] I I13 := hF8.trans hf13 rfl rfl
      have hFJ13 : Fr K [(8, 5)] J J13 := hFJ8.trans hfj13 rfl rfl
      refine r_if_ne hC (tgt := 53) dX6_takeRain_48 (by decide) (fun c14 => ?_) (fun c14 => ?_)
      · refine r_aload_n hC dX6_takeRain_53 2 rfl ?_
        obtain ⟨a15_, hb15, hk15, hn15⟩ := hs13.row ka1 5 57 60 (by decide) (by decide)
        refine r_getr hC 5 (ci := 1) rfl u1_in (by decide) mT_1_198 dX6_takeRain_54 ka1 rfl rfl hb15 ?_
        refine r_iload_n hC dX6_takeRain_57 0 rfl ?_
        refine r_dup2 hC dX6_takeRain_58 rfl rfl ?_
        refine x_iaload hC hk15 hn15 (by decide) rfl rfl dX6_takeRain_59 (by omega) (by omega) (fun x16_ e16 => ?_)
        refine r_aload_n hC dX6_takeRain_60 1 rfl ?_
        refine r_geti hC 4 (ci := 6) rfl u6_in (by decide) mT_1_85 dX6_takeRain_61 ka0 rfl rfl (fun x17_ e17 => ?_)
        have f17 : x17_.toInt = (I13 a0 4).toInt := by rw [e17]
        refine r_iadd hC dX6_takeRain_64 (fun x18_ e18 => ?_)
        try have t18 : x18_.toInt = x16_.toInt + x17_.toInt := by rw [e18]; exact ti_add (by omega) (by omega)
        refine x_iastore hC hk15 hn15 (by decide) rfl rfl dX6_takeRain_65 (by omega) (by omega) (fun I19 eI19 => ?_)
        have hs19 := hs13.put0 eI19 hk15 (rng_arr (by decide) _) rfl (xF_arr (by decide) _) (by decide)
        have hF19 := hF13.put eI19 hk15 (inS_arr rfl _)
        refine r_aload_n hC dX6_takeRain_66 2 rfl ?_
        refine r_dup hC dX6_takeRain_67 rfl ?_
        refine r_geti hC 4 (ci := 1) rfl u1_in (by decide) mT_1_195 dX6_takeRain_68 ka1 rfl rfl (fun x20_ e20 => ?_)
        have r20 := hs19.rng ka1 rfl e20
        have w20 : x20_ = x1_ := by rw [e20]; exact (Eq.trans (up2_kk eI19 hk15 ka1 (by decide)) (Eq.trans (hf13.get ka1 rfl) (Eq.trans (hf8.get ka1 rfl) (Eq.trans (hf5.get ka1 rfl) e1.symm))))
        have wt20 : x20_.toInt = x1_.toInt := by rw [w20]
        refine r_iconst hC (v := (1)) dX6_takeRain_71 (by decide) (by decide) (fun x21_ e21 t21 => ?_)
        refine r_iadd hC dX6_takeRain_72 (fun x22_ e22 => ?_)
        try have t22 : x22_.toInt = x20_.toInt + x21_.toInt := by rw [e22]; exact ti_add (by omega) (by omega)
        refine r_puti hC 4 (ci := 1) rfl u1_in tyX1_ok nmX1 (by decide) mT_1_195 rfl rfl rfl dX6_takeRain_73 ka1 rfl rfl (fun I23 eI23 => ?_)
        have hs23 := hs19.put1 eI23 ka1 rfl (by omega) (by omega) rfl rfl (by decide)
        have hF23 := hF19.put eI23 ka1 rfl
        refine r_iconst hC (v := (1)) dX6_takeRain_76 (by decide) (by decide) (fun x24_ e24 t24 => ?_)
        exact r_iret hC hQ hlk hr (by rw [e24]; rfl) (by decide) (by decide) dX6_takeRain_77 ⟨_, _, _, rfl, rfl, ⟨hs23, hF23, hFJ13, (by omega), (by omega)⟩⟩
      · refine r_iconst hC (v := (0)) dX6_takeRain_51 (by decide) (by decide) (fun x25_ e25 t25 => ?_)
        exact r_iret hC hQ hlk hr (by rw [e25]; rfl) (by decide) (by decide) dX6_takeRain_52 ⟨_, _, _, rfl, rfl, ⟨hs13, hF13, hFJ13, (by omega), (by omega)⟩⟩
    · refine r_iconst hC (v := (0)) dX6_takeRain_32 (by decide) (by decide) (fun x26_ e26 t26 => ?_)
      exact r_iret hC hQ hlk hr (by rw [e26]; rfl) (by decide) (by decide) dX6_takeRain_33 ⟨_, _, _, rfl, rfl, ⟨hs8, hF8, hFJ8, (by omega), (by omega)⟩⟩
  · refine r_aload_n hC dX6_takeRain_9 0 rfl ?_
    refine r_iconst hC (v := (5)) dX6_takeRain_10 (by decide) (by decide) (fun x27_ e27 t27 => ?_)
    refine r_callV hC (As := [.int x27_]) (rest := []) (ci := 6) (c_X6_faulty g (xL X) K len I J R hs a0 ka0 x27_) mT_2_233 mT_1_3 mT_2_230 mT_2_232 mP_5 okX6_faulty ⟨by decide, by decide⟩ rfl (by show kO (K a0) = _; rw [ka0]; rfl) rfl rfl (Nat.le_of_ble_eq_true rfl) ⟨by decide, by decide⟩ dX6_takeRain_11 (aI1 (F := fun st M => P g X 3 14 [(0, .ref a0), (1, .ref a1)] st _ _ M) (M := (K, len, I, J, R)) fun x28_ I28 h28 => ?_)
    obtain ⟨hs28, hf28, k28_0⟩ := h28
    show P g X 3 14 [(0, .ref a0), (1, .ref a1)] [.int x28_] _ _ (K, len, I28, J, R)
    have hF28 : Fr K [(2, 4), (7, 4), (7, 5), (7, 6), (8, 2), (8, 3), (8, 4), (57, 999)] I I28 := hF.trans hf28 rfl rfl
    exact r_iret hC hQ hlk hr (nz_b (by omega) (by omega)) (by decide) (by decide) dX6_takeRain_14 ⟨_, _, _, rfl, rfl, ⟨hs28, hF28, hFJ, (by omega), (by omega)⟩⟩
set_option maxHeartbeats 4000000 in
set_option maxRecDepth 100000 in
theorem c_X6_takeStory (g : GG) (l : Launch) (K len : Nat → Nat) (I : Nat → Nat → Int32) (J : Nat → Nat → Int64) (R : Nat → Nat → Option Nat) (hs : Sf K len I R) (a0 : Nat) (ka0 : K a0 = 7) (a1 : Nat) (ka1 : K a1 = 2) : Ct g l yX6_takeStory cX6_takeStory 3 (Option.some Jvm.ClassFile.FieldType.boolean) rmX6_takeStory [.ref a0, .ref a1] (K, len, I, J, R) (pI2 (K, len, I, J, R) (fun r I' J' => Sf K len I' R ∧ Fr K [(2, 6), (5, 0), (5, 1), (5, 2), (5, 3), (7, 3), (7, 4), (7, 5), (7, 6), (8, 2), (8, 3), (8, 4)] I I' ∧ Fr K [(8, 5), (42, 999)] J J' ∧ (0 ≤ r.toInt) ∧ (r.toInt ≤ 1))) := by
  refine Ct_intro (by decide +kernel) (Nat.le_of_ble_eq_true rfl) (fun X hC hL hKK hNm hr hlk hQ => ?_)
  subst hL
  have hC : Cx g X cX6_takeStory "HillTap$Teller" 3 rmX6_takeStory := hC
  show P g X 3 0 [(0, .ref a0), (1, .ref a1)] [] 0 0 (K, len, I, J, R)
  have hF : Fr K [(2, 6), (5, 0), (5, 1), (5, 2), (5, 3), (7, 3), (7, 4), (7, 5), (7, 6), (8, 2), (8, 3), (8, 4)] I I := Fr.refl
  have hFJ : Fr K [(8, 5), (42, 999)] J J := Fr.refl
  refine r_aload_n hC dX6_takeStory_0 1 rfl ?_
  refine r_geti hC 6 (ci := 1) rfl u1_in (by decide) mT_1_201 dX6_takeStory_1 ka1 rfl rfl (fun x1_ e1 => ?_)
  have r1 := hs.rng ka1 rfl e1
  refine r_bipush hC (v := (6)) dX6_takeStory_4 (by decide) (by decide) (fun x2_ e2 t2 => ?_)
  refine r_icmp_lt hC (tgt := 15) dX6_takeStory_6 (by decide) (fun c3 => ?_) (fun c3 => ?_)
  · refine r_aload_n hC dX6_takeStory_15 1 rfl ?_
    obtain ⟨a4_, hb4, hk4, hn4⟩ := hs.row ka1 7 45 6 (by decide) (by decide)
    refine r_getr hC 7 (ci := 1) rfl u1_in (by decide) mT_1_204 dX6_takeStory_16 ka1 rfl rfl hb4 ?_
    refine r_aload_n hC dX6_takeStory_19 1 rfl ?_
    refine r_geti hC 6 (ci := 1) rfl u1_in (by decide) mT_1_201 dX6_takeStory_20 ka1 rfl rfl (fun x5_ e5 => ?_)
    have r5 := hs.rng ka1 rfl e5
    have w5 : x5_ = x1_ := by rw [e5]; exact e1.symm
    have wt5 : x5_.toInt = x1_.toInt := by rw [w5]
    obtain ⟨a6_, hb6, hk6⟩ := hs.sto hk4 (i := x5_) (by omega) (by omega)
    refine x_aaload (C := "HillTap$Story") hC hk4 hn4 (by decide) rfl (by decide) dX6_takeStory_23 (by omega) (by omega) hb6 ?_
    refine r_astore_n hC (lv' := [(2, .ref a6_), (0, .ref a0), (1, .ref a1)]) dX6_takeStory_24 (by decide) rfl ?_
    refine r_aload_n hC dX6_takeStory_25 1 rfl ?_
    obtain ⟨a7_, hb7, hk7⟩ := hs.obj ka0 0 8 (by decide)
    refine r_getr hC 0 (ci := 6) rfl u6_in (by decide) mT_1_81 dX6_takeStory_26 ka0 rfl rfl hb7 ?_
    refine r_callV hC (As := []) (rest := []) (ci := 7) (c_X7_next g (xL X) K len I J R hs a7_ hk7) mT_2_159 mT_1_4 mT_2_234 mT_2_157 mT_2_158 okX7_next ⟨by decide, by decide⟩ rfl (by show kO (K a7_) = _; rw [hk7]; rfl) rfl rfl (Nat.le_of_ble_eq_true rfl) ⟨by decide, by decide⟩ dX6_takeStory_29 (aV2 (F := fun st M => P g X 3 32 [(2, .ref a6_), (0, .ref a0), (1, .ref a1)] st _ _ M) (M := (K, len, I, J, R)) fun I8 J8 h8 => ?_)
    obtain ⟨hs8, hf8, hfj8⟩ := h8
    show P g X 3 32 [(2, .ref a6_), (0, .ref a0), (1, .ref a1)] [] _ _ (K, len, I8, J8, R)
    have hF8 : Fr K [(2, 6), (5, 0), (5, 1), (5, 2), (5, 3), (7, 3), (7, 4), (7, 5), (7, 6), (8, 2), (8, 3), (8, 4)] I I8 := hF.trans hf8 rfl rfl
    have hFJ8 : Fr K [(8, 5), (42, 999)] J J8 := hFJ.trans hfj8 rfl rfl
    refine r_aload_n hC dX6_takeStory_32 1 rfl ?_
    refine r_callV hC (As := []) (rest := []) (ci := 6) (c_X6_takeNewName g (xL X) K len I8 J8 R hs8 a0 ka0) mT_3_21 mT_1_3 mT_3_18 mT_3_20 mP_9 okX6_takeNewName ⟨by decide, by decide⟩ rfl (by show kO (K a0) = _; rw [ka0]; rfl) rfl rfl (Nat.le_of_ble_eq_true rfl) ⟨by decide, by decide⟩ dX6_takeStory_33 (aI2 (F := fun st M => P g X 3 36 [(2, .ref a6_), (0, .ref a0), (1, .ref a1)] st _ _ M) (M := (K, len, I8, J8, R)) fun x9_ I9 J9 h9 => ?_)
    obtain ⟨hs9, hf9, hfj9, k9_0, k9_1⟩ := h9
    show P g X 3 36 [(2, .ref a6_), (0, .ref a0), (1, .ref a1)] [.int x9_] _ _ (K, len, I9, J9, R)
    have hF9 : Fr K [(2, 6), (5, 0), (5, 1), (5, 2), (5, 3), (7, 3), (7, 4), (7, 5), (7, 6), (8, 2), (8, 3), (8, 4)] I I9 := hF8.trans hf9 rfl rfl
    have hFJ9 : Fr K [(8, 5), (42, 999)] J J9 := hFJ8.trans hfj9 rfl rfl
    refine r_if_eq hC (tgt := 51) dX6_takeStory_36 (by decide) (fun c10 => ?_) (fun c10 => ?_)
    · refine r_iconst hC (v := (0)) dX6_takeStory_51 (by decide) (by decide) (fun x11_ e11 t11 => ?_)
      exact r_iret hC hQ hlk hr (by rw [e11]; rfl) (by decide) (by decide) dX6_takeStory_52 ⟨_, _, _, rfl, rfl, ⟨hs9, hF9, hFJ9, (by omega), (by omega)⟩⟩
    · refine r_aload_n hC dX6_takeStory_39 1 rfl ?_
      refine r_ldcS hC (i := 14) (by decide) rfl rfl dX6_takeStory_40 ?_
      refine r_iconst hC (v := (1)) dX6_takeStory_42 (by decide) (by decide) (fun x12_ e12 t12 => ?_)
      refine r_bipush hC (v := (99)) dX6_takeStory_43 (by decide) (by decide) (fun x13_ e13 t13 => ?_)
      refine r_callV hC (As := [.ref (g.2.2.1 14), .int x12_, .int x13_]) (rest := []) (ci := 6) (c_X6_takeNumber g (xL X) K len I9 J9 R hs9 a0 ka0 14 (by decide) x12_ x13_) mT_2_239 mT_1_3 mT_2_236 mT_2_238 mP_6 okX6_takeNumber ⟨by decide, by decide⟩ rfl (by show kO (K a0) = _; rw [ka0]; rfl) rfl rfl (Nat.le_of_ble_eq_true rfl) ⟨by decide, by decide⟩ dX6_takeStory_45 (aI2 (F := fun st M => P g X 3 48 [(2, .ref a6_), (0, .ref a0), (1, .ref a1)] st _ _ M) (M := (K, len, I9, J9, R)) fun x14_ I14 J14 h14 => ?_)
      obtain ⟨hs14, hf14, hfj14, k14_0, k14_1, k14_2⟩ := h14
      show P g X 3 48 [(2, .ref a6_), (0, .ref a0), (1, .ref a1)] [.int x14_] _ _ (K, len, I14, J14, R)
      have hF14 : Fr K [(2, 6), (5, 0), (5, 1), (5, 2), (5, 3), (7, 3), (7, 4), (7, 5), (7, 6), (8, 2), (8, 3), (8, 4)] I I14 := hF9.trans hf14 rfl rfl
      have hFJ14 : Fr K [(8, 5), (42, 999)] J J14 := hFJ9.trans hfj14 rfl rfl
      refine r_if_ne hC (tgt := 53) dX6_takeStory_48 (by decide) (fun c15 => ?_) (fun c15 => ?_)
      · refine r_aload_n hC dX6_takeStory_53 0 rfl ?_
        refine r_aload_n hC dX6_takeStory_54 1 rfl ?_
        refine r_geti hC 4 (ci := 6) rfl u6_in (by decide) mT_1_85 dX6_takeStory_55 ka0 rfl rfl (fun x16_ e16 => ?_)
        have f16 : x16_.toInt = (I14 a0 4).toInt := by rw [e16]
        refine r_puti hC 0 (ci := 4) rfl u4_in tyX4_ok nmX4 (by decide) mT_1_160 rfl rfl rfl dX6_takeStory_58 hk6 rfl rfl (fun I17 eI17 => ?_)
        have hs17 := hs14.put0 eI17 hk6 rfl rfl rfl (by decide)
        have hF17 := hF14.put eI17 hk6 rfl
        refine r_aload_n hC dX6_takeStory_61 0 rfl ?_
        refine r_aload_n hC dX6_takeStory_62 1 rfl ?_
        refine r_callV hC (As := []) (rest := [.ref a6_]) (ci := 6) (c_X6_kindHere g (xL X) K len I17 J14 R hs17 a0 ka0) mT_3_59 mT_1_3 mT_3_56 mT_3_58 mP_14 okX6_kindHere ⟨by decide, by decide⟩ rfl (by show kO (K a0) = _; rw [ka0]; rfl) rfl rfl (Nat.le_of_ble_eq_true rfl) ⟨by decide, by decide⟩ dX6_takeStory_63 (aI0 (F := fun st M => P g X 3 66 [(2, .ref a6_), (0, .ref a0), (1, .ref a1)] st _ _ M) (M := (K, len, I17, J14, R)) fun x18_ h18 => ?_)
        skip
        show P g X 3 66 [(2, .ref a6_), (0, .ref a0), (1, .ref a1)] [.int x18_, .ref a6_] _ _ (K, len, I17, J14, R)
        refine r_puti hC 1 (ci := 4) rfl u4_in tyX4_ok nmX4 (by decide) mT_1_164 rfl rfl rfl dX6_takeStory_66 hk6 rfl rfl (fun I19 eI19 => ?_)
        have hs19 := hs17.put0 eI19 hk6 rfl rfl rfl (by decide)
        have hF19 := hF17.put eI19 hk6 rfl
        refine r_aload_n hC dX6_takeStory_69 0 rfl ?_
        refine r_geti hC 1 (ci := 4) rfl u4_in (by decide) mT_1_164 dX6_takeStory_70 hk6 rfl rfl (fun x20_ e20 => ?_)
        have w20 : x20_ = x18_ := by rw [e20]; exact (by rw [eI19]; exact up2_self _ _ _ _)
        have wt20 : x20_.toInt = x18_.toInt := by rw [w20]
        refine r_iconst hC (v := (-1)) dX6_takeStory_73 (by decide) (by decide) (fun x21_ e21 t21 => ?_)
        refine r_icmp_ne hC (tgt := 83) dX6_takeStory_74 (by decide) (fun c22 => ?_) (fun c22 => ?_)
        · refine r_aload_n hC dX6_takeStory_83 1 rfl ?_
          refine r_getr hC 0 (ci := 6) rfl u6_in (by decide) mT_1_81 dX6_takeStory_84 ka0 rfl rfl hb7 ?_
          refine r_callV hC (As := []) (rest := []) (ci := 7) (c_X7_next g (xL X) K len I19 J14 R hs19 a7_ hk7) mT_2_159 mT_1_4 mT_2_234 mT_2_157 mT_2_158 okX7_next ⟨by decide, by decide⟩ rfl (by show kO (K a7_) = _; rw [hk7]; rfl) rfl rfl (Nat.le_of_ble_eq_true rfl) ⟨by decide, by decide⟩ dX6_takeStory_87 (aV2 (F := fun st M => P g X 3 90 [(2, .ref a6_), (0, .ref a0), (1, .ref a1)] st _ _ M) (M := (K, len, I19, J14, R)) fun I23 J23 h23 => ?_)
          obtain ⟨hs23, hf23, hfj23⟩ := h23
          show P g X 3 90 [(2, .ref a6_), (0, .ref a0), (1, .ref a1)] [] _ _ (K, len, I23, J23, R)
          have hF23 : Fr K [(2, 6), (5, 0), (5, 1), (5, 2), (5, 3), (7, 3), (7, 4), (7, 5), (7, 6), (8, 2), (8, 3), (8, 4)] I I23 := hF19.trans hf23 rfl rfl
          have hFJ23 : Fr K [(8, 5), (42, 999)] J J23 := hFJ14.trans hfj23 rfl rfl
          refine r_aload_n hC dX6_takeStory_90 1 rfl ?_
          refine r_iconst hC (v := (0)) dX6_takeStory_91 (by decide) (by decide) (fun x24_ e24 t24 => ?_)
          refine r_bipush hC (v := (99)) dX6_takeStory_92 (by decide) (by decide) (fun x25_ e25 t25 => ?_)
          refine r_callV hC (As := [.int x24_, .int x25_]) (rest := []) (ci := 6) (c_X6_takeWhole g (xL X) K len I23 J23 R hs23 a0 ka0 x24_ x25_) mT_3_3 mT_1_3 mT_3_0 mT_3_2 mP_7 okX6_takeWhole ⟨by decide, by decide⟩ rfl (by show kO (K a0) = _; rw [ka0]; rfl) rfl rfl (Nat.le_of_ble_eq_true rfl) ⟨by decide, by decide⟩ dX6_takeStory_94 (aI2 (F := fun st M => P g X 3 97 [(2, .ref a6_), (0, .ref a0), (1, .ref a1)] st _ _ M) (M := (K, len, I23, J23, R)) fun x26_ I26 J26 h26 => ?_)
          obtain ⟨hs26, hf26, hfj26, k26_0, k26_1, k26_2⟩ := h26
          show P g X 3 97 [(2, .ref a6_), (0, .ref a0), (1, .ref a1)] [.int x26_] _ _ (K, len, I26, J26, R)
          have hF26 : Fr K [(2, 6), (5, 0), (5, 1), (5, 2), (5, 3), (7, 3), (7, 4), (7, 5), (7, 6), (8, 2), (8, 3), (8, 4)] I I26 := hF23.trans hf26 rfl rfl
          have hFJ26 : Fr K [(8, 5), (42, 999)] J J26 := hFJ23.trans hfj26 rfl rfl
          refine r_if_ne hC (tgt := 102) dX6_takeStory_97 (by decide) (fun c27 => ?_) (fun c27 => ?_)
          · refine r_aload_n hC dX6_takeStory_102 0 rfl ?_
            refine r_aload_n hC dX6_takeStory_103 1 rfl ?_
            refine r_geti hC 4 (ci := 6) rfl u6_in (by decide) mT_1_85 dX6_takeStory_104 ka0 rfl rfl (fun x28_ e28 => ?_)
            have f28 : x28_.toInt = (I26 a0 4).toInt := by rw [e28]
            refine r_puti hC 2 (ci := 4) rfl u4_in tyX4_ok nmX4 (by decide) mT_1_168 rfl rfl rfl dX6_takeStory_107 hk6 rfl rfl (fun I29 eI29 => ?_)
            have hs29 := hs26.put0 eI29 hk6 rfl rfl rfl (by decide)
            have hF29 := hF26.put eI29 hk6 rfl
            refine r_aload_n hC dX6_takeStory_110 0 rfl ?_
            refine r_geti hC 1 (ci := 4) rfl u4_in (by decide) mT_1_164 dX6_takeStory_111 hk6 rfl rfl (fun x30_ e30 => ?_)
            have w30 : x30_ = x20_ := by rw [e30]; exact (Eq.trans (up2_at (Or.inr (by decide)) eI29) (Eq.trans (hf26.get hk6 rfl) (Eq.trans (hf23.get hk6 rfl) e20.symm)))
            have wt30 : x30_.toInt = x20_.toInt := by rw [w30]
            refine r_iconst hC (v := (2)) dX6_takeStory_114 (by decide) (by decide) (fun x31_ e31 t31 => ?_)
            refine r_icmp_ne hC (tgt := 132) dX6_takeStory_115 (by decide) (fun c32 => ?_) (fun c32 => ?_)
            · refine r_aload_n hC dX6_takeStory_132 0 rfl ?_
              refine r_geti hC 1 (ci := 4) rfl u4_in (by decide) mT_1_164 dX6_takeStory_133 hk6 rfl rfl (fun x33_ e33 => ?_)
              have w33 : x33_ = x30_ := by rw [e33]; exact e30.symm
              have wt33 : x33_.toInt = x30_.toInt := by rw [w33]
              refine r_iconst hC (v := (3)) dX6_takeStory_136 (by decide) (by decide) (fun x34_ e34 t34 => ?_)
              refine r_icmp_ne hC (tgt := 155) dX6_takeStory_137 (by decide) (fun c35 => ?_) (fun c35 => ?_)
              · refine r_aload_n hC dX6_takeStory_155 0 rfl ?_
                refine r_geti hC 1 (ci := 4) rfl u4_in (by decide) mT_1_164 dX6_takeStory_156 hk6 rfl rfl (fun x36_ e36 => ?_)
                have w36 : x36_ = x33_ := by rw [e36]; exact e33.symm
                have wt36 : x36_.toInt = x33_.toInt := by rw [w36]
                refine r_iconst hC (v := (4)) dX6_takeStory_159 (by decide) (by decide) (fun x37_ e37 t37 => ?_)
                refine r_icmp_ne hC (tgt := 177) dX6_takeStory_160 (by decide) (fun c38 => ?_) (fun c38 => ?_)
                · refine r_aload_n hC dX6_takeStory_177 0 rfl ?_
                  refine r_aload_n hC dX6_takeStory_178 1 rfl ?_
                  refine r_geti hC 4 (ci := 6) rfl u6_in (by decide) mT_1_85 dX6_takeStory_179 ka0 rfl rfl (fun x39_ e39 => ?_)
                  have f39 : x39_.toInt = (I29 a0 4).toInt := by rw [e39]
                  have w39 : x39_ = x28_ := by rw [e39]; exact (Eq.trans (up2_kk eI29 hk6 ka0 (by decide)) e28.symm)
                  have wt39 : x39_.toInt = x28_.toInt := by rw [w39]
                  refine r_puti hC 3 (ci := 4) rfl u4_in tyX4_ok nmX4 (by decide) mT_1_170 rfl rfl rfl dX6_takeStory_182 hk6 rfl rfl (fun I40 eI40 => ?_)
                  have hs40 := hs29.put0 eI40 hk6 rfl rfl rfl (by decide)
                  have hF40 := hF29.put eI40 hk6 rfl
                  refine r_aload_n hC dX6_takeStory_185 2 rfl ?_
                  refine r_dup hC dX6_takeStory_186 rfl ?_
                  refine r_geti hC 6 (ci := 1) rfl u1_in (by decide) mT_1_201 dX6_takeStory_187 ka1 rfl rfl (fun x41_ e41 => ?_)
                  have r41 := hs40.rng ka1 rfl e41
                  have w41 : x41_ = x5_ := by rw [e41]; exact (Eq.trans (up2_kk eI40 hk6 ka1 (by decide)) (Eq.trans (up2_kk eI29 hk6 ka1 (by decide)) (Eq.trans (hf26.get ka1 rfl) (Eq.trans (hf23.get ka1 rfl) (Eq.trans (up2_kk eI19 hk6 ka1 (by decide)) (Eq.trans (up2_kk eI17 hk6 ka1 (by decide)) (Eq.trans (hf14.get ka1 rfl) (Eq.trans (hf9.get ka1 rfl) (Eq.trans (hf8.get ka1 rfl) e5.symm)))))))))
                  have wt41 : x41_.toInt = x5_.toInt := by rw [w41]
                  refine r_iconst hC (v := (1)) dX6_takeStory_190 (by decide) (by decide) (fun x42_ e42 t42 => ?_)
                  refine r_iadd hC dX6_takeStory_191 (fun x43_ e43 => ?_)
                  try have t43 : x43_.toInt = x41_.toInt + x42_.toInt := by rw [e43]; exact ti_add (by omega) (by omega)
                  refine r_puti hC 6 (ci := 1) rfl u1_in tyX1_ok nmX1 (by decide) mT_1_201 rfl rfl rfl dX6_takeStory_192 ka1 rfl rfl (fun I44 eI44 => ?_)
                  have hs44 := hs40.put1 eI44 ka1 rfl (by omega) (by omega) rfl rfl (by decide)
                  have hF44 := hF40.put eI44 ka1 rfl
                  refine r_iconst hC (v := (1)) dX6_takeStory_195 (by decide) (by decide) (fun x45_ e45 t45 => ?_)
                  exact r_iret hC hQ hlk hr (by rw [e45]; rfl) (by decide) (by decide) dX6_takeStory_196 ⟨_, _, _, rfl, rfl, ⟨hs44, hF44, hFJ26, (by omega), (by omega)⟩⟩
                · refine r_aload_n hC dX6_takeStory_163 1 rfl ?_
                  refine r_ldcS hC (i := 23) (by decide) rfl rfl dX6_takeStory_164 ?_
                  refine r_iconst hC (v := (1)) dX6_takeStory_166 (by decide) (by decide) (fun x46_ e46 t46 => ?_)
                  refine r_bipush hC (v := (99)) dX6_takeStory_167 (by decide) (by decide) (fun x47_ e47 t47 => ?_)
                  refine r_callV hC (As := [.ref (g.2.2.1 23), .int x46_, .int x47_]) (rest := []) (ci := 6) (c_X6_takeNumber g (xL X) K len I29 J26 R hs29 a0 ka0 23 (by decide) x46_ x47_) mT_2_239 mT_1_3 mT_2_236 mT_2_238 mP_6 okX6_takeNumber ⟨by decide, by decide⟩ rfl (by show kO (K a0) = _; rw [ka0]; rfl) rfl rfl (Nat.le_of_ble_eq_true rfl) ⟨by decide, by decide⟩ dX6_takeStory_169 (aI2 (F := fun st M => P g X 3 172 [(2, .ref a6_), (0, .ref a0), (1, .ref a1)] st _ _ M) (M := (K, len, I29, J26, R)) fun x48_ I48 J48 h48 => ?_)
                  obtain ⟨hs48, hf48, hfj48, k48_0, k48_1, k48_2⟩ := h48
                  show P g X 3 172 [(2, .ref a6_), (0, .ref a0), (1, .ref a1)] [.int x48_] _ _ (K, len, I48, J48, R)
                  have hF48 : Fr K [(2, 6), (5, 0), (5, 1), (5, 2), (5, 3), (7, 3), (7, 4), (7, 5), (7, 6), (8, 2), (8, 3), (8, 4)] I I48 := hF29.trans hf48 rfl rfl
                  have hFJ48 : Fr K [(8, 5), (42, 999)] J J48 := hFJ26.trans hfj48 rfl rfl
                  refine r_if_ne hC (tgt := 177) dX6_takeStory_172 (by decide) (fun c49 => ?_) (fun c49 => ?_)
                  · refine r_aload_n hC dX6_takeStory_177 0 rfl ?_
                    refine r_aload_n hC dX6_takeStory_178 1 rfl ?_
                    refine r_geti hC 4 (ci := 6) rfl u6_in (by decide) mT_1_85 dX6_takeStory_179 ka0 rfl rfl (fun x50_ e50 => ?_)
                    have f50 : x50_.toInt = (I48 a0 4).toInt := by rw [e50]
                    refine r_puti hC 3 (ci := 4) rfl u4_in tyX4_ok nmX4 (by decide) mT_1_170 rfl rfl rfl dX6_takeStory_182 hk6 rfl rfl (fun I51 eI51 => ?_)
                    have hs51 := hs48.put0 eI51 hk6 rfl rfl rfl (by decide)
                    have hF51 := hF48.put eI51 hk6 rfl
                    refine r_aload_n hC dX6_takeStory_185 2 rfl ?_
                    refine r_dup hC dX6_takeStory_186 rfl ?_
                    refine r_geti hC 6 (ci := 1) rfl u1_in (by decide) mT_1_201 dX6_takeStory_187 ka1 rfl rfl (fun x52_ e52 => ?_)
                    have r52 := hs51.rng ka1 rfl e52
                    have w52 : x52_ = x5_ := by rw [e52]; exact (Eq.trans (up2_kk eI51 hk6 ka1 (by decide)) (Eq.trans (hf48.get ka1 rfl) (Eq.trans (up2_kk eI29 hk6 ka1 (by decide)) (Eq.trans (hf26.get ka1 rfl) (Eq.trans (hf23.get ka1 rfl) (Eq.trans (up2_kk eI19 hk6 ka1 (by decide)) (Eq.trans (up2_kk eI17 hk6 ka1 (by decide)) (Eq.trans (hf14.get ka1 rfl) (Eq.trans (hf9.get ka1 rfl) (Eq.trans (hf8.get ka1 rfl) e5.symm))))))))))
                    have wt52 : x52_.toInt = x5_.toInt := by rw [w52]
                    refine r_iconst hC (v := (1)) dX6_takeStory_190 (by decide) (by decide) (fun x53_ e53 t53 => ?_)
                    refine r_iadd hC dX6_takeStory_191 (fun x54_ e54 => ?_)
                    try have t54 : x54_.toInt = x52_.toInt + x53_.toInt := by rw [e54]; exact ti_add (by omega) (by omega)
                    refine r_puti hC 6 (ci := 1) rfl u1_in tyX1_ok nmX1 (by decide) mT_1_201 rfl rfl rfl dX6_takeStory_192 ka1 rfl rfl (fun I55 eI55 => ?_)
                    have hs55 := hs51.put1 eI55 ka1 rfl (by omega) (by omega) rfl rfl (by decide)
                    have hF55 := hF51.put eI55 ka1 rfl
                    refine r_iconst hC (v := (1)) dX6_takeStory_195 (by decide) (by decide) (fun x56_ e56 t56 => ?_)
                    exact r_iret hC hQ hlk hr (by rw [e56]; rfl) (by decide) (by decide) dX6_takeStory_196 ⟨_, _, _, rfl, rfl, ⟨hs55, hF55, hFJ48, (by omega), (by omega)⟩⟩
                  · refine r_iconst hC (v := (0)) dX6_takeStory_175 (by decide) (by decide) (fun x57_ e57 t57 => ?_)
                    exact r_iret hC hQ hlk hr (by rw [e57]; rfl) (by decide) (by decide) dX6_takeStory_176 ⟨_, _, _, rfl, rfl, ⟨hs48, hF48, hFJ48, (by omega), (by omega)⟩⟩
              · refine r_aload_n hC dX6_takeStory_140 1 rfl ?_
                refine r_ldcS hC (i := 22) (by decide) rfl rfl dX6_takeStory_141 ?_
                refine r_iconst hC (v := (0)) dX6_takeStory_143 (by decide) (by decide) (fun x58_ e58 t58 => ?_)
                refine r_sipush hC (v := (999)) dX6_takeStory_144 (by decide) (by decide) (fun x59_ e59 t59 => ?_)
                refine r_callV hC (As := [.ref (g.2.2.1 22), .int x58_, .int x59_]) (rest := []) (ci := 6) (c_X6_takeNumber g (xL X) K len I29 J26 R hs29 a0 ka0 22 (by decide) x58_ x59_) mT_2_239 mT_1_3 mT_2_236 mT_2_238 mP_6 okX6_takeNumber ⟨by decide, by decide⟩ rfl (by show kO (K a0) = _; rw [ka0]; rfl) rfl rfl (Nat.le_of_ble_eq_true rfl) ⟨by decide, by decide⟩ dX6_takeStory_147 (aI2 (F := fun st M => P g X 3 150 [(2, .ref a6_), (0, .ref a0), (1, .ref a1)] st _ _ M) (M := (K, len, I29, J26, R)) fun x60_ I60 J60 h60 => ?_)
                obtain ⟨hs60, hf60, hfj60, k60_0, k60_1, k60_2⟩ := h60
                show P g X 3 150 [(2, .ref a6_), (0, .ref a0), (1, .ref a1)] [.int x60_] _ _ (K, len, I60, J60, R)
                have hF60 : Fr K [(2, 6), (5, 0), (5, 1), (5, 2), (5, 3), (7, 3), (7, 4), (7, 5), (7, 6), (8, 2), (8, 3), (8, 4)] I I60 := hF29.trans hf60 rfl rfl
                have hFJ60 : Fr K [(8, 5), (42, 999)] J J60 := hFJ26.trans hfj60 rfl rfl
                refine r_if_ne hC (tgt := 155) dX6_takeStory_150 (by decide) (fun c61 => ?_) (fun c61 => ?_)
                · refine r_aload_n hC dX6_takeStory_155 0 rfl ?_
                  refine r_geti hC 1 (ci := 4) rfl u4_in (by decide) mT_1_164 dX6_takeStory_156 hk6 rfl rfl (fun x62_ e62 => ?_)
                  have w62 : x62_ = x33_ := by rw [e62]; exact (Eq.trans (hf60.get hk6 rfl) e33.symm)
                  have wt62 : x62_.toInt = x33_.toInt := by rw [w62]
                  refine r_iconst hC (v := (4)) dX6_takeStory_159 (by decide) (by decide) (fun x63_ e63 t63 => ?_)
                  refine r_icmp_ne hC (tgt := 177) dX6_takeStory_160 (by decide) (fun c64 => ?_) (fun c64 => ?_)
                  · refine r_aload_n hC dX6_takeStory_177 0 rfl ?_
                    refine r_aload_n hC dX6_takeStory_178 1 rfl ?_
                    refine r_geti hC 4 (ci := 6) rfl u6_in (by decide) mT_1_85 dX6_takeStory_179 ka0 rfl rfl (fun x65_ e65 => ?_)
                    have f65 : x65_.toInt = (I60 a0 4).toInt := by rw [e65]
                    refine r_puti hC 3 (ci := 4) rfl u4_in tyX4_ok nmX4 (by decide) mT_1_170 rfl rfl rfl dX6_takeStory_182 hk6 rfl rfl (fun I66 eI66 => ?_)
                    have hs66 := hs60.put0 eI66 hk6 rfl rfl rfl (by decide)
                    have hF66 := hF60.put eI66 hk6 rfl
                    refine r_aload_n hC dX6_takeStory_185 2 rfl ?_
                    refine r_dup hC dX6_takeStory_186 rfl ?_
                    refine r_geti hC 6 (ci := 1) rfl u1_in (by decide) mT_1_201 dX6_takeStory_187 ka1 rfl rfl (fun x67_ e67 => ?_)
                    have r67 := hs66.rng ka1 rfl e67
                    have w67 : x67_ = x5_ := by rw [e67]; exact (Eq.trans (up2_kk eI66 hk6 ka1 (by decide)) (Eq.trans (hf60.get ka1 rfl) (Eq.trans (up2_kk eI29 hk6 ka1 (by decide)) (Eq.trans (hf26.get ka1 rfl) (Eq.trans (hf23.get ka1 rfl) (Eq.trans (up2_kk eI19 hk6 ka1 (by decide)) (Eq.trans (up2_kk eI17 hk6 ka1 (by decide)) (Eq.trans (hf14.get ka1 rfl) (Eq.trans (hf9.get ka1 rfl) (Eq.trans (hf8.get ka1 rfl) e5.symm))))))))))
                    have wt67 : x67_.toInt = x5_.toInt := by rw [w67]
                    refine r_iconst hC (v := (1)) dX6_takeStory_190 (by decide) (by decide) (fun x68_ e68 t68 => ?_)
                    refine r_iadd hC dX6_takeStory_191 (fun x69_ e69 => ?_)
                    try have t69 : x69_.toInt = x67_.toInt + x68_.toInt := by rw [e69]; exact ti_add (by omega) (by omega)
                    refine r_puti hC 6 (ci := 1) rfl u1_in tyX1_ok nmX1 (by decide) mT_1_201 rfl rfl rfl dX6_takeStory_192 ka1 rfl rfl (fun I70 eI70 => ?_)
                    have hs70 := hs66.put1 eI70 ka1 rfl (by omega) (by omega) rfl rfl (by decide)
                    have hF70 := hF66.put eI70 ka1 rfl
                    refine r_iconst hC (v := (1)) dX6_takeStory_195 (by decide) (by decide) (fun x71_ e71 t71 => ?_)
                    exact r_iret hC hQ hlk hr (by rw [e71]; rfl) (by decide) (by decide) dX6_takeStory_196 ⟨_, _, _, rfl, rfl, ⟨hs70, hF70, hFJ60, (by omega), (by omega)⟩⟩
                  · refine r_aload_n hC dX6_takeStory_163 1 rfl ?_
                    refine r_ldcS hC (i := 23) (by decide) rfl rfl dX6_takeStory_164 ?_
                    refine r_iconst hC (v := (1)) dX6_takeStory_166 (by decide) (by decide) (fun x72_ e72 t72 => ?_)
                    refine r_bipush hC (v := (99)) dX6_takeStory_167 (by decide) (by decide) (fun x73_ e73 t73 => ?_)
                    refine r_callV hC (As := [.ref (g.2.2.1 23), .int x72_, .int x73_]) (rest := []) (ci := 6) (c_X6_takeNumber g (xL X) K len I60 J60 R hs60 a0 ka0 23 (by decide) x72_ x73_) mT_2_239 mT_1_3 mT_2_236 mT_2_238 mP_6 okX6_takeNumber ⟨by decide, by decide⟩ rfl (by show kO (K a0) = _; rw [ka0]; rfl) rfl rfl (Nat.le_of_ble_eq_true rfl) ⟨by decide, by decide⟩ dX6_takeStory_169 (aI2 (F := fun st M => P g X 3 172 [(2, .ref a6_), (0, .ref a0), (1, .ref a1)] st _ _ M) (M := (K, len, I60, J60, R)) fun x74_ I74 J74 h74 => ?_)
                    obtain ⟨hs74, hf74, hfj74, k74_0, k74_1, k74_2⟩ := h74
                    show P g X 3 172 [(2, .ref a6_), (0, .ref a0), (1, .ref a1)] [.int x74_] _ _ (K, len, I74, J74, R)
                    have hF74 : Fr K [(2, 6), (5, 0), (5, 1), (5, 2), (5, 3), (7, 3), (7, 4), (7, 5), (7, 6), (8, 2), (8, 3), (8, 4)] I I74 := hF60.trans hf74 rfl rfl
                    have hFJ74 : Fr K [(8, 5), (42, 999)] J J74 := hFJ60.trans hfj74 rfl rfl
                    refine r_if_ne hC (tgt := 177) dX6_takeStory_172 (by decide) (fun c75 => ?_) (fun c75 => ?_)
                    · refine r_aload_n hC dX6_takeStory_177 0 rfl ?_
                      refine r_aload_n hC dX6_takeStory_178 1 rfl ?_
                      refine r_geti hC 4 (ci := 6) rfl u6_in (by decide) mT_1_85 dX6_takeStory_179 ka0 rfl rfl (fun x76_ e76 => ?_)
                      have f76 : x76_.toInt = (I74 a0 4).toInt := by rw [e76]
                      refine r_puti hC 3 (ci := 4) rfl u4_in tyX4_ok nmX4 (by decide) mT_1_170 rfl rfl rfl dX6_takeStory_182 hk6 rfl rfl (fun I77 eI77 => ?_)
                      have hs77 := hs74.put0 eI77 hk6 rfl rfl rfl (by decide)
                      have hF77 := hF74.put eI77 hk6 rfl
                      refine r_aload_n hC dX6_takeStory_185 2 rfl ?_
                      refine r_dup hC dX6_takeStory_186 rfl ?_
                      refine r_geti hC 6 (ci := 1) rfl u1_in (by decide) mT_1_201 dX6_takeStory_187 ka1 rfl rfl (fun x78_ e78 => ?_)
                      have r78 := hs77.rng ka1 rfl e78
                      have w78 : x78_ = x5_ := by rw [e78]; exact (Eq.trans (up2_kk eI77 hk6 ka1 (by decide)) (Eq.trans (hf74.get ka1 rfl) (Eq.trans (hf60.get ka1 rfl) (Eq.trans (up2_kk eI29 hk6 ka1 (by decide)) (Eq.trans (hf26.get ka1 rfl) (Eq.trans (hf23.get ka1 rfl) (Eq.trans (up2_kk eI19 hk6 ka1 (by decide)) (Eq.trans (up2_kk eI17 hk6 ka1 (by decide)) (Eq.trans (hf14.get ka1 rfl) (Eq.trans (hf9.get ka1 rfl) (Eq.trans (hf8.get ka1 rfl) e5.symm)))))))))))
                      have wt78 : x78_.toInt = x5_.toInt := by rw [w78]
                      refine r_iconst hC (v := (1)) dX6_takeStory_190 (by decide) (by decide) (fun x79_ e79 t79 => ?_)
                      refine r_iadd hC dX6_takeStory_191 (fun x80_ e80 => ?_)
                      try have t80 : x80_.toInt = x78_.toInt + x79_.toInt := by rw [e80]; exact ti_add (by omega) (by omega)
                      refine r_puti hC 6 (ci := 1) rfl u1_in tyX1_ok nmX1 (by decide) mT_1_201 rfl rfl rfl dX6_takeStory_192 ka1 rfl rfl (fun I81 eI81 => ?_)
                      have hs81 := hs77.put1 eI81 ka1 rfl (by omega) (by omega) rfl rfl (by decide)
                      have hF81 := hF77.put eI81 ka1 rfl
                      refine r_iconst hC (v := (1)) dX6_takeStory_195 (by decide) (by decide) (fun x82_ e82 t82 => ?_)
                      exact r_iret hC hQ hlk hr (by rw [e82]; rfl) (by decide) (by decide) dX6_takeStory_196 ⟨_, _, _, rfl, rfl, ⟨hs81, hF81, hFJ74, (by omega), (by omega)⟩⟩
                    · refine r_iconst hC (v := (0)) dX6_takeStory_175 (by decide) (by decide) (fun x83_ e83 t83 => ?_)
                      exact r_iret hC hQ hlk hr (by rw [e83]; rfl) (by decide) (by decide) dX6_takeStory_176 ⟨_, _, _, rfl, rfl, ⟨hs74, hF74, hFJ74, (by omega), (by omega)⟩⟩
                · refine r_iconst hC (v := (0)) dX6_takeStory_153 (by decide) (by decide) (fun x84_ e84 t84 => ?_)
                  exact r_iret hC hQ hlk hr (by rw [e84]; rfl) (by decide) (by decide) dX6_takeStory_154 ⟨_, _, _, rfl, rfl, ⟨hs60, hF60, hFJ60, (by omega), (by omega)⟩⟩
            · refine r_aload_n hC dX6_takeStory_118 1 rfl ?_
              refine r_ldcS hC (i := 21) (by decide) rfl rfl dX6_takeStory_119 ?_
              refine r_iconst hC (v := (1)) dX6_takeStory_121 (by decide) (by decide) (fun x85_ e85 t85 => ?_)
              refine r_bipush hC (v := (20)) dX6_takeStory_122 (by decide) (by decide) (fun x86_ e86 t86 => ?_)
              refine r_callV hC (As := [.ref (g.2.2.1 21), .int x85_, .int x86_]) (rest := []) (ci := 6) (c_X6_takeNumber g (xL X) K len I29 J26 R hs29 a0 ka0 21 (by decide) x85_ x86_) mT_2_239 mT_1_3 mT_2_236 mT_2_238 mP_6 okX6_takeNumber ⟨by decide, by decide⟩ rfl (by show kO (K a0) = _; rw [ka0]; rfl) rfl rfl (Nat.le_of_ble_eq_true rfl) ⟨by decide, by decide⟩ dX6_takeStory_124 (aI2 (F := fun st M => P g X 3 127 [(2, .ref a6_), (0, .ref a0), (1, .ref a1)] st _ _ M) (M := (K, len, I29, J26, R)) fun x87_ I87 J87 h87 => ?_)
              obtain ⟨hs87, hf87, hfj87, k87_0, k87_1, k87_2⟩ := h87
              show P g X 3 127 [(2, .ref a6_), (0, .ref a0), (1, .ref a1)] [.int x87_] _ _ (K, len, I87, J87, R)
              have hF87 : Fr K [(2, 6), (5, 0), (5, 1), (5, 2), (5, 3), (7, 3), (7, 4), (7, 5), (7, 6), (8, 2), (8, 3), (8, 4)] I I87 := hF29.trans hf87 rfl rfl
              have hFJ87 : Fr K [(8, 5), (42, 999)] J J87 := hFJ26.trans hfj87 rfl rfl
              refine r_if_ne hC (tgt := 132) dX6_takeStory_127 (by decide) (fun c88 => ?_) (fun c88 => ?_)
              · refine r_aload_n hC dX6_takeStory_132 0 rfl ?_
                refine r_geti hC 1 (ci := 4) rfl u4_in (by decide) mT_1_164 dX6_takeStory_133 hk6 rfl rfl (fun x89_ e89 => ?_)
                have w89 : x89_ = x30_ := by rw [e89]; exact (Eq.trans (hf87.get hk6 rfl) e30.symm)
                have wt89 : x89_.toInt = x30_.toInt := by rw [w89]
                refine r_iconst hC (v := (3)) dX6_takeStory_136 (by decide) (by decide) (fun x90_ e90 t90 => ?_)
                refine r_icmp_ne hC (tgt := 155) dX6_takeStory_137 (by decide) (fun c91 => ?_) (fun c91 => ?_)
                · refine r_aload_n hC dX6_takeStory_155 0 rfl ?_
                  refine r_geti hC 1 (ci := 4) rfl u4_in (by decide) mT_1_164 dX6_takeStory_156 hk6 rfl rfl (fun x92_ e92 => ?_)
                  have w92 : x92_ = x89_ := by rw [e92]; exact e89.symm
                  have wt92 : x92_.toInt = x89_.toInt := by rw [w92]
                  refine r_iconst hC (v := (4)) dX6_takeStory_159 (by decide) (by decide) (fun x93_ e93 t93 => ?_)
                  refine r_icmp_ne hC (tgt := 177) dX6_takeStory_160 (by decide) (fun c94 => ?_) (fun c94 => ?_)
                  · refine r_aload_n hC dX6_takeStory_177 0 rfl ?_
                    refine r_aload_n hC dX6_takeStory_178 1 rfl ?_
                    refine r_geti hC 4 (ci := 6) rfl u6_in (by decide) mT_1_85 dX6_takeStory_179 ka0 rfl rfl (fun x95_ e95 => ?_)
                    have f95 : x95_.toInt = (I87 a0 4).toInt := by rw [e95]
                    refine r_puti hC 3 (ci := 4) rfl u4_in tyX4_ok nmX4 (by decide) mT_1_170 rfl rfl rfl dX6_takeStory_182 hk6 rfl rfl (fun I96 eI96 => ?_)
                    have hs96 := hs87.put0 eI96 hk6 rfl rfl rfl (by decide)
                    have hF96 := hF87.put eI96 hk6 rfl
                    refine r_aload_n hC dX6_takeStory_185 2 rfl ?_
                    refine r_dup hC dX6_takeStory_186 rfl ?_
                    refine r_geti hC 6 (ci := 1) rfl u1_in (by decide) mT_1_201 dX6_takeStory_187 ka1 rfl rfl (fun x97_ e97 => ?_)
                    have r97 := hs96.rng ka1 rfl e97
                    have w97 : x97_ = x5_ := by rw [e97]; exact (Eq.trans (up2_kk eI96 hk6 ka1 (by decide)) (Eq.trans (hf87.get ka1 rfl) (Eq.trans (up2_kk eI29 hk6 ka1 (by decide)) (Eq.trans (hf26.get ka1 rfl) (Eq.trans (hf23.get ka1 rfl) (Eq.trans (up2_kk eI19 hk6 ka1 (by decide)) (Eq.trans (up2_kk eI17 hk6 ka1 (by decide)) (Eq.trans (hf14.get ka1 rfl) (Eq.trans (hf9.get ka1 rfl) (Eq.trans (hf8.get ka1 rfl) e5.symm))))))))))
                    have wt97 : x97_.toInt = x5_.toInt := by rw [w97]
                    refine r_iconst hC (v := (1)) dX6_takeStory_190 (by decide) (by decide) (fun x98_ e98 t98 => ?_)
                    refine r_iadd hC dX6_takeStory_191 (fun x99_ e99 => ?_)
                    try have t99 : x99_.toInt = x97_.toInt + x98_.toInt := by rw [e99]; exact ti_add (by omega) (by omega)
                    refine r_puti hC 6 (ci := 1) rfl u1_in tyX1_ok nmX1 (by decide) mT_1_201 rfl rfl rfl dX6_takeStory_192 ka1 rfl rfl (fun I100 eI100 => ?_)
                    have hs100 := hs96.put1 eI100 ka1 rfl (by omega) (by omega) rfl rfl (by decide)
                    have hF100 := hF96.put eI100 ka1 rfl
                    refine r_iconst hC (v := (1)) dX6_takeStory_195 (by decide) (by decide) (fun x101_ e101 t101 => ?_)
                    exact r_iret hC hQ hlk hr (by rw [e101]; rfl) (by decide) (by decide) dX6_takeStory_196 ⟨_, _, _, rfl, rfl, ⟨hs100, hF100, hFJ87, (by omega), (by omega)⟩⟩
                  · refine r_aload_n hC dX6_takeStory_163 1 rfl ?_
                    refine r_ldcS hC (i := 23) (by decide) rfl rfl dX6_takeStory_164 ?_
                    refine r_iconst hC (v := (1)) dX6_takeStory_166 (by decide) (by decide) (fun x102_ e102 t102 => ?_)
                    refine r_bipush hC (v := (99)) dX6_takeStory_167 (by decide) (by decide) (fun x103_ e103 t103 => ?_)
                    refine r_callV hC (As := [.ref (g.2.2.1 23), .int x102_, .int x103_]) (rest := []) (ci := 6) (c_X6_takeNumber g (xL X) K len I87 J87 R hs87 a0 ka0 23 (by decide) x102_ x103_) mT_2_239 mT_1_3 mT_2_236 mT_2_238 mP_6 okX6_takeNumber ⟨by decide, by decide⟩ rfl (by show kO (K a0) = _; rw [ka0]; rfl) rfl rfl (Nat.le_of_ble_eq_true rfl) ⟨by decide, by decide⟩ dX6_takeStory_169 (aI2 (F := fun st M => P g X 3 172 [(2, .ref a6_), (0, .ref a0), (1, .ref a1)] st _ _ M) (M := (K, len, I87, J87, R)) fun x104_ I104 J104 h104 => ?_)
                    obtain ⟨hs104, hf104, hfj104, k104_0, k104_1, k104_2⟩ := h104
                    show P g X 3 172 [(2, .ref a6_), (0, .ref a0), (1, .ref a1)] [.int x104_] _ _ (K, len, I104, J104, R)
                    have hF104 : Fr K [(2, 6), (5, 0), (5, 1), (5, 2), (5, 3), (7, 3), (7, 4), (7, 5), (7, 6), (8, 2), (8, 3), (8, 4)] I I104 := hF87.trans hf104 rfl rfl
                    have hFJ104 : Fr K [(8, 5), (42, 999)] J J104 := hFJ87.trans hfj104 rfl rfl
                    refine r_if_ne hC (tgt := 177) dX6_takeStory_172 (by decide) (fun c105 => ?_) (fun c105 => ?_)
                    · refine r_aload_n hC dX6_takeStory_177 0 rfl ?_
                      refine r_aload_n hC dX6_takeStory_178 1 rfl ?_
                      refine r_geti hC 4 (ci := 6) rfl u6_in (by decide) mT_1_85 dX6_takeStory_179 ka0 rfl rfl (fun x106_ e106 => ?_)
                      have f106 : x106_.toInt = (I104 a0 4).toInt := by rw [e106]
                      refine r_puti hC 3 (ci := 4) rfl u4_in tyX4_ok nmX4 (by decide) mT_1_170 rfl rfl rfl dX6_takeStory_182 hk6 rfl rfl (fun I107 eI107 => ?_)
                      have hs107 := hs104.put0 eI107 hk6 rfl rfl rfl (by decide)
                      have hF107 := hF104.put eI107 hk6 rfl
                      refine r_aload_n hC dX6_takeStory_185 2 rfl ?_
                      refine r_dup hC dX6_takeStory_186 rfl ?_
                      refine r_geti hC 6 (ci := 1) rfl u1_in (by decide) mT_1_201 dX6_takeStory_187 ka1 rfl rfl (fun x108_ e108 => ?_)
                      have r108 := hs107.rng ka1 rfl e108
                      have w108 : x108_ = x5_ := by rw [e108]; exact (Eq.trans (up2_kk eI107 hk6 ka1 (by decide)) (Eq.trans (hf104.get ka1 rfl) (Eq.trans (hf87.get ka1 rfl) (Eq.trans (up2_kk eI29 hk6 ka1 (by decide)) (Eq.trans (hf26.get ka1 rfl) (Eq.trans (hf23.get ka1 rfl) (Eq.trans (up2_kk eI19 hk6 ka1 (by decide)) (Eq.trans (up2_kk eI17 hk6 ka1 (by decide)) (Eq.trans (hf14.get ka1 rfl) (Eq.trans (hf9.get ka1 rfl) (Eq.trans (hf8.get ka1 rfl) e5.symm)))))))))))
                      have wt108 : x108_.toInt = x5_.toInt := by rw [w108]
                      refine r_iconst hC (v := (1)) dX6_takeStory_190 (by decide) (by decide) (fun x109_ e109 t109 => ?_)
                      refine r_iadd hC dX6_takeStory_191 (fun x110_ e110 => ?_)
                      try have t110 : x110_.toInt = x108_.toInt + x109_.toInt := by rw [e110]; exact ti_add (by omega) (by omega)
                      refine r_puti hC 6 (ci := 1) rfl u1_in tyX1_ok nmX1 (by decide) mT_1_201 rfl rfl rfl dX6_takeStory_192 ka1 rfl rfl (fun I111 eI111 => ?_)
                      have hs111 := hs107.put1 eI111 ka1 rfl (by omega) (by omega) rfl rfl (by decide)
                      have hF111 := hF107.put eI111 ka1 rfl
                      refine r_iconst hC (v := (1)) dX6_takeStory_195 (by decide) (by decide) (fun x112_ e112 t112 => ?_)
                      exact r_iret hC hQ hlk hr (by rw [e112]; rfl) (by decide) (by decide) dX6_takeStory_196 ⟨_, _, _, rfl, rfl, ⟨hs111, hF111, hFJ104, (by omega), (by omega)⟩⟩
                    · refine r_iconst hC (v := (0)) dX6_takeStory_175 (by decide) (by decide) (fun x113_ e113 t113 => ?_)
                      exact r_iret hC hQ hlk hr (by rw [e113]; rfl) (by decide) (by decide) dX6_takeStory_176 ⟨_, _, _, rfl, rfl, ⟨hs104, hF104, hFJ104, (by omega), (by omega)⟩⟩
                · refine r_aload_n hC dX6_takeStory_140 1 rfl ?_
                  refine r_ldcS hC (i := 22) (by decide) rfl rfl dX6_takeStory_141 ?_
                  refine r_iconst hC (v := (0)) dX6_takeStory_143 (by decide) (by decide) (fun x114_ e114 t114 => ?_)
                  refine r_sipush hC (v := (999)) dX6_takeStory_144 (by decide) (by decide) (fun x115_ e115 t115 => ?_)
                  refine r_callV hC (As := [.ref (g.2.2.1 22), .int x114_, .int x115_]) (rest := []) (ci := 6) (c_X6_takeNumber g (xL X) K len I87 J87 R hs87 a0 ka0 22 (by decide) x114_ x115_) mT_2_239 mT_1_3 mT_2_236 mT_2_238 mP_6 okX6_takeNumber ⟨by decide, by decide⟩ rfl (by show kO (K a0) = _; rw [ka0]; rfl) rfl rfl (Nat.le_of_ble_eq_true rfl) ⟨by decide, by decide⟩ dX6_takeStory_147 (aI2 (F := fun st M => P g X 3 150 [(2, .ref a6_), (0, .ref a0), (1, .ref a1)] st _ _ M) (M := (K, len, I87, J87, R)) fun x116_ I116 J116 h116 => ?_)
                  obtain ⟨hs116, hf116, hfj116, k116_0, k116_1, k116_2⟩ := h116
                  show P g X 3 150 [(2, .ref a6_), (0, .ref a0), (1, .ref a1)] [.int x116_] _ _ (K, len, I116, J116, R)
                  have hF116 : Fr K [(2, 6), (5, 0), (5, 1), (5, 2), (5, 3), (7, 3), (7, 4), (7, 5), (7, 6), (8, 2), (8, 3), (8, 4)] I I116 := hF87.trans hf116 rfl rfl
                  have hFJ116 : Fr K [(8, 5), (42, 999)] J J116 := hFJ87.trans hfj116 rfl rfl
                  refine r_if_ne hC (tgt := 155) dX6_takeStory_150 (by decide) (fun c117 => ?_) (fun c117 => ?_)
                  · refine r_aload_n hC dX6_takeStory_155 0 rfl ?_
                    refine r_geti hC 1 (ci := 4) rfl u4_in (by decide) mT_1_164 dX6_takeStory_156 hk6 rfl rfl (fun x118_ e118 => ?_)
                    have w118 : x118_ = x89_ := by rw [e118]; exact (Eq.trans (hf116.get hk6 rfl) e89.symm)
                    have wt118 : x118_.toInt = x89_.toInt := by rw [w118]
                    refine r_iconst hC (v := (4)) dX6_takeStory_159 (by decide) (by decide) (fun x119_ e119 t119 => ?_)
                    refine r_icmp_ne hC (tgt := 177) dX6_takeStory_160 (by decide) (fun c120 => ?_) (fun c120 => ?_)
                    · refine r_aload_n hC dX6_takeStory_177 0 rfl ?_
                      refine r_aload_n hC dX6_takeStory_178 1 rfl ?_
                      refine r_geti hC 4 (ci := 6) rfl u6_in (by decide) mT_1_85 dX6_takeStory_179 ka0 rfl rfl (fun x121_ e121 => ?_)
                      have f121 : x121_.toInt = (I116 a0 4).toInt := by rw [e121]
                      refine r_puti hC 3 (ci := 4) rfl u4_in tyX4_ok nmX4 (by decide) mT_1_170 rfl rfl rfl dX6_takeStory_182 hk6 rfl rfl (fun I122 eI122 => ?_)
                      have hs122 := hs116.put0 eI122 hk6 rfl rfl rfl (by decide)
                      have hF122 := hF116.put eI122 hk6 rfl
                      refine r_aload_n hC dX6_takeStory_185 2 rfl ?_
                      refine r_dup hC dX6_takeStory_186 rfl ?_
                      refine r_geti hC 6 (ci := 1) rfl u1_in (by decide) mT_1_201 dX6_takeStory_187 ka1 rfl rfl (fun x123_ e123 => ?_)
                      have r123 := hs122.rng ka1 rfl e123
                      have w123 : x123_ = x5_ := by rw [e123]; exact (Eq.trans (up2_kk eI122 hk6 ka1 (by decide)) (Eq.trans (hf116.get ka1 rfl) (Eq.trans (hf87.get ka1 rfl) (Eq.trans (up2_kk eI29 hk6 ka1 (by decide)) (Eq.trans (hf26.get ka1 rfl) (Eq.trans (hf23.get ka1 rfl) (Eq.trans (up2_kk eI19 hk6 ka1 (by decide)) (Eq.trans (up2_kk eI17 hk6 ka1 (by decide)) (Eq.trans (hf14.get ka1 rfl) (Eq.trans (hf9.get ka1 rfl) (Eq.trans (hf8.get ka1 rfl) e5.symm)))))))))))
                      have wt123 : x123_.toInt = x5_.toInt := by rw [w123]
                      refine r_iconst hC (v := (1)) dX6_takeStory_190 (by decide) (by decide) (fun x124_ e124 t124 => ?_)
                      refine r_iadd hC dX6_takeStory_191 (fun x125_ e125 => ?_)
                      try have t125 : x125_.toInt = x123_.toInt + x124_.toInt := by rw [e125]; exact ti_add (by omega) (by omega)
                      refine r_puti hC 6 (ci := 1) rfl u1_in tyX1_ok nmX1 (by decide) mT_1_201 rfl rfl rfl dX6_takeStory_192 ka1 rfl rfl (fun I126 eI126 => ?_)
                      have hs126 := hs122.put1 eI126 ka1 rfl (by omega) (by omega) rfl rfl (by decide)
                      have hF126 := hF122.put eI126 ka1 rfl
                      refine r_iconst hC (v := (1)) dX6_takeStory_195 (by decide) (by decide) (fun x127_ e127 t127 => ?_)
                      exact r_iret hC hQ hlk hr (by rw [e127]; rfl) (by decide) (by decide) dX6_takeStory_196 ⟨_, _, _, rfl, rfl, ⟨hs126, hF126, hFJ116, (by omega), (by omega)⟩⟩
                    · refine r_aload_n hC dX6_takeStory_163 1 rfl ?_
                      refine r_ldcS hC (i := 23) (by decide) rfl rfl dX6_takeStory_164 ?_
                      refine r_iconst hC (v := (1)) dX6_takeStory_166 (by decide) (by decide) (fun x128_ e128 t128 => ?_)
                      refine r_bipush hC (v := (99)) dX6_takeStory_167 (by decide) (by decide) (fun x129_ e129 t129 => ?_)
                      refine r_callV hC (As := [.ref (g.2.2.1 23), .int x128_, .int x129_]) (rest := []) (ci := 6) (c_X6_takeNumber g (xL X) K len I116 J116 R hs116 a0 ka0 23 (by decide) x128_ x129_) mT_2_239 mT_1_3 mT_2_236 mT_2_238 mP_6 okX6_takeNumber ⟨by decide, by decide⟩ rfl (by show kO (K a0) = _; rw [ka0]; rfl) rfl rfl (Nat.le_of_ble_eq_true rfl) ⟨by decide, by decide⟩ dX6_takeStory_169 (aI2 (F := fun st M => P g X 3 172 [(2, .ref a6_), (0, .ref a0), (1, .ref a1)] st _ _ M) (M := (K, len, I116, J116, R)) fun x130_ I130 J130 h130 => ?_)
                      obtain ⟨hs130, hf130, hfj130, k130_0, k130_1, k130_2⟩ := h130
                      show P g X 3 172 [(2, .ref a6_), (0, .ref a0), (1, .ref a1)] [.int x130_] _ _ (K, len, I130, J130, R)
                      have hF130 : Fr K [(2, 6), (5, 0), (5, 1), (5, 2), (5, 3), (7, 3), (7, 4), (7, 5), (7, 6), (8, 2), (8, 3), (8, 4)] I I130 := hF116.trans hf130 rfl rfl
                      have hFJ130 : Fr K [(8, 5), (42, 999)] J J130 := hFJ116.trans hfj130 rfl rfl
                      refine r_if_ne hC (tgt := 177) dX6_takeStory_172 (by decide) (fun c131 => ?_) (fun c131 => ?_)
                      · refine r_aload_n hC dX6_takeStory_177 0 rfl ?_
                        refine r_aload_n hC dX6_takeStory_178 1 rfl ?_
                        refine r_geti hC 4 (ci := 6) rfl u6_in (by decide) mT_1_85 dX6_takeStory_179 ka0 rfl rfl (fun x132_ e132 => ?_)
                        have f132 : x132_.toInt = (I130 a0 4).toInt := by rw [e132]
                        refine r_puti hC 3 (ci := 4) rfl u4_in tyX4_ok nmX4 (by decide) mT_1_170 rfl rfl rfl dX6_takeStory_182 hk6 rfl rfl (fun I133 eI133 => ?_)
                        have hs133 := hs130.put0 eI133 hk6 rfl rfl rfl (by decide)
                        have hF133 := hF130.put eI133 hk6 rfl
                        refine r_aload_n hC dX6_takeStory_185 2 rfl ?_
                        refine r_dup hC dX6_takeStory_186 rfl ?_
                        refine r_geti hC 6 (ci := 1) rfl u1_in (by decide) mT_1_201 dX6_takeStory_187 ka1 rfl rfl (fun x134_ e134 => ?_)
                        have r134 := hs133.rng ka1 rfl e134
                        have w134 : x134_ = x5_ := by rw [e134]; exact (Eq.trans (up2_kk eI133 hk6 ka1 (by decide)) (Eq.trans (hf130.get ka1 rfl) (Eq.trans (hf116.get ka1 rfl) (Eq.trans (hf87.get ka1 rfl) (Eq.trans (up2_kk eI29 hk6 ka1 (by decide)) (Eq.trans (hf26.get ka1 rfl) (Eq.trans (hf23.get ka1 rfl) (Eq.trans (up2_kk eI19 hk6 ka1 (by decide)) (Eq.trans (up2_kk eI17 hk6 ka1 (by decide)) (Eq.trans (hf14.get ka1 rfl) (Eq.trans (hf9.get ka1 rfl) (Eq.trans (hf8.get ka1 rfl) e5.symm))))))))))))
                        have wt134 : x134_.toInt = x5_.toInt := by rw [w134]
                        refine r_iconst hC (v := (1)) dX6_takeStory_190 (by decide) (by decide) (fun x135_ e135 t135 => ?_)
                        refine r_iadd hC dX6_takeStory_191 (fun x136_ e136 => ?_)
                        try have t136 : x136_.toInt = x134_.toInt + x135_.toInt := by rw [e136]; exact ti_add (by omega) (by omega)
                        refine r_puti hC 6 (ci := 1) rfl u1_in tyX1_ok nmX1 (by decide) mT_1_201 rfl rfl rfl dX6_takeStory_192 ka1 rfl rfl (fun I137 eI137 => ?_)
                        have hs137 := hs133.put1 eI137 ka1 rfl (by omega) (by omega) rfl rfl (by decide)
                        have hF137 := hF133.put eI137 ka1 rfl
                        refine r_iconst hC (v := (1)) dX6_takeStory_195 (by decide) (by decide) (fun x138_ e138 t138 => ?_)
                        exact r_iret hC hQ hlk hr (by rw [e138]; rfl) (by decide) (by decide) dX6_takeStory_196 ⟨_, _, _, rfl, rfl, ⟨hs137, hF137, hFJ130, (by omega), (by omega)⟩⟩
                      · refine r_iconst hC (v := (0)) dX6_takeStory_175 (by decide) (by decide) (fun x139_ e139 t139 => ?_)
                        exact r_iret hC hQ hlk hr (by rw [e139]; rfl) (by decide) (by decide) dX6_takeStory_176 ⟨_, _, _, rfl, rfl, ⟨hs130, hF130, hFJ130, (by omega), (by omega)⟩⟩
                  · refine r_iconst hC (v := (0)) dX6_takeStory_153 (by decide) (by decide) (fun x140_ e140 t140 => ?_)
                    exact r_iret hC hQ hlk hr (by rw [e140]; rfl) (by decide) (by decide) dX6_takeStory_154 ⟨_, _, _, rfl, rfl, ⟨hs116, hF116, hFJ116, (by omega), (by omega)⟩⟩
              · refine r_iconst hC (v := (0)) dX6_takeStory_130 (by decide) (by decide) (fun x141_ e141 t141 => ?_)
                exact r_iret hC hQ hlk hr (by rw [e141]; rfl) (by decide) (by decide) dX6_takeStory_131 ⟨_, _, _, rfl, rfl, ⟨hs87, hF87, hFJ87, (by omega), (by omega)⟩⟩
          · refine r_iconst hC (v := (0)) dX6_takeStory_100 (by decide) (by decide) (fun x142_ e142 t142 => ?_)
            exact r_iret hC hQ hlk hr (by rw [e142]; rfl) (by decide) (by decide) dX6_takeStory_101 ⟨_, _, _, rfl, rfl, ⟨hs26, hF26, hFJ26, (by omega), (by omega)⟩⟩
        · refine r_aload_n hC dX6_takeStory_77 1 rfl ?_
          refine r_iconst hC (v := (1)) dX6_takeStory_78 (by decide) (by decide) (fun x143_ e143 t143 => ?_)
          refine r_callV hC (As := [.int x143_]) (rest := []) (ci := 6) (c_X6_faulty g (xL X) K len I19 J14 R hs19 a0 ka0 x143_) mT_2_233 mT_1_3 mT_2_230 mT_2_232 mP_5 okX6_faulty ⟨by decide, by decide⟩ rfl (by show kO (K a0) = _; rw [ka0]; rfl) rfl rfl (Nat.le_of_ble_eq_true rfl) ⟨by decide, by decide⟩ dX6_takeStory_79 (aI1 (F := fun st M => P g X 3 82 [(2, .ref a6_), (0, .ref a0), (1, .ref a1)] st _ _ M) (M := (K, len, I19, J14, R)) fun x144_ I144 h144 => ?_)
          obtain ⟨hs144, hf144, k144_0⟩ := h144
          show P g X 3 82 [(2, .ref a6_), (0, .ref a0), (1, .ref a1)] [.int x144_] _ _ (K, len, I144, J14, R)
          have hF144 : Fr K [(2, 6), (5, 0), (5, 1), (5, 2), (5, 3), (7, 3), (7, 4), (7, 5), (7, 6), (8, 2), (8, 3), (8, 4)] I I144 := hF19.trans hf144 rfl rfl
          exact r_iret hC hQ hlk hr (nz_b (by omega) (by omega)) (by decide) (by decide) dX6_takeStory_82 ⟨_, _, _, rfl, rfl, ⟨hs144, hF144, hFJ14, (by omega), (by omega)⟩⟩
      · refine r_iconst hC (v := (0)) dX6_takeStory_51 (by decide) (by decide) (fun x145_ e145 t145 => ?_)
        exact r_iret hC hQ hlk hr (by rw [e145]; rfl) (by decide) (by decide) dX6_takeStory_52 ⟨_, _, _, rfl, rfl, ⟨hs14, hF14, hFJ14, (by omega), (by omega)⟩⟩
  · refine r_aload_n hC dX6_takeStory_9 0 rfl ?_
    refine r_iconst hC (v := (5)) dX6_takeStory_10 (by decide) (by decide) (fun x146_ e146 t146 => ?_)
    refine r_callV hC (As := [.int x146_]) (rest := []) (ci := 6) (c_X6_faulty g (xL X) K len I J R hs a0 ka0 x146_) mT_2_233 mT_1_3 mT_2_230 mT_2_232 mP_5 okX6_faulty ⟨by decide, by decide⟩ rfl (by show kO (K a0) = _; rw [ka0]; rfl) rfl rfl (Nat.le_of_ble_eq_true rfl) ⟨by decide, by decide⟩ dX6_takeStory_11 (aI1 (F := fun st M => P g X 3 14 [(0, .ref a0), (1, .ref a1)] st _ _ M) (M := (K, len, I, J, R)) fun x147_ I147 h147 => ?_)
    obtain ⟨hs147, hf147, k147_0⟩ := h147
    show P g X 3 14 [(0, .ref a0), (1, .ref a1)] [.int x147_] _ _ (K, len, I147, J, R)
    have hF147 : Fr K [(2, 6), (5, 0), (5, 1), (5, 2), (5, 3), (7, 3), (7, 4), (7, 5), (7, 6), (8, 2), (8, 3), (8, 4)] I I147 := hF.trans hf147 rfl rfl
    exact r_iret hC hQ hlk hr (nz_b (by omega) (by omega)) (by decide) (by decide) dX6_takeStory_14 ⟨_, _, _, rfl, rfl, ⟨hs147, hF147, hFJ, (by omega), (by omega)⟩⟩
set_option maxHeartbeats 4000000 in
set_option maxRecDepth 100000 in
theorem c_X6_takeVillage (g : GG) (l : Launch) (K len : Nat → Nat) (I : Nat → Nat → Int32) (J : Nat → Nat → Int64) (R : Nat → Nat → Option Nat) (hs : Sf K len I R) (a0 : Nat) (ka0 : K a0 = 7) (a1 : Nat) (ka1 : K a1 = 2) : Ct g l yX6_takeVillage cX6_takeVillage 3 (Option.some Jvm.ClassFile.FieldType.boolean) rmX6_takeVillage [.ref a0, .ref a1] (K, len, I, J, R) (pI2 (K, len, I, J, R) (fun r I' J' => Sf K len I' R ∧ Fr K [(2, 8), (7, 3), (7, 4), (7, 5), (7, 6), (8, 2), (8, 3), (8, 4), (58, 999), (59, 999), (60, 999)] I I' ∧ Fr K [(8, 5), (42, 999)] J J' ∧ (0 ≤ r.toInt) ∧ (r.toInt ≤ 1))) := by
  refine Ct_intro (by decide +kernel) (Nat.le_of_ble_eq_true rfl) (fun X hC hL hKK hNm hr hlk hQ => ?_)
  subst hL
  have hC : Cx g X cX6_takeVillage "HillTap$Teller" 3 rmX6_takeVillage := hC
  show P g X 3 0 [(0, .ref a0), (1, .ref a1)] [] 0 0 (K, len, I, J, R)
  have hF : Fr K [(2, 8), (7, 3), (7, 4), (7, 5), (7, 6), (8, 2), (8, 3), (8, 4), (58, 999), (59, 999), (60, 999)] I I := Fr.refl
  have hFJ : Fr K [(8, 5), (42, 999)] J J := Fr.refl
  refine r_aload_n hC dX6_takeVillage_0 1 rfl ?_
  refine r_geti hC 8 (ci := 1) rfl u1_in (by decide) mT_1_207 dX6_takeVillage_1 ka1 rfl rfl (fun x1_ e1 => ?_)
  have r1 := hs.rng ka1 rfl e1
  refine r_istore_n hC (lv' := [(2, .int x1_), (0, .ref a0), (1, .ref a1)]) dX6_takeVillage_4 (by decide) rfl ?_
  refine r_iload_n hC dX6_takeVillage_5 0 rfl ?_
  refine r_iconst hC (v := (4)) dX6_takeVillage_6 (by decide) (by decide) (fun x2_ e2 t2 => ?_)
  refine r_icmp_lt hC (tgt := 16) dX6_takeVillage_7 (by decide) (fun c3 => ?_) (fun c3 => ?_)
  · refine r_aload_n hC dX6_takeVillage_16 1 rfl ?_
    obtain ⟨a4_, hb4, hk4⟩ := hs.obj ka0 0 8 (by decide)
    refine r_getr hC 0 (ci := 6) rfl u6_in (by decide) mT_1_81 dX6_takeVillage_17 ka0 rfl rfl hb4 ?_
    refine r_callV hC (As := []) (rest := []) (ci := 7) (c_X7_next g (xL X) K len I J R hs a4_ hk4) mT_2_159 mT_1_4 mT_2_234 mT_2_157 mT_2_158 okX7_next ⟨by decide, by decide⟩ rfl (by show kO (K a4_) = _; rw [hk4]; rfl) rfl rfl (Nat.le_of_ble_eq_true rfl) ⟨by decide, by decide⟩ dX6_takeVillage_20 (aV2 (F := fun st M => P g X 3 23 [(2, .int x1_), (0, .ref a0), (1, .ref a1)] st _ _ M) (M := (K, len, I, J, R)) fun I5 J5 h5 => ?_)
    obtain ⟨hs5, hf5, hfj5⟩ := h5
    show P g X 3 23 [(2, .int x1_), (0, .ref a0), (1, .ref a1)] [] _ _ (K, len, I5, J5, R)
    have hF5 : Fr K [(2, 8), (7, 3), (7, 4), (7, 5), (7, 6), (8, 2), (8, 3), (8, 4), (58, 999), (59, 999), (60, 999)] I I5 := hF.trans hf5 rfl rfl
    have hFJ5 : Fr K [(8, 5), (42, 999)] J J5 := hFJ.trans hfj5 rfl rfl
    refine r_aload_n hC dX6_takeVillage_23 1 rfl ?_
    refine r_callV hC (As := []) (rest := []) (ci := 6) (c_X6_takeNewName g (xL X) K len I5 J5 R hs5 a0 ka0) mT_3_21 mT_1_3 mT_3_18 mT_3_20 mP_9 okX6_takeNewName ⟨by decide, by decide⟩ rfl (by show kO (K a0) = _; rw [ka0]; rfl) rfl rfl (Nat.le_of_ble_eq_true rfl) ⟨by decide, by decide⟩ dX6_takeVillage_24 (aI2 (F := fun st M => P g X 3 27 [(2, .int x1_), (0, .ref a0), (1, .ref a1)] st _ _ M) (M := (K, len, I5, J5, R)) fun x6_ I6 J6 h6 => ?_)
    obtain ⟨hs6, hf6, hfj6, k6_0, k6_1⟩ := h6
    show P g X 3 27 [(2, .int x1_), (0, .ref a0), (1, .ref a1)] [.int x6_] _ _ (K, len, I6, J6, R)
    have hF6 : Fr K [(2, 8), (7, 3), (7, 4), (7, 5), (7, 6), (8, 2), (8, 3), (8, 4), (58, 999), (59, 999), (60, 999)] I I6 := hF5.trans hf6 rfl rfl
    have hFJ6 : Fr K [(8, 5), (42, 999)] J J6 := hFJ5.trans hfj6 rfl rfl
    refine r_if_eq hC (tgt := 43) dX6_takeVillage_27 (by decide) (fun c7 => ?_) (fun c7 => ?_)
    · refine r_iconst hC (v := (0)) dX6_takeVillage_43 (by decide) (by decide) (fun x8_ e8 t8 => ?_)
      exact r_iret hC hQ hlk hr (by rw [e8]; rfl) (by decide) (by decide) dX6_takeVillage_44 ⟨_, _, _, rfl, rfl, ⟨hs6, hF6, hFJ6, (by omega), (by omega)⟩⟩
    · refine r_aload_n hC dX6_takeVillage_30 1 rfl ?_
      refine r_ldcS hC (i := 24) (by decide) rfl rfl dX6_takeVillage_31 ?_
      refine r_iconst hC (v := (0)) dX6_takeVillage_33 (by decide) (by decide) (fun x9_ e9 t9 => ?_)
      refine r_sipush hC (v := (999)) dX6_takeVillage_34 (by decide) (by decide) (fun x10_ e10 t10 => ?_)
      refine r_callV hC (As := [.ref (g.2.2.1 24), .int x9_, .int x10_]) (rest := []) (ci := 6) (c_X6_takeNumber g (xL X) K len I6 J6 R hs6 a0 ka0 24 (by decide) x9_ x10_) mT_2_239 mT_1_3 mT_2_236 mT_2_238 mP_6 okX6_takeNumber ⟨by decide, by decide⟩ rfl (by show kO (K a0) = _; rw [ka0]; rfl) rfl rfl (Nat.le_of_ble_eq_true rfl) ⟨by decide, by decide⟩ dX6_takeVillage_37 (aI2 (F := fun st M => P g X 3 40 [(2, .int x1_), (0, .ref a0), (1, .ref a1)] st _ _ M) (M := (K, len, I6, J6, R)) fun x11_ I11 J11 h11 => ?_)
      obtain ⟨hs11, hf11, hfj11, k11_0, k11_1, k11_2⟩ := h11
      show P g X 3 40 [(2, .int x1_), (0, .ref a0), (1, .ref a1)] [.int x11_] _ _ (K, len, I11, J11, R)
      have hF11 : Fr K [(2, 8), (7, 3), (7, 4), (7, 5), (7, 6), (8, 2), (8, 3), (8, 4), (58, 999), (59, 999), (60, 999)] I I11 := hF6.trans hf11 rfl rfl
      have hFJ11 : Fr K [(8, 5), (42, 999)] J J11 := hFJ6.trans hfj11 rfl rfl
      refine r_if_ne hC (tgt := 45) dX6_takeVillage_40 (by decide) (fun c12 => ?_) (fun c12 => ?_)
      · refine r_aload_n hC dX6_takeVillage_45 2 rfl ?_
        obtain ⟨a13_, hb13, hk13, hn13⟩ := hs11.row ka1 9 58 4 (by decide) (by decide)
        refine r_getr hC 9 (ci := 1) rfl u1_in (by decide) mT_1_210 dX6_takeVillage_46 ka1 rfl rfl hb13 ?_
        refine r_iload_n hC dX6_takeVillage_49 0 rfl ?_
        refine r_aload_n hC dX6_takeVillage_50 1 rfl ?_
        refine r_geti hC 4 (ci := 6) rfl u6_in (by decide) mT_1_85 dX6_takeVillage_51 ka0 rfl rfl (fun x14_ e14 => ?_)
        have f14 : x14_.toInt = (I11 a0 4).toInt := by rw [e14]
        refine x_iastore hC hk13 hn13 (by decide) rfl rfl dX6_takeVillage_54 (by omega) (by omega) (fun I15 eI15 => ?_)
        have hs15 := hs11.put0 eI15 hk13 (rng_arr (by decide) _) rfl (xF_arr (by decide) _) (by decide)
        have hF15 := hF11.put eI15 hk13 (inS_arr rfl _)
        refine r_aload_n hC dX6_takeVillage_55 1 rfl ?_
        refine r_ldcS hC (i := 25) (by decide) rfl rfl dX6_takeVillage_56 ?_
        refine r_iconst hC (v := (1)) dX6_takeVillage_58 (by decide) (by decide) (fun x16_ e16 t16 => ?_)
        refine r_sipush hC (v := (999)) dX6_takeVillage_59 (by decide) (by decide) (fun x17_ e17 t17 => ?_)
        refine r_callV hC (As := [.ref (g.2.2.1 25), .int x16_, .int x17_]) (rest := []) (ci := 6) (c_X6_takeNumber g (xL X) K len I15 J11 R hs15 a0 ka0 25 (by decide) x16_ x17_) mT_2_239 mT_1_3 mT_2_236 mT_2_238 mP_6 okX6_takeNumber ⟨by decide, by decide⟩ rfl (by show kO (K a0) = _; rw [ka0]; rfl) rfl rfl (Nat.le_of_ble_eq_true rfl) ⟨by decide, by decide⟩ dX6_takeVillage_62 (aI2 (F := fun st M => P g X 3 65 [(2, .int x1_), (0, .ref a0), (1, .ref a1)] st _ _ M) (M := (K, len, I15, J11, R)) fun x18_ I18 J18 h18 => ?_)
        obtain ⟨hs18, hf18, hfj18, k18_0, k18_1, k18_2⟩ := h18
        show P g X 3 65 [(2, .int x1_), (0, .ref a0), (1, .ref a1)] [.int x18_] _ _ (K, len, I18, J18, R)
        have hF18 : Fr K [(2, 8), (7, 3), (7, 4), (7, 5), (7, 6), (8, 2), (8, 3), (8, 4), (58, 999), (59, 999), (60, 999)] I I18 := hF15.trans hf18 rfl rfl
        have hFJ18 : Fr K [(8, 5), (42, 999)] J J18 := hFJ11.trans hfj18 rfl rfl
        refine r_if_ne hC (tgt := 70) dX6_takeVillage_65 (by decide) (fun c19 => ?_) (fun c19 => ?_)
        · refine r_aload_n hC dX6_takeVillage_70 2 rfl ?_
          obtain ⟨a20_, hb20, hk20, hn20⟩ := hs18.row ka1 10 59 4 (by decide) (by decide)
          refine r_getr hC 10 (ci := 1) rfl u1_in (by decide) mT_1_213 dX6_takeVillage_71 ka1 rfl rfl hb20 ?_
          refine r_iload_n hC dX6_takeVillage_74 0 rfl ?_
          refine r_aload_n hC dX6_takeVillage_75 1 rfl ?_
          refine r_geti hC 4 (ci := 6) rfl u6_in (by decide) mT_1_85 dX6_takeVillage_76 ka0 rfl rfl (fun x21_ e21 => ?_)
          have f21 : x21_.toInt = (I18 a0 4).toInt := by rw [e21]
          refine x_iastore hC hk20 hn20 (by decide) rfl rfl dX6_takeVillage_79 (by omega) (by omega) (fun I22 eI22 => ?_)
          have hs22 := hs18.put0 eI22 hk20 (rng_arr (by decide) _) rfl (xF_arr (by decide) _) (by decide)
          have hF22 := hF18.put eI22 hk20 (inS_arr rfl _)
          refine r_aload_n hC dX6_takeVillage_80 1 rfl ?_
          refine r_ldcS hC (i := 26) (by decide) rfl rfl dX6_takeVillage_81 ?_
          refine r_iconst hC (v := (0)) dX6_takeVillage_83 (by decide) (by decide) (fun x23_ e23 t23 => ?_)
          refine r_bipush hC (v := (30)) dX6_takeVillage_84 (by decide) (by decide) (fun x24_ e24 t24 => ?_)
          refine r_callV hC (As := [.ref (g.2.2.1 26), .int x23_, .int x24_]) (rest := []) (ci := 6) (c_X6_takeNumber g (xL X) K len I22 J18 R hs22 a0 ka0 26 (by decide) x23_ x24_) mT_2_239 mT_1_3 mT_2_236 mT_2_238 mP_6 okX6_takeNumber ⟨by decide, by decide⟩ rfl (by show kO (K a0) = _; rw [ka0]; rfl) rfl rfl (Nat.le_of_ble_eq_true rfl) ⟨by decide, by decide⟩ dX6_takeVillage_86 (aI2 (F := fun st M => P g X 3 89 [(2, .int x1_), (0, .ref a0), (1, .ref a1)] st _ _ M) (M := (K, len, I22, J18, R)) fun x25_ I25 J25 h25 => ?_)
          obtain ⟨hs25, hf25, hfj25, k25_0, k25_1, k25_2⟩ := h25
          show P g X 3 89 [(2, .int x1_), (0, .ref a0), (1, .ref a1)] [.int x25_] _ _ (K, len, I25, J25, R)
          have hF25 : Fr K [(2, 8), (7, 3), (7, 4), (7, 5), (7, 6), (8, 2), (8, 3), (8, 4), (58, 999), (59, 999), (60, 999)] I I25 := hF22.trans hf25 rfl rfl
          have hFJ25 : Fr K [(8, 5), (42, 999)] J J25 := hFJ18.trans hfj25 rfl rfl
          refine r_if_ne hC (tgt := 94) dX6_takeVillage_89 (by decide) (fun c26 => ?_) (fun c26 => ?_)
          · refine r_aload_n hC dX6_takeVillage_94 2 rfl ?_
            obtain ⟨a27_, hb27, hk27, hn27⟩ := hs25.row ka1 11 60 4 (by decide) (by decide)
            refine r_getr hC 11 (ci := 1) rfl u1_in (by decide) mT_1_216 dX6_takeVillage_95 ka1 rfl rfl hb27 ?_
            refine r_iload_n hC dX6_takeVillage_98 0 rfl ?_
            refine r_aload_n hC dX6_takeVillage_99 1 rfl ?_
            refine r_geti hC 4 (ci := 6) rfl u6_in (by decide) mT_1_85 dX6_takeVillage_100 ka0 rfl rfl (fun x28_ e28 => ?_)
            have f28 : x28_.toInt = (I25 a0 4).toInt := by rw [e28]
            refine x_iastore hC hk27 hn27 (by decide) rfl rfl dX6_takeVillage_103 (by omega) (by omega) (fun I29 eI29 => ?_)
            have hs29 := hs25.put0 eI29 hk27 (rng_arr (by decide) _) rfl (xF_arr (by decide) _) (by decide)
            have hF29 := hF25.put eI29 hk27 (inS_arr rfl _)
            refine r_aload_n hC dX6_takeVillage_104 2 rfl ?_
            refine r_dup hC dX6_takeVillage_105 rfl ?_
            refine r_geti hC 8 (ci := 1) rfl u1_in (by decide) mT_1_207 dX6_takeVillage_106 ka1 rfl rfl (fun x30_ e30 => ?_)
            have r30 := hs29.rng ka1 rfl e30
            have w30 : x30_ = x1_ := by rw [e30]; exact (Eq.trans (up2_kk eI29 hk27 ka1 (by decide)) (Eq.trans (hf25.get ka1 rfl) (Eq.trans (up2_kk eI22 hk20 ka1 (by decide)) (Eq.trans (hf18.get ka1 rfl) (Eq.trans (up2_kk eI15 hk13 ka1 (by decide)) (Eq.trans (hf11.get ka1 rfl) (Eq.trans (hf6.get ka1 rfl) (Eq.trans (hf5.get ka1 rfl) e1.symm))))))))
            have wt30 : x30_.toInt = x1_.toInt := by rw [w30]
            refine r_iconst hC (v := (1)) dX6_takeVillage_109 (by decide) (by decide) (fun x31_ e31 t31 => ?_)
            refine r_iadd hC dX6_takeVillage_110 (fun x32_ e32 => ?_)
            try have t32 : x32_.toInt = x30_.toInt + x31_.toInt := by rw [e32]; exact ti_add (by omega) (by omega)
            refine r_puti hC 8 (ci := 1) rfl u1_in tyX1_ok nmX1 (by decide) mT_1_207 rfl rfl rfl dX6_takeVillage_111 ka1 rfl rfl (fun I33 eI33 => ?_)
            have hs33 := hs29.put1 eI33 ka1 rfl (by omega) (by omega) rfl rfl (by decide)
            have hF33 := hF29.put eI33 ka1 rfl
            refine r_iconst hC (v := (1)) dX6_takeVillage_114 (by decide) (by decide) (fun x34_ e34 t34 => ?_)
            exact r_iret hC hQ hlk hr (by rw [e34]; rfl) (by decide) (by decide) dX6_takeVillage_115 ⟨_, _, _, rfl, rfl, ⟨hs33, hF33, hFJ25, (by omega), (by omega)⟩⟩
          · refine r_iconst hC (v := (0)) dX6_takeVillage_92 (by decide) (by decide) (fun x35_ e35 t35 => ?_)
            exact r_iret hC hQ hlk hr (by rw [e35]; rfl) (by decide) (by decide) dX6_takeVillage_93 ⟨_, _, _, rfl, rfl, ⟨hs25, hF25, hFJ25, (by omega), (by omega)⟩⟩
        · refine r_iconst hC (v := (0)) dX6_takeVillage_68 (by decide) (by decide) (fun x36_ e36 t36 => ?_)
          exact r_iret hC hQ hlk hr (by rw [e36]; rfl) (by decide) (by decide) dX6_takeVillage_69 ⟨_, _, _, rfl, rfl, ⟨hs18, hF18, hFJ18, (by omega), (by omega)⟩⟩
      · refine r_iconst hC (v := (0)) dX6_takeVillage_43 (by decide) (by decide) (fun x37_ e37 t37 => ?_)
        exact r_iret hC hQ hlk hr (by rw [e37]; rfl) (by decide) (by decide) dX6_takeVillage_44 ⟨_, _, _, rfl, rfl, ⟨hs11, hF11, hFJ11, (by omega), (by omega)⟩⟩
  · refine r_aload_n hC dX6_takeVillage_10 1 rfl ?_
    refine r_iconst hC (v := (5)) dX6_takeVillage_11 (by decide) (by decide) (fun x38_ e38 t38 => ?_)
    refine r_callV hC (As := [.int x38_]) (rest := []) (ci := 6) (c_X6_faulty g (xL X) K len I J R hs a0 ka0 x38_) mT_2_233 mT_1_3 mT_2_230 mT_2_232 mP_5 okX6_faulty ⟨by decide, by decide⟩ rfl (by show kO (K a0) = _; rw [ka0]; rfl) rfl rfl (Nat.le_of_ble_eq_true rfl) ⟨by decide, by decide⟩ dX6_takeVillage_12 (aI1 (F := fun st M => P g X 3 15 [(2, .int x1_), (0, .ref a0), (1, .ref a1)] st _ _ M) (M := (K, len, I, J, R)) fun x39_ I39 h39 => ?_)
    obtain ⟨hs39, hf39, k39_0⟩ := h39
    show P g X 3 15 [(2, .int x1_), (0, .ref a0), (1, .ref a1)] [.int x39_] _ _ (K, len, I39, J, R)
    have hF39 : Fr K [(2, 8), (7, 3), (7, 4), (7, 5), (7, 6), (8, 2), (8, 3), (8, 4), (58, 999), (59, 999), (60, 999)] I I39 := hF.trans hf39 rfl rfl
    exact r_iret hC hQ hlk hr (nz_b (by omega) (by omega)) (by decide) (by decide) dX6_takeVillage_15 ⟨_, _, _, rfl, rfl, ⟨hs39, hF39, hFJ, (by omega), (by omega)⟩⟩
set_option maxHeartbeats 4000000 in
set_option maxRecDepth 100000 in
theorem c_X6_takeKnower (g : GG) (l : Launch) (K len : Nat → Nat) (I : Nat → Nat → Int32) (J : Nat → Nat → Int64) (R : Nat → Nat → Option Nat) (hs : Sf K len I R) (a0 : Nat) (ka0 : K a0 = 7) (a1 : Nat) (ka1 : K a1 = 2) : Ct g l yX6_takeKnower cX6_takeKnower 4 (Option.some Jvm.ClassFile.FieldType.boolean) rmX6_takeKnower [.ref a0, .ref a1] (K, len, I, J, R) (pI2 (K, len, I, J, R) (fun r I' J' => Sf K len I' R ∧ Fr K [(2, 12), (7, 3), (7, 4), (7, 5), (7, 6), (8, 2), (8, 3), (8, 4), (61, 999), (62, 999)] I I' ∧ Fr K [(8, 5), (42, 999)] J J' ∧ (0 ≤ r.toInt) ∧ (r.toInt ≤ 1))) := by
  refine Ct_intro (by decide +kernel) (Nat.le_of_ble_eq_true rfl) (fun X hC hL hKK hNm hr hlk hQ => ?_)
  subst hL
  have hC : Cx g X cX6_takeKnower "HillTap$Teller" 4 rmX6_takeKnower := hC
  show P g X 4 0 [(0, .ref a0), (1, .ref a1)] [] 0 0 (K, len, I, J, R)
  have hF : Fr K [(2, 12), (7, 3), (7, 4), (7, 5), (7, 6), (8, 2), (8, 3), (8, 4), (61, 999), (62, 999)] I I := Fr.refl
  have hFJ : Fr K [(8, 5), (42, 999)] J J := Fr.refl
  refine r_aload_n hC dX6_takeKnower_0 1 rfl ?_
  refine r_geti hC 12 (ci := 1) rfl u1_in (by decide) mT_1_219 dX6_takeKnower_1 ka1 rfl rfl (fun x1_ e1 => ?_)
  have r1 := hs.rng ka1 rfl e1
  refine r_istore_n hC (lv' := [(2, .int x1_), (0, .ref a0), (1, .ref a1)]) dX6_takeKnower_4 (by decide) rfl ?_
  refine r_iload_n hC dX6_takeKnower_5 0 rfl ?_
  refine r_iconst hC (v := (4)) dX6_takeKnower_6 (by decide) (by decide) (fun x2_ e2 t2 => ?_)
  refine r_icmp_lt hC (tgt := 16) dX6_takeKnower_7 (by decide) (fun c3 => ?_) (fun c3 => ?_)
  · refine r_aload_n hC dX6_takeKnower_16 1 rfl ?_
    obtain ⟨a4_, hb4, hk4⟩ := hs.obj ka0 0 8 (by decide)
    refine r_getr hC 0 (ci := 6) rfl u6_in (by decide) mT_1_81 dX6_takeKnower_17 ka0 rfl rfl hb4 ?_
    refine r_callV hC (As := []) (rest := []) (ci := 7) (c_X7_next g (xL X) K len I J R hs a4_ hk4) mT_2_159 mT_1_4 mT_2_234 mT_2_157 mT_2_158 okX7_next ⟨by decide, by decide⟩ rfl (by show kO (K a4_) = _; rw [hk4]; rfl) rfl rfl (Nat.le_of_ble_eq_true rfl) ⟨by decide, by decide⟩ dX6_takeKnower_20 (aV2 (F := fun st M => P g X 4 23 [(2, .int x1_), (0, .ref a0), (1, .ref a1)] st _ _ M) (M := (K, len, I, J, R)) fun I5 J5 h5 => ?_)
    obtain ⟨hs5, hf5, hfj5⟩ := h5
    show P g X 4 23 [(2, .int x1_), (0, .ref a0), (1, .ref a1)] [] _ _ (K, len, I5, J5, R)
    have hF5 : Fr K [(2, 12), (7, 3), (7, 4), (7, 5), (7, 6), (8, 2), (8, 3), (8, 4), (61, 999), (62, 999)] I I5 := hF.trans hf5 rfl rfl
    have hFJ5 : Fr K [(8, 5), (42, 999)] J J5 := hFJ.trans hfj5 rfl rfl
    refine r_aload_n hC dX6_takeKnower_23 1 rfl ?_
    refine r_callV hC (As := []) (rest := []) (ci := 6) (c_X6_takeNewName g (xL X) K len I5 J5 R hs5 a0 ka0) mT_3_21 mT_1_3 mT_3_18 mT_3_20 mP_9 okX6_takeNewName ⟨by decide, by decide⟩ rfl (by show kO (K a0) = _; rw [ka0]; rfl) rfl rfl (Nat.le_of_ble_eq_true rfl) ⟨by decide, by decide⟩ dX6_takeKnower_24 (aI2 (F := fun st M => P g X 4 27 [(2, .int x1_), (0, .ref a0), (1, .ref a1)] st _ _ M) (M := (K, len, I5, J5, R)) fun x6_ I6 J6 h6 => ?_)
    obtain ⟨hs6, hf6, hfj6, k6_0, k6_1⟩ := h6
    show P g X 4 27 [(2, .int x1_), (0, .ref a0), (1, .ref a1)] [.int x6_] _ _ (K, len, I6, J6, R)
    have hF6 : Fr K [(2, 12), (7, 3), (7, 4), (7, 5), (7, 6), (8, 2), (8, 3), (8, 4), (61, 999), (62, 999)] I I6 := hF5.trans hf6 rfl rfl
    have hFJ6 : Fr K [(8, 5), (42, 999)] J J6 := hFJ5.trans hfj6 rfl rfl
    refine r_if_ne hC (tgt := 32) dX6_takeKnower_27 (by decide) (fun c7 => ?_) (fun c7 => ?_)
    · refine r_aload_n hC dX6_takeKnower_32 1 rfl ?_
      refine r_getr hC 0 (ci := 6) rfl u6_in (by decide) mT_1_81 dX6_takeKnower_33 ka0 rfl rfl hb4 ?_
      refine r_ldcS hC (i := 27) (by decide) rfl rfl dX6_takeKnower_36 ?_
      refine r_callV hC (As := [.ref (g.2.2.1 27)]) (rest := []) (ci := 7) (c_X7_isWord g (xL X) K len I6 J6 R hs6 a4_ hk4 27 (by decide)) mT_2_177 mT_1_4 mT_2_174 mT_2_175 mT_2_176 okX7_isWord ⟨by decide, by decide⟩ rfl (by show kO (K a4_) = _; rw [hk4]; rfl) rfl rfl (Nat.le_of_ble_eq_true rfl) ⟨by decide, by decide⟩ dX6_takeKnower_38 (aI0 (F := fun st M => P g X 4 41 [(2, .int x1_), (0, .ref a0), (1, .ref a1)] st _ _ M) (M := (K, len, I6, J6, R)) fun x8_ h8 => ?_)
      obtain ⟨k8_0, k8_1⟩ := h8
      show P g X 4 41 [(2, .int x1_), (0, .ref a0), (1, .ref a1)] [.int x8_] _ _ (K, len, I6, J6, R)
      refine r_if_ne hC (tgt := 50) dX6_takeKnower_41 (by decide) (fun c9 => ?_) (fun c9 => ?_)
      · refine r_aload_n hC dX6_takeKnower_50 1 rfl ?_
        refine r_getr hC 0 (ci := 6) rfl u6_in (by decide) mT_1_81 dX6_takeKnower_51 ka0 rfl rfl hb4 ?_
        refine r_callV hC (As := []) (rest := []) (ci := 7) (c_X7_next g (xL X) K len I6 J6 R hs6 a4_ hk4) mT_2_159 mT_1_4 mT_2_234 mT_2_157 mT_2_158 okX7_next ⟨by decide, by decide⟩ rfl (by show kO (K a4_) = _; rw [hk4]; rfl) rfl rfl (Nat.le_of_ble_eq_true rfl) ⟨by decide, by decide⟩ dX6_takeKnower_54 (aV2 (F := fun st M => P g X 4 57 [(2, .int x1_), (0, .ref a0), (1, .ref a1)] st _ _ M) (M := (K, len, I6, J6, R)) fun I10 J10 h10 => ?_)
        obtain ⟨hs10, hf10, hfj10⟩ := h10
        show P g X 4 57 [(2, .int x1_), (0, .ref a0), (1, .ref a1)] [] _ _ (K, len, I10, J10, R)
        have hF10 : Fr K [(2, 12), (7, 3), (7, 4), (7, 5), (7, 6), (8, 2), (8, 3), (8, 4), (61, 999), (62, 999)] I I10 := hF6.trans hf10 rfl rfl
        have hFJ10 : Fr K [(8, 5), (42, 999)] J J10 := hFJ6.trans hfj10 rfl rfl
        refine r_aload_n hC dX6_takeKnower_57 1 rfl ?_
        refine r_callV hC (As := []) (rest := []) (ci := 6) (c_X6_isName g (xL X) K len I10 J10 R hs10 a0 ka0) mT_3_25 mT_1_3 mT_3_22 mT_3_24 mP_10 okX6_isName ⟨by decide, by decide⟩ rfl (by show kO (K a0) = _; rw [ka0]; rfl) rfl rfl (Nat.le_of_ble_eq_true rfl) ⟨by decide, by decide⟩ dX6_takeKnower_58 (aI0 (F := fun st M => P g X 4 61 [(2, .int x1_), (0, .ref a0), (1, .ref a1)] st _ _ M) (M := (K, len, I10, J10, R)) fun x11_ h11 => ?_)
        obtain ⟨k11_0, k11_1⟩ := h11
        show P g X 4 61 [(2, .int x1_), (0, .ref a0), (1, .ref a1)] [.int x11_] _ _ (K, len, I10, J10, R)
        refine r_if_ne hC (tgt := 70) dX6_takeKnower_61 (by decide) (fun c12 => ?_) (fun c12 => ?_)
        · refine r_aload_n hC dX6_takeKnower_70 1 rfl ?_
          refine r_aload_n hC dX6_takeKnower_71 1 rfl ?_
          refine r_getr hC 0 (ci := 6) rfl u6_in (by decide) mT_1_81 dX6_takeKnower_72 ka0 rfl rfl hb4 ?_
          refine r_getj hC 5 (ci := 7) rfl u7_in (by decide) mT_1_66 dX6_takeKnower_75 hk4 rfl rfl (fun y13_ e13 => ?_)
          refine r_aload_n hC dX6_takeKnower_78 2 rfl ?_
          refine r_geti hC 1 (ci := 1) rfl u1_in (by decide) mT_1_186 dX6_takeKnower_79 ka1 rfl rfl (fun x14_ e14 => ?_)
          have r14 := hs10.rng ka1 rfl e14
          refine r_callV hC (As := [.long y13_, .int x14_]) (rest := []) (ci := 6) (c_X6_pegNamed g (xL X) K len I10 J10 R hs10 a0 ka0 y13_ x14_ (by omega)) mT_3_84 mT_1_3 mT_3_81 mT_3_83 mP_17 okX6_pegNamed ⟨by decide, by decide⟩ rfl (by show kO (K a0) = _; rw [ka0]; rfl) rfl rfl (Nat.le_of_ble_eq_true rfl) ⟨by decide, by decide⟩ dX6_takeKnower_82 (aI0 (F := fun st M => P g X 4 85 [(2, .int x1_), (0, .ref a0), (1, .ref a1)] st _ _ M) (M := (K, len, I10, J10, R)) fun x15_ h15 => ?_)
          skip
          show P g X 4 85 [(2, .int x1_), (0, .ref a0), (1, .ref a1)] [.int x15_] _ _ (K, len, I10, J10, R)
          refine r_istore_n hC (lv' := [(3, .int x15_), (2, .int x1_), (0, .ref a0), (1, .ref a1)]) dX6_takeKnower_85 (by decide) rfl ?_
          refine r_iload_n hC dX6_takeKnower_86 0 rfl ?_
          refine r_iconst hC (v := (-1)) dX6_takeKnower_87 (by decide) (by decide) (fun x16_ e16 t16 => ?_)
          refine r_icmp_ne hC (tgt := 97) dX6_takeKnower_88 (by decide) (fun c17 => ?_) (fun c17 => ?_)
          · refine r_aload_n hC dX6_takeKnower_97 3 rfl ?_
            obtain ⟨a18_, hb18, hk18, hn18⟩ := hs10.row ka1 13 61 4 (by decide) (by decide)
            refine r_getr hC 13 (ci := 1) rfl u1_in (by decide) mT_1_222 dX6_takeKnower_98 ka1 rfl rfl hb18 ?_
            refine r_iload_n hC dX6_takeKnower_101 1 rfl ?_
            refine r_iload_n hC dX6_takeKnower_102 0 rfl ?_
            refine x_iastore hC hk18 hn18 (by decide) rfl rfl dX6_takeKnower_103 (by omega) (by omega) (fun I19 eI19 => ?_)
            have hs19 := hs10.put0 eI19 hk18 (rng_arr (by decide) _) rfl (xF_arr (by decide) _) (by decide)
            have hF19 := hF10.put eI19 hk18 (inS_arr rfl _)
            refine r_aload_n hC dX6_takeKnower_104 2 rfl ?_
            refine r_getr hC 0 (ci := 6) rfl u6_in (by decide) mT_1_81 dX6_takeKnower_105 ka0 rfl rfl hb4 ?_
            refine r_callV hC (As := []) (rest := []) (ci := 7) (c_X7_next g (xL X) K len I19 J10 R hs19 a4_ hk4) mT_2_159 mT_1_4 mT_2_234 mT_2_157 mT_2_158 okX7_next ⟨by decide, by decide⟩ rfl (by show kO (K a4_) = _; rw [hk4]; rfl) rfl rfl (Nat.le_of_ble_eq_true rfl) ⟨by decide, by decide⟩ dX6_takeKnower_108 (aV2 (F := fun st M => P g X 4 111 [(3, .int x15_), (2, .int x1_), (0, .ref a0), (1, .ref a1)] st _ _ M) (M := (K, len, I19, J10, R)) fun I20 J20 h20 => ?_)
            obtain ⟨hs20, hf20, hfj20⟩ := h20
            show P g X 4 111 [(3, .int x15_), (2, .int x1_), (0, .ref a0), (1, .ref a1)] [] _ _ (K, len, I20, J20, R)
            have hF20 : Fr K [(2, 12), (7, 3), (7, 4), (7, 5), (7, 6), (8, 2), (8, 3), (8, 4), (61, 999), (62, 999)] I I20 := hF19.trans hf20 rfl rfl
            have hFJ20 : Fr K [(8, 5), (42, 999)] J J20 := hFJ10.trans hfj20 rfl rfl
            refine r_aload_n hC dX6_takeKnower_111 2 rfl ?_
            refine r_ldcS hC (i := 28) (by decide) rfl rfl dX6_takeKnower_112 ?_
            refine r_iconst hC (v := (0)) dX6_takeKnower_114 (by decide) (by decide) (fun x21_ e21 t21 => ?_)
            refine r_sipush hC (v := (999)) dX6_takeKnower_115 (by decide) (by decide) (fun x22_ e22 t22 => ?_)
            refine r_callV hC (As := [.ref (g.2.2.1 28), .int x21_, .int x22_]) (rest := []) (ci := 6) (c_X6_takeNumber g (xL X) K len I20 J20 R hs20 a0 ka0 28 (by decide) x21_ x22_) mT_2_239 mT_1_3 mT_2_236 mT_2_238 mP_6 okX6_takeNumber ⟨by decide, by decide⟩ rfl (by show kO (K a0) = _; rw [ka0]; rfl) rfl rfl (Nat.le_of_ble_eq_true rfl) ⟨by decide, by decide⟩ dX6_takeKnower_118 (aI2 (F := fun st M => P g X 4 121 [(3, .int x15_), (2, .int x1_), (0, .ref a0), (1, .ref a1)] st _ _ M) (M := (K, len, I20, J20, R)) fun x23_ I23 J23 h23 => ?_)
            obtain ⟨hs23, hf23, hfj23, k23_0, k23_1, k23_2⟩ := h23
            show P g X 4 121 [(3, .int x15_), (2, .int x1_), (0, .ref a0), (1, .ref a1)] [.int x23_] _ _ (K, len, I23, J23, R)
            have hF23 : Fr K [(2, 12), (7, 3), (7, 4), (7, 5), (7, 6), (8, 2), (8, 3), (8, 4), (61, 999), (62, 999)] I I23 := hF20.trans hf23 rfl rfl
            have hFJ23 : Fr K [(8, 5), (42, 999)] J J23 := hFJ20.trans hfj23 rfl rfl
            refine r_if_ne hC (tgt := 126) dX6_takeKnower_121 (by decide) (fun c24 => ?_) (fun c24 => ?_)
            · refine r_aload_n hC dX6_takeKnower_126 3 rfl ?_
              obtain ⟨a25_, hb25, hk25, hn25⟩ := hs23.row ka1 14 62 4 (by decide) (by decide)
              refine r_getr hC 14 (ci := 1) rfl u1_in (by decide) mT_1_225 dX6_takeKnower_127 ka1 rfl rfl hb25 ?_
              refine r_iload_n hC dX6_takeKnower_130 1 rfl ?_
              refine r_aload_n hC dX6_takeKnower_131 2 rfl ?_
              refine r_geti hC 4 (ci := 6) rfl u6_in (by decide) mT_1_85 dX6_takeKnower_132 ka0 rfl rfl (fun x26_ e26 => ?_)
              have f26 : x26_.toInt = (I23 a0 4).toInt := by rw [e26]
              refine x_iastore hC hk25 hn25 (by decide) rfl rfl dX6_takeKnower_135 (by omega) (by omega) (fun I27 eI27 => ?_)
              have hs27 := hs23.put0 eI27 hk25 (rng_arr (by decide) _) rfl (xF_arr (by decide) _) (by decide)
              have hF27 := hF23.put eI27 hk25 (inS_arr rfl _)
              refine r_aload_n hC dX6_takeKnower_136 3 rfl ?_
              refine r_dup hC dX6_takeKnower_137 rfl ?_
              refine r_geti hC 12 (ci := 1) rfl u1_in (by decide) mT_1_219 dX6_takeKnower_138 ka1 rfl rfl (fun x28_ e28 => ?_)
              have r28 := hs27.rng ka1 rfl e28
              have w28 : x28_ = x1_ := by rw [e28]; exact (Eq.trans (up2_kk eI27 hk25 ka1 (by decide)) (Eq.trans (hf23.get ka1 rfl) (Eq.trans (hf20.get ka1 rfl) (Eq.trans (up2_kk eI19 hk18 ka1 (by decide)) (Eq.trans (hf10.get ka1 rfl) (Eq.trans (hf6.get ka1 rfl) (Eq.trans (hf5.get ka1 rfl) e1.symm)))))))
              have wt28 : x28_.toInt = x1_.toInt := by rw [w28]
              refine r_iconst hC (v := (1)) dX6_takeKnower_141 (by decide) (by decide) (fun x29_ e29 t29 => ?_)
              refine r_iadd hC dX6_takeKnower_142 (fun x30_ e30 => ?_)
              try have t30 : x30_.toInt = x28_.toInt + x29_.toInt := by rw [e30]; exact ti_add (by omega) (by omega)
              refine r_puti hC 12 (ci := 1) rfl u1_in tyX1_ok nmX1 (by decide) mT_1_219 rfl rfl rfl dX6_takeKnower_143 ka1 rfl rfl (fun I31 eI31 => ?_)
              have hs31 := hs27.put1 eI31 ka1 rfl (by omega) (by omega) rfl rfl (by decide)
              have hF31 := hF27.put eI31 ka1 rfl
              refine r_iconst hC (v := (1)) dX6_takeKnower_146 (by decide) (by decide) (fun x32_ e32 t32 => ?_)
              exact r_iret hC hQ hlk hr (by rw [e32]; rfl) (by decide) (by decide) dX6_takeKnower_147 ⟨_, _, _, rfl, rfl, ⟨hs31, hF31, hFJ23, (by omega), (by omega)⟩⟩
            · refine r_iconst hC (v := (0)) dX6_takeKnower_124 (by decide) (by decide) (fun x33_ e33 t33 => ?_)
              exact r_iret hC hQ hlk hr (by rw [e33]; rfl) (by decide) (by decide) dX6_takeKnower_125 ⟨_, _, _, rfl, rfl, ⟨hs23, hF23, hFJ23, (by omega), (by omega)⟩⟩
          · refine r_aload_n hC dX6_takeKnower_91 2 rfl ?_
            refine r_iconst hC (v := (2)) dX6_takeKnower_92 (by decide) (by decide) (fun x34_ e34 t34 => ?_)
            refine r_callV hC (As := [.int x34_]) (rest := []) (ci := 6) (c_X6_faulty g (xL X) K len I10 J10 R hs10 a0 ka0 x34_) mT_2_233 mT_1_3 mT_2_230 mT_2_232 mP_5 okX6_faulty ⟨by decide, by decide⟩ rfl (by show kO (K a0) = _; rw [ka0]; rfl) rfl rfl (Nat.le_of_ble_eq_true rfl) ⟨by decide, by decide⟩ dX6_takeKnower_93 (aI1 (F := fun st M => P g X 4 96 [(3, .int x15_), (2, .int x1_), (0, .ref a0), (1, .ref a1)] st _ _ M) (M := (K, len, I10, J10, R)) fun x35_ I35 h35 => ?_)
            obtain ⟨hs35, hf35, k35_0⟩ := h35
            show P g X 4 96 [(3, .int x15_), (2, .int x1_), (0, .ref a0), (1, .ref a1)] [.int x35_] _ _ (K, len, I35, J10, R)
            have hF35 : Fr K [(2, 12), (7, 3), (7, 4), (7, 5), (7, 6), (8, 2), (8, 3), (8, 4), (61, 999), (62, 999)] I I35 := hF10.trans hf35 rfl rfl
            exact r_iret hC hQ hlk hr (nz_b (by omega) (by omega)) (by decide) (by decide) dX6_takeKnower_96 ⟨_, _, _, rfl, rfl, ⟨hs35, hF35, hFJ10, (by omega), (by omega)⟩⟩
        · refine r_aload_n hC dX6_takeKnower_64 1 rfl ?_
          refine r_iconst hC (v := (1)) dX6_takeKnower_65 (by decide) (by decide) (fun x36_ e36 t36 => ?_)
          refine r_callV hC (As := [.int x36_]) (rest := []) (ci := 6) (c_X6_faulty g (xL X) K len I10 J10 R hs10 a0 ka0 x36_) mT_2_233 mT_1_3 mT_2_230 mT_2_232 mP_5 okX6_faulty ⟨by decide, by decide⟩ rfl (by show kO (K a0) = _; rw [ka0]; rfl) rfl rfl (Nat.le_of_ble_eq_true rfl) ⟨by decide, by decide⟩ dX6_takeKnower_66 (aI1 (F := fun st M => P g X 4 69 [(2, .int x1_), (0, .ref a0), (1, .ref a1)] st _ _ M) (M := (K, len, I10, J10, R)) fun x37_ I37 h37 => ?_)
          obtain ⟨hs37, hf37, k37_0⟩ := h37
          show P g X 4 69 [(2, .int x1_), (0, .ref a0), (1, .ref a1)] [.int x37_] _ _ (K, len, I37, J10, R)
          have hF37 : Fr K [(2, 12), (7, 3), (7, 4), (7, 5), (7, 6), (8, 2), (8, 3), (8, 4), (61, 999), (62, 999)] I I37 := hF10.trans hf37 rfl rfl
          exact r_iret hC hQ hlk hr (nz_b (by omega) (by omega)) (by decide) (by decide) dX6_takeKnower_69 ⟨_, _, _, rfl, rfl, ⟨hs37, hF37, hFJ10, (by omega), (by omega)⟩⟩
      · refine r_aload_n hC dX6_takeKnower_44 1 rfl ?_
        refine r_iconst hC (v := (1)) dX6_takeKnower_45 (by decide) (by decide) (fun x38_ e38 t38 => ?_)
        refine r_callV hC (As := [.int x38_]) (rest := []) (ci := 6) (c_X6_faulty g (xL X) K len I6 J6 R hs6 a0 ka0 x38_) mT_2_233 mT_1_3 mT_2_230 mT_2_232 mP_5 okX6_faulty ⟨by decide, by decide⟩ rfl (by show kO (K a0) = _; rw [ka0]; rfl) rfl rfl (Nat.le_of_ble_eq_true rfl) ⟨by decide, by decide⟩ dX6_takeKnower_46 (aI1 (F := fun st M => P g X 4 49 [(2, .int x1_), (0, .ref a0), (1, .ref a1)] st _ _ M) (M := (K, len, I6, J6, R)) fun x39_ I39 h39 => ?_)
        obtain ⟨hs39, hf39, k39_0⟩ := h39
        show P g X 4 49 [(2, .int x1_), (0, .ref a0), (1, .ref a1)] [.int x39_] _ _ (K, len, I39, J6, R)
        have hF39 : Fr K [(2, 12), (7, 3), (7, 4), (7, 5), (7, 6), (8, 2), (8, 3), (8, 4), (61, 999), (62, 999)] I I39 := hF6.trans hf39 rfl rfl
        exact r_iret hC hQ hlk hr (nz_b (by omega) (by omega)) (by decide) (by decide) dX6_takeKnower_49 ⟨_, _, _, rfl, rfl, ⟨hs39, hF39, hFJ6, (by omega), (by omega)⟩⟩
    · refine r_iconst hC (v := (0)) dX6_takeKnower_30 (by decide) (by decide) (fun x40_ e40 t40 => ?_)
      exact r_iret hC hQ hlk hr (by rw [e40]; rfl) (by decide) (by decide) dX6_takeKnower_31 ⟨_, _, _, rfl, rfl, ⟨hs6, hF6, hFJ6, (by omega), (by omega)⟩⟩
  · refine r_aload_n hC dX6_takeKnower_10 1 rfl ?_
    refine r_iconst hC (v := (5)) dX6_takeKnower_11 (by decide) (by decide) (fun x41_ e41 t41 => ?_)
    refine r_callV hC (As := [.int x41_]) (rest := []) (ci := 6) (c_X6_faulty g (xL X) K len I J R hs a0 ka0 x41_) mT_2_233 mT_1_3 mT_2_230 mT_2_232 mP_5 okX6_faulty ⟨by decide, by decide⟩ rfl (by show kO (K a0) = _; rw [ka0]; rfl) rfl rfl (Nat.le_of_ble_eq_true rfl) ⟨by decide, by decide⟩ dX6_takeKnower_12 (aI1 (F := fun st M => P g X 4 15 [(2, .int x1_), (0, .ref a0), (1, .ref a1)] st _ _ M) (M := (K, len, I, J, R)) fun x42_ I42 h42 => ?_)
    obtain ⟨hs42, hf42, k42_0⟩ := h42
    show P g X 4 15 [(2, .int x1_), (0, .ref a0), (1, .ref a1)] [.int x42_] _ _ (K, len, I42, J, R)
    have hF42 : Fr K [(2, 12), (7, 3), (7, 4), (7, 5), (7, 6), (8, 2), (8, 3), (8, 4), (61, 999), (62, 999)] I I42 := hF.trans hf42 rfl rfl
    exact r_iret hC hQ hlk hr (nz_b (by omega) (by omega)) (by decide) (by decide) dX6_takeKnower_15 ⟨_, _, _, rfl, rfl, ⟨hs42, hF42, hFJ, (by omega), (by omega)⟩⟩
set_option maxHeartbeats 4000000 in
set_option maxRecDepth 100000 in
theorem c_X6_takeLine (g : GG) (l : Launch) (K len : Nat → Nat) (I : Nat → Nat → Int32) (J : Nat → Nat → Int64) (R : Nat → Nat → Option Nat) (hs : Sf K len I R) (a0 : Nat) (ka0 : K a0 = 7) (a1 : Nat) (ka1 : K a1 = 2) : Ct g l yX6_takeLine cX6_takeLine 2 (Option.some Jvm.ClassFile.FieldType.boolean) rmX6_takeLine [.ref a0, .ref a1] (K, len, I, J, R) (pI2 (K, len, I, J, R) (fun r I' J' => Sf K len I' R ∧ Fr K [(2, 1), (2, 4), (2, 6), (2, 8), (2, 12), (3, 0), (3, 1), (3, 2), (3, 3), (3, 4), (5, 0), (5, 1), (5, 2), (5, 3), (7, 3), (7, 4), (7, 5), (7, 6), (8, 2), (8, 3), (8, 4), (55, 999), (56, 999), (57, 999), (58, 999), (59, 999), (60, 999), (61, 999), (62, 999), (63, 999), (64, 999)] I I' ∧ Fr K [(8, 5), (42, 999), (48, 999)] J J' ∧ (0 ≤ r.toInt) ∧ (r.toInt ≤ 1))) := by
  refine Ct_intro (by decide +kernel) (Nat.le_of_ble_eq_true rfl) (fun X hC hL hKK hNm hr hlk hQ => ?_)
  subst hL
  have hC : Cx g X cX6_takeLine "HillTap$Teller" 2 rmX6_takeLine := hC
  show P g X 2 0 [(0, .ref a0), (1, .ref a1)] [] 0 0 (K, len, I, J, R)
  have hF : Fr K [(2, 1), (2, 4), (2, 6), (2, 8), (2, 12), (3, 0), (3, 1), (3, 2), (3, 3), (3, 4), (5, 0), (5, 1), (5, 2), (5, 3), (7, 3), (7, 4), (7, 5), (7, 6), (8, 2), (8, 3), (8, 4), (55, 999), (56, 999), (57, 999), (58, 999), (59, 999), (60, 999), (61, 999), (62, 999), (63, 999), (64, 999)] I I := Fr.refl
  have hFJ : Fr K [(8, 5), (42, 999), (48, 999)] J J := Fr.refl
  refine r_aload_n hC dX6_takeLine_0 0 rfl ?_
  obtain ⟨a1_, hb1, hk1⟩ := hs.obj ka0 0 8 (by decide)
  refine r_getr hC 0 (ci := 6) rfl u6_in (by decide) mT_1_81 dX6_takeLine_1 ka0 rfl rfl hb1 ?_
  refine r_ldcS hC (i := 0) (by decide) rfl rfl dX6_takeLine_4 ?_
  refine r_callV hC (As := [.ref (g.2.2.1 0)]) (rest := []) (ci := 7) (c_X7_isWord g (xL X) K len I J R hs a1_ hk1 0 (by decide)) mT_2_177 mT_1_4 mT_2_174 mT_2_175 mT_2_176 okX7_isWord ⟨by decide, by decide⟩ rfl (by show kO (K a1_) = _; rw [hk1]; rfl) rfl rfl (Nat.le_of_ble_eq_true rfl) ⟨by decide, by decide⟩ dX6_takeLine_6 (aI0 (F := fun st M => P g X 2 9 [(0, .ref a0), (1, .ref a1)] st _ _ M) (M := (K, len, I, J, R)) fun x2_ h2 => ?_)
  obtain ⟨k2_0, k2_1⟩ := h2
  show P g X 2 9 [(0, .ref a0), (1, .ref a1)] [.int x2_] _ _ (K, len, I, J, R)
  refine r_if_eq hC (tgt := 21) dX6_takeLine_9 (by decide) (fun c3 => ?_) (fun c3 => ?_)
  · refine r_aload_n hC dX6_takeLine_21 0 rfl ?_
    refine r_getr hC 0 (ci := 6) rfl u6_in (by decide) mT_1_81 dX6_takeLine_22 ka0 rfl rfl hb1 ?_
    refine r_ldcS hC (i := 4) (by decide) rfl rfl dX6_takeLine_25 ?_
    refine r_callV hC (As := [.ref (g.2.2.1 4)]) (rest := []) (ci := 7) (c_X7_isWord g (xL X) K len I J R hs a1_ hk1 4 (by decide)) mT_2_177 mT_1_4 mT_2_174 mT_2_175 mT_2_176 okX7_isWord ⟨by decide, by decide⟩ rfl (by show kO (K a1_) = _; rw [hk1]; rfl) rfl rfl (Nat.le_of_ble_eq_true rfl) ⟨by decide, by decide⟩ dX6_takeLine_27 (aI0 (F := fun st M => P g X 2 30 [(0, .ref a0), (1, .ref a1)] st _ _ M) (M := (K, len, I, J, R)) fun x4_ h4 => ?_)
    obtain ⟨k4_0, k4_1⟩ := h4
    show P g X 2 30 [(0, .ref a0), (1, .ref a1)] [.int x4_] _ _ (K, len, I, J, R)
    refine r_if_eq hC (tgt := 39) dX6_takeLine_30 (by decide) (fun c5 => ?_) (fun c5 => ?_)
    · refine r_aload_n hC dX6_takeLine_39 0 rfl ?_
      refine r_getr hC 0 (ci := 6) rfl u6_in (by decide) mT_1_81 dX6_takeLine_40 ka0 rfl rfl hb1 ?_
      refine r_ldcS hC (i := 5) (by decide) rfl rfl dX6_takeLine_43 ?_
      refine r_callV hC (As := [.ref (g.2.2.1 5)]) (rest := []) (ci := 7) (c_X7_isWord g (xL X) K len I J R hs a1_ hk1 5 (by decide)) mT_2_177 mT_1_4 mT_2_174 mT_2_175 mT_2_176 okX7_isWord ⟨by decide, by decide⟩ rfl (by show kO (K a1_) = _; rw [hk1]; rfl) rfl rfl (Nat.le_of_ble_eq_true rfl) ⟨by decide, by decide⟩ dX6_takeLine_45 (aI0 (F := fun st M => P g X 2 48 [(0, .ref a0), (1, .ref a1)] st _ _ M) (M := (K, len, I, J, R)) fun x6_ h6 => ?_)
      obtain ⟨k6_0, k6_1⟩ := h6
      show P g X 2 48 [(0, .ref a0), (1, .ref a1)] [.int x6_] _ _ (K, len, I, J, R)
      refine r_if_eq hC (tgt := 60) dX6_takeLine_48 (by decide) (fun c7 => ?_) (fun c7 => ?_)
      · refine r_aload_n hC dX6_takeLine_60 0 rfl ?_
        refine r_getr hC 0 (ci := 6) rfl u6_in (by decide) mT_1_81 dX6_takeLine_61 ka0 rfl rfl hb1 ?_
        refine r_ldcS hC (i := 6) (by decide) rfl rfl dX6_takeLine_64 ?_
        refine r_callV hC (As := [.ref (g.2.2.1 6)]) (rest := []) (ci := 7) (c_X7_isWord g (xL X) K len I J R hs a1_ hk1 6 (by decide)) mT_2_177 mT_1_4 mT_2_174 mT_2_175 mT_2_176 okX7_isWord ⟨by decide, by decide⟩ rfl (by show kO (K a1_) = _; rw [hk1]; rfl) rfl rfl (Nat.le_of_ble_eq_true rfl) ⟨by decide, by decide⟩ dX6_takeLine_66 (aI0 (F := fun st M => P g X 2 69 [(0, .ref a0), (1, .ref a1)] st _ _ M) (M := (K, len, I, J, R)) fun x8_ h8 => ?_)
        obtain ⟨k8_0, k8_1⟩ := h8
        show P g X 2 69 [(0, .ref a0), (1, .ref a1)] [.int x8_] _ _ (K, len, I, J, R)
        refine r_if_eq hC (tgt := 78) dX6_takeLine_69 (by decide) (fun c9 => ?_) (fun c9 => ?_)
        · refine r_aload_n hC dX6_takeLine_78 0 rfl ?_
          refine r_getr hC 0 (ci := 6) rfl u6_in (by decide) mT_1_81 dX6_takeLine_79 ka0 rfl rfl hb1 ?_
          refine r_ldcS hC (i := 7) (by decide) rfl rfl dX6_takeLine_82 ?_
          refine r_callV hC (As := [.ref (g.2.2.1 7)]) (rest := []) (ci := 7) (c_X7_isWord g (xL X) K len I J R hs a1_ hk1 7 (by decide)) mT_2_177 mT_1_4 mT_2_174 mT_2_175 mT_2_176 okX7_isWord ⟨by decide, by decide⟩ rfl (by show kO (K a1_) = _; rw [hk1]; rfl) rfl rfl (Nat.le_of_ble_eq_true rfl) ⟨by decide, by decide⟩ dX6_takeLine_84 (aI0 (F := fun st M => P g X 2 87 [(0, .ref a0), (1, .ref a1)] st _ _ M) (M := (K, len, I, J, R)) fun x10_ h10 => ?_)
          obtain ⟨k10_0, k10_1⟩ := h10
          show P g X 2 87 [(0, .ref a0), (1, .ref a1)] [.int x10_] _ _ (K, len, I, J, R)
          refine r_if_eq hC (tgt := 96) dX6_takeLine_87 (by decide) (fun c11 => ?_) (fun c11 => ?_)
          · refine r_aload_n hC dX6_takeLine_96 0 rfl ?_
            refine r_getr hC 0 (ci := 6) rfl u6_in (by decide) mT_1_81 dX6_takeLine_97 ka0 rfl rfl hb1 ?_
            refine r_ldcS hC (i := 8) (by decide) rfl rfl dX6_takeLine_100 ?_
            refine r_callV hC (As := [.ref (g.2.2.1 8)]) (rest := []) (ci := 7) (c_X7_isWord g (xL X) K len I J R hs a1_ hk1 8 (by decide)) mT_2_177 mT_1_4 mT_2_174 mT_2_175 mT_2_176 okX7_isWord ⟨by decide, by decide⟩ rfl (by show kO (K a1_) = _; rw [hk1]; rfl) rfl rfl (Nat.le_of_ble_eq_true rfl) ⟨by decide, by decide⟩ dX6_takeLine_102 (aI0 (F := fun st M => P g X 2 105 [(0, .ref a0), (1, .ref a1)] st _ _ M) (M := (K, len, I, J, R)) fun x12_ h12 => ?_)
            obtain ⟨k12_0, k12_1⟩ := h12
            show P g X 2 105 [(0, .ref a0), (1, .ref a1)] [.int x12_] _ _ (K, len, I, J, R)
            refine r_if_eq hC (tgt := 114) dX6_takeLine_105 (by decide) (fun c13 => ?_) (fun c13 => ?_)
            · refine r_aload_n hC dX6_takeLine_114 0 rfl ?_
              refine r_getr hC 0 (ci := 6) rfl u6_in (by decide) mT_1_81 dX6_takeLine_115 ka0 rfl rfl hb1 ?_
              refine r_ldcS hC (i := 9) (by decide) rfl rfl dX6_takeLine_118 ?_
              refine r_callV hC (As := [.ref (g.2.2.1 9)]) (rest := []) (ci := 7) (c_X7_isWord g (xL X) K len I J R hs a1_ hk1 9 (by decide)) mT_2_177 mT_1_4 mT_2_174 mT_2_175 mT_2_176 okX7_isWord ⟨by decide, by decide⟩ rfl (by show kO (K a1_) = _; rw [hk1]; rfl) rfl rfl (Nat.le_of_ble_eq_true rfl) ⟨by decide, by decide⟩ dX6_takeLine_120 (aI0 (F := fun st M => P g X 2 123 [(0, .ref a0), (1, .ref a1)] st _ _ M) (M := (K, len, I, J, R)) fun x14_ h14 => ?_)
              obtain ⟨k14_0, k14_1⟩ := h14
              show P g X 2 123 [(0, .ref a0), (1, .ref a1)] [.int x14_] _ _ (K, len, I, J, R)
              refine r_if_eq hC (tgt := 132) dX6_takeLine_123 (by decide) (fun c15 => ?_) (fun c15 => ?_)
              · refine r_aload_n hC dX6_takeLine_132 0 rfl ?_
                refine r_iconst hC (v := (1)) dX6_takeLine_133 (by decide) (by decide) (fun x16_ e16 t16 => ?_)
                refine r_callV hC (As := [.int x16_]) (rest := []) (ci := 6) (c_X6_faulty g (xL X) K len I J R hs a0 ka0 x16_) mT_2_233 mT_1_3 mT_2_230 mT_2_232 mP_5 okX6_faulty ⟨by decide, by decide⟩ rfl (by show kO (K a0) = _; rw [ka0]; rfl) rfl rfl (Nat.le_of_ble_eq_true rfl) ⟨by decide, by decide⟩ dX6_takeLine_134 (aI1 (F := fun st M => P g X 2 137 [(0, .ref a0), (1, .ref a1)] st _ _ M) (M := (K, len, I, J, R)) fun x17_ I17 h17 => ?_)
                obtain ⟨hs17, hf17, k17_0⟩ := h17
                show P g X 2 137 [(0, .ref a0), (1, .ref a1)] [.int x17_] _ _ (K, len, I17, J, R)
                have hF17 : Fr K [(2, 1), (2, 4), (2, 6), (2, 8), (2, 12), (3, 0), (3, 1), (3, 2), (3, 3), (3, 4), (5, 0), (5, 1), (5, 2), (5, 3), (7, 3), (7, 4), (7, 5), (7, 6), (8, 2), (8, 3), (8, 4), (55, 999), (56, 999), (57, 999), (58, 999), (59, 999), (60, 999), (61, 999), (62, 999), (63, 999), (64, 999)] I I17 := hF.trans hf17 rfl rfl
                exact r_iret hC hQ hlk hr (nz_b (by omega) (by omega)) (by decide) (by decide) dX6_takeLine_137 ⟨_, _, _, rfl, rfl, ⟨hs17, hF17, hFJ, (by omega), (by omega)⟩⟩
              · refine r_aload_n hC dX6_takeLine_126 0 rfl ?_
                refine r_aload_n hC dX6_takeLine_127 1 rfl ?_
                refine r_callV hC (As := [.ref a1]) (rest := []) (ci := 6) (c_X6_takeKnower g (xL X) K len I J R hs a0 ka0 a1 ka1) mT_3_79 mT_1_3 mT_3_76 mT_3_78 mP_16 okX6_takeKnower ⟨by decide, by decide⟩ rfl (by show kO (K a0) = _; rw [ka0]; rfl) rfl rfl (Nat.le_of_ble_eq_true rfl) ⟨by decide, by decide⟩ dX6_takeLine_128 (aI2 (F := fun st M => P g X 2 131 [(0, .ref a0), (1, .ref a1)] st _ _ M) (M := (K, len, I, J, R)) fun x18_ I18 J18 h18 => ?_)
                obtain ⟨hs18, hf18, hfj18, k18_0, k18_1⟩ := h18
                show P g X 2 131 [(0, .ref a0), (1, .ref a1)] [.int x18_] _ _ (K, len, I18, J18, R)
                have hF18 : Fr K [(2, 1), (2, 4), (2, 6), (2, 8), (2, 12), (3, 0), (3, 1), (3, 2), (3, 3), (3, 4), (5, 0), (5, 1), (5, 2), (5, 3), (7, 3), (7, 4), (7, 5), (7, 6), (8, 2), (8, 3), (8, 4), (55, 999), (56, 999), (57, 999), (58, 999), (59, 999), (60, 999), (61, 999), (62, 999), (63, 999), (64, 999)] I I18 := hF.trans hf18 rfl rfl
                have hFJ18 : Fr K [(8, 5), (42, 999), (48, 999)] J J18 := hFJ.trans hfj18 rfl rfl
                exact r_iret hC hQ hlk hr (nz_b (by omega) (by omega)) (by decide) (by decide) dX6_takeLine_131 ⟨_, _, _, rfl, rfl, ⟨hs18, hF18, hFJ18, (by omega), (by omega)⟩⟩
            · refine r_aload_n hC dX6_takeLine_108 0 rfl ?_
              refine r_aload_n hC dX6_takeLine_109 1 rfl ?_
              refine r_callV hC (As := [.ref a1]) (rest := []) (ci := 6) (c_X6_takeVillage g (xL X) K len I J R hs a0 ka0 a1 ka1) mT_3_72 mT_1_3 mT_3_69 mT_3_71 mP_15 okX6_takeVillage ⟨by decide, by decide⟩ rfl (by show kO (K a0) = _; rw [ka0]; rfl) rfl rfl (Nat.le_of_ble_eq_true rfl) ⟨by decide, by decide⟩ dX6_takeLine_110 (aI2 (F := fun st M => P g X 2 113 [(0, .ref a0), (1, .ref a1)] st _ _ M) (M := (K, len, I, J, R)) fun x19_ I19 J19 h19 => ?_)
              obtain ⟨hs19, hf19, hfj19, k19_0, k19_1⟩ := h19
              show P g X 2 113 [(0, .ref a0), (1, .ref a1)] [.int x19_] _ _ (K, len, I19, J19, R)
              have hF19 : Fr K [(2, 1), (2, 4), (2, 6), (2, 8), (2, 12), (3, 0), (3, 1), (3, 2), (3, 3), (3, 4), (5, 0), (5, 1), (5, 2), (5, 3), (7, 3), (7, 4), (7, 5), (7, 6), (8, 2), (8, 3), (8, 4), (55, 999), (56, 999), (57, 999), (58, 999), (59, 999), (60, 999), (61, 999), (62, 999), (63, 999), (64, 999)] I I19 := hF.trans hf19 rfl rfl
              have hFJ19 : Fr K [(8, 5), (42, 999), (48, 999)] J J19 := hFJ.trans hfj19 rfl rfl
              exact r_iret hC hQ hlk hr (nz_b (by omega) (by omega)) (by decide) (by decide) dX6_takeLine_113 ⟨_, _, _, rfl, rfl, ⟨hs19, hF19, hFJ19, (by omega), (by omega)⟩⟩
          · refine r_aload_n hC dX6_takeLine_90 0 rfl ?_
            refine r_aload_n hC dX6_takeLine_91 1 rfl ?_
            refine r_callV hC (As := [.ref a1]) (rest := []) (ci := 6) (c_X6_takeStory g (xL X) K len I J R hs a0 ka0 a1 ka1) mT_3_54 mT_1_3 mT_3_51 mT_3_53 mP_13 okX6_takeStory ⟨by decide, by decide⟩ rfl (by show kO (K a0) = _; rw [ka0]; rfl) rfl rfl (Nat.le_of_ble_eq_true rfl) ⟨by decide, by decide⟩ dX6_takeLine_92 (aI2 (F := fun st M => P g X 2 95 [(0, .ref a0), (1, .ref a1)] st _ _ M) (M := (K, len, I, J, R)) fun x20_ I20 J20 h20 => ?_)
            obtain ⟨hs20, hf20, hfj20, k20_0, k20_1⟩ := h20
            show P g X 2 95 [(0, .ref a0), (1, .ref a1)] [.int x20_] _ _ (K, len, I20, J20, R)
            have hF20 : Fr K [(2, 1), (2, 4), (2, 6), (2, 8), (2, 12), (3, 0), (3, 1), (3, 2), (3, 3), (3, 4), (5, 0), (5, 1), (5, 2), (5, 3), (7, 3), (7, 4), (7, 5), (7, 6), (8, 2), (8, 3), (8, 4), (55, 999), (56, 999), (57, 999), (58, 999), (59, 999), (60, 999), (61, 999), (62, 999), (63, 999), (64, 999)] I I20 := hF.trans hf20 rfl rfl
            have hFJ20 : Fr K [(8, 5), (42, 999), (48, 999)] J J20 := hFJ.trans hfj20 rfl rfl
            exact r_iret hC hQ hlk hr (nz_b (by omega) (by omega)) (by decide) (by decide) dX6_takeLine_95 ⟨_, _, _, rfl, rfl, ⟨hs20, hF20, hFJ20, (by omega), (by omega)⟩⟩
        · refine r_aload_n hC dX6_takeLine_72 0 rfl ?_
          refine r_aload_n hC dX6_takeLine_73 1 rfl ?_
          refine r_callV hC (As := [.ref a1]) (rest := []) (ci := 6) (c_X6_takeRain g (xL X) K len I J R hs a0 ka0 a1 ka1) mT_3_49 mT_1_3 mT_3_46 mT_3_48 mP_12 okX6_takeRain ⟨by decide, by decide⟩ rfl (by show kO (K a0) = _; rw [ka0]; rfl) rfl rfl (Nat.le_of_ble_eq_true rfl) ⟨by decide, by decide⟩ dX6_takeLine_74 (aI2 (F := fun st M => P g X 2 77 [(0, .ref a0), (1, .ref a1)] st _ _ M) (M := (K, len, I, J, R)) fun x21_ I21 J21 h21 => ?_)
          obtain ⟨hs21, hf21, hfj21, k21_0, k21_1⟩ := h21
          show P g X 2 77 [(0, .ref a0), (1, .ref a1)] [.int x21_] _ _ (K, len, I21, J21, R)
          have hF21 : Fr K [(2, 1), (2, 4), (2, 6), (2, 8), (2, 12), (3, 0), (3, 1), (3, 2), (3, 3), (3, 4), (5, 0), (5, 1), (5, 2), (5, 3), (7, 3), (7, 4), (7, 5), (7, 6), (8, 2), (8, 3), (8, 4), (55, 999), (56, 999), (57, 999), (58, 999), (59, 999), (60, 999), (61, 999), (62, 999), (63, 999), (64, 999)] I I21 := hF.trans hf21 rfl rfl
          have hFJ21 : Fr K [(8, 5), (42, 999), (48, 999)] J J21 := hFJ.trans hfj21 rfl rfl
          exact r_iret hC hQ hlk hr (nz_b (by omega) (by omega)) (by decide) (by decide) dX6_takeLine_77 ⟨_, _, _, rfl, rfl, ⟨hs21, hF21, hFJ21, (by omega), (by omega)⟩⟩
      · refine r_aload_n hC dX6_takeLine_51 0 rfl ?_
        refine r_aload_n hC dX6_takeLine_52 1 rfl ?_
        obtain ⟨a22_, hb22, hk22⟩ := hs.obj ka1 0 3 (by decide)
        refine r_getr hC 0 (ci := 1) rfl u1_in (by decide) mT_1_181 dX6_takeLine_53 ka1 rfl rfl hb22 ?_
        refine r_callV hC (As := [.ref a22_]) (rest := []) (ci := 6) (c_X6_takeFrom g (xL X) K len I J R hs a0 ka0 a22_ hk22) mT_3_40 mT_1_3 mT_3_37 mT_3_39 mP_11 okX6_takeFrom ⟨by decide, by decide⟩ rfl (by show kO (K a0) = _; rw [ka0]; rfl) rfl rfl (Nat.le_of_ble_eq_true rfl) ⟨by decide, by decide⟩ dX6_takeLine_56 (aI2 (F := fun st M => P g X 2 59 [(0, .ref a0), (1, .ref a1)] st _ _ M) (M := (K, len, I, J, R)) fun x23_ I23 J23 h23 => ?_)
        obtain ⟨hs23, hf23, hfj23, k23_0, k23_1⟩ := h23
        show P g X 2 59 [(0, .ref a0), (1, .ref a1)] [.int x23_] _ _ (K, len, I23, J23, R)
        have hF23 : Fr K [(2, 1), (2, 4), (2, 6), (2, 8), (2, 12), (3, 0), (3, 1), (3, 2), (3, 3), (3, 4), (5, 0), (5, 1), (5, 2), (5, 3), (7, 3), (7, 4), (7, 5), (7, 6), (8, 2), (8, 3), (8, 4), (55, 999), (56, 999), (57, 999), (58, 999), (59, 999), (60, 999), (61, 999), (62, 999), (63, 999), (64, 999)] I I23 := hF.trans hf23 rfl rfl
        have hFJ23 : Fr K [(8, 5), (42, 999), (48, 999)] J J23 := hFJ.trans hfj23 rfl rfl
        exact r_iret hC hQ hlk hr (nz_b (by omega) (by omega)) (by decide) (by decide) dX6_takeLine_59 ⟨_, _, _, rfl, rfl, ⟨hs23, hF23, hFJ23, (by omega), (by omega)⟩⟩
    · refine r_aload_n hC dX6_takeLine_33 0 rfl ?_
      refine r_aload_n hC dX6_takeLine_34 1 rfl ?_
      refine r_callV hC (As := [.ref a1]) (rest := []) (ci := 6) (c_X6_takePeg g (xL X) K len I J R hs a0 ka0 a1 ka1) mT_3_17 mT_1_3 mT_3_14 mT_3_16 mP_8 okX6_takePeg ⟨by decide, by decide⟩ rfl (by show kO (K a0) = _; rw [ka0]; rfl) rfl rfl (Nat.le_of_ble_eq_true rfl) ⟨by decide, by decide⟩ dX6_takeLine_35 (aI2 (F := fun st M => P g X 2 38 [(0, .ref a0), (1, .ref a1)] st _ _ M) (M := (K, len, I, J, R)) fun x24_ I24 J24 h24 => ?_)
      obtain ⟨hs24, hf24, hfj24, k24_0, k24_1⟩ := h24
      show P g X 2 38 [(0, .ref a0), (1, .ref a1)] [.int x24_] _ _ (K, len, I24, J24, R)
      have hF24 : Fr K [(2, 1), (2, 4), (2, 6), (2, 8), (2, 12), (3, 0), (3, 1), (3, 2), (3, 3), (3, 4), (5, 0), (5, 1), (5, 2), (5, 3), (7, 3), (7, 4), (7, 5), (7, 6), (8, 2), (8, 3), (8, 4), (55, 999), (56, 999), (57, 999), (58, 999), (59, 999), (60, 999), (61, 999), (62, 999), (63, 999), (64, 999)] I I24 := hF.trans hf24 rfl rfl
      have hFJ24 : Fr K [(8, 5), (42, 999), (48, 999)] J J24 := hFJ.trans hfj24 rfl rfl
      exact r_iret hC hQ hlk hr (nz_b (by omega) (by omega)) (by decide) (by decide) dX6_takeLine_38 ⟨_, _, _, rfl, rfl, ⟨hs24, hF24, hFJ24, (by omega), (by omega)⟩⟩
  · refine r_aload_n hC dX6_takeLine_12 0 rfl ?_
    refine r_aload_n hC dX6_takeLine_13 1 rfl ?_
    obtain ⟨a25_, hb25, hk25⟩ := hs.obj ka1 0 3 (by decide)
    refine r_getr hC 0 (ci := 1) rfl u1_in (by decide) mT_1_181 dX6_takeLine_14 ka1 rfl rfl hb25 ?_
    refine r_callV hC (As := [.ref a25_]) (rest := []) (ci := 6) (c_X6_takeLake g (xL X) K len I J R hs a0 ka0 a25_ hk25) mT_2_229 mT_1_3 mT_2_226 mT_2_228 mP_4 okX6_takeLake ⟨by decide, by decide⟩ rfl (by show kO (K a0) = _; rw [ka0]; rfl) rfl rfl (Nat.le_of_ble_eq_true rfl) ⟨by decide, by decide⟩ dX6_takeLine_17 (aI2 (F := fun st M => P g X 2 20 [(0, .ref a0), (1, .ref a1)] st _ _ M) (M := (K, len, I, J, R)) fun x26_ I26 J26 h26 => ?_)
    obtain ⟨hs26, hf26, hfj26, k26_0, k26_1⟩ := h26
    show P g X 2 20 [(0, .ref a0), (1, .ref a1)] [.int x26_] _ _ (K, len, I26, J26, R)
    have hF26 : Fr K [(2, 1), (2, 4), (2, 6), (2, 8), (2, 12), (3, 0), (3, 1), (3, 2), (3, 3), (3, 4), (5, 0), (5, 1), (5, 2), (5, 3), (7, 3), (7, 4), (7, 5), (7, 6), (8, 2), (8, 3), (8, 4), (55, 999), (56, 999), (57, 999), (58, 999), (59, 999), (60, 999), (61, 999), (62, 999), (63, 999), (64, 999)] I I26 := hF.trans hf26 rfl rfl
    have hFJ26 : Fr K [(8, 5), (42, 999), (48, 999)] J J26 := hFJ.trans hfj26 rfl rfl
    exact r_iret hC hQ hlk hr (nz_b (by omega) (by omega)) (by decide) (by decide) dX6_takeLine_20 ⟨_, _, _, rfl, rfl, ⟨hs26, hF26, hFJ26, (by omega), (by omega)⟩⟩
set_option maxHeartbeats 4000000 in
set_option maxRecDepth 100000 in
theorem c_X6_tellHill (g : GG) (l : Launch) (K len : Nat → Nat) (I : Nat → Nat → Int32) (J : Nat → Nat → Int64) (R : Nat → Nat → Option Nat) (hs : Sf K len I R) (a0 : Nat) (ka0 : K a0 = 7) (x1 : Int32) (a2 : Nat) (ka2 : K a2 = 2) (p0 : 0 ≤ x1.toInt) : Ct g l yX6_tellHill cX6_tellHill 5 (Option.some Jvm.ClassFile.FieldType.boolean) rmX6_tellHill [.ref a0, .int x1, .ref a2] (K, len, I, J, R) (pI2 (K, len, I, J, R) (fun r I' J' => Sf K len I' R ∧ Fr K [(2, 1), (2, 4), (2, 6), (2, 8), (2, 12), (3, 0), (3, 1), (3, 2), (3, 3), (3, 4), (3, 5), (5, 0), (5, 1), (5, 2), (5, 3), (7, 3), (7, 4), (7, 5), (7, 6), (8, 1), (8, 2), (8, 3), (8, 4), (55, 999), (56, 999), (57, 999), (58, 999), (59, 999), (60, 999), (61, 999), (62, 999), (63, 999), (64, 999)] I I' ∧ Fr K [(8, 5), (42, 999), (48, 999)] J J' ∧ (0 ≤ r.toInt) ∧ (r.toInt ≤ 1))) := by
  refine Ct_intro (by decide +kernel) (Nat.le_of_ble_eq_true rfl) (fun X hC hL hKK hNm hr hlk hQ => ?_)
  subst hL
  have hC : Cx g X cX6_tellHill "HillTap$Teller" 5 rmX6_tellHill := hC
  show P g X 5 0 [(0, .ref a0), (1, .int x1), (2, .ref a2)] [] 0 0 (K, len, I, J, R)
  have hF : Fr K [(2, 1), (2, 4), (2, 6), (2, 8), (2, 12), (3, 0), (3, 1), (3, 2), (3, 3), (3, 4), (3, 5), (5, 0), (5, 1), (5, 2), (5, 3), (7, 3), (7, 4), (7, 5), (7, 6), (8, 1), (8, 2), (8, 3), (8, 4), (55, 999), (56, 999), (57, 999), (58, 999), (59, 999), (60, 999), (61, 999), (62, 999), (63, 999), (64, 999)] I I := Fr.refl
  have hFJ : Fr K [(8, 5), (42, 999), (48, 999)] J J := Fr.refl
  have b_x1 := ti_rng x1
  refine r_aload_n hC dX6_tellHill_0 2 rfl ?_
  refine r_callV hC (As := []) (rest := []) (ci := 1) (c_X1_empty g (xL X) K len I J R hs a2 ka2) mT_2_141 mT_1_5 mT_2_138 mT_2_139 mT_2_140 okX1_empty ⟨by decide, by decide⟩ rfl (by show kO (K a2) = _; rw [ka2]; rfl) rfl rfl (Nat.le_of_ble_eq_true rfl) ⟨by decide, by decide⟩ dX6_tellHill_1 (aV1 (F := fun st M => P g X 5 4 [(0, .ref a0), (1, .int x1), (2, .ref a2)] st _ _ M) (M := (K, len, I, J, R)) fun I1 h1 => ?_)
  obtain ⟨hs1, hf1⟩ := h1
  show P g X 5 4 [(0, .ref a0), (1, .int x1), (2, .ref a2)] [] _ _ (K, len, I1, J, R)
  have hF1 : Fr K [(2, 1), (2, 4), (2, 6), (2, 8), (2, 12), (3, 0), (3, 1), (3, 2), (3, 3), (3, 4), (3, 5), (5, 0), (5, 1), (5, 2), (5, 3), (7, 3), (7, 4), (7, 5), (7, 6), (8, 1), (8, 2), (8, 3), (8, 4), (55, 999), (56, 999), (57, 999), (58, 999), (59, 999), (60, 999), (61, 999), (62, 999), (63, 999), (64, 999)] I I1 := hF.trans hf1 rfl rfl
  refine r_aload_n hC dX6_tellHill_4 0 rfl ?_
  refine r_iconst hC (v := (0)) dX6_tellHill_5 (by decide) (by decide) (fun x2_ e2 t2 => ?_)
  refine r_puti hC 3 (ci := 6) rfl u6_in tyX6_ok nmX6 (by decide) mT_1_84 rfl rfl rfl dX6_tellHill_6 ka0 rfl rfl (fun I3 eI3 => ?_)
  have hs3 := hs1.put1 eI3 ka0 rfl (by omega) (by omega) rfl rfl (by decide)
  have hF3 := hF1.put eI3 ka0 rfl
  refine r_aload_n hC dX6_tellHill_9 0 rfl ?_
  refine r_iconst hC (v := (0)) dX6_tellHill_10 (by decide) (by decide) (fun x4_ e4 t4 => ?_)
  refine r_puti hC 5 (ci := 6) rfl u6_in tyX6_ok nmX6 (by decide) mT_1_86 rfl rfl rfl dX6_tellHill_11 ka0 rfl rfl (fun I5 eI5 => ?_)
  have hs5 := hs3.put0 eI5 ka0 rfl rfl rfl (by decide)
  have hF5 := hF3.put eI5 ka0 rfl
  refine r_aload_n hC dX6_tellHill_14 0 rfl ?_
  refine r_iconst hC (v := (0)) dX6_tellHill_15 (by decide) (by decide) (fun x6_ e6 t6 => ?_)
  refine r_puti hC 6 (ci := 6) rfl u6_in tyX6_ok nmX6 (by decide) mT_1_88 rfl rfl rfl dX6_tellHill_16 ka0 rfl rfl (fun I7 eI7 => ?_)
  have hs7 := hs5.put0 eI7 ka0 rfl rfl rfl (by decide)
  have hF7 := hF5.put eI7 ka0 rfl
  refine r_aload_n hC dX6_tellHill_19 0 rfl ?_
  obtain ⟨a8_, hb8, hk8⟩ := hs7.obj ka0 0 8 (by decide)
  refine r_getr hC 0 (ci := 6) rfl u6_in (by decide) mT_1_81 dX6_tellHill_20 ka0 rfl rfl hb8 ?_
  refine r_iload_n hC dX6_tellHill_23 1 rfl ?_
  refine r_callV hC (As := [.int x1]) (rest := []) (ci := 7) (c_X7_begin g (xL X) K len I7 J R hs7 a8_ hk8 x1 (by omega)) mT_2_152 mT_1_4 mT_2_149 mT_2_150 mT_2_151 okX7_begin ⟨by decide, by decide⟩ rfl (by show kO (K a8_) = _; rw [hk8]; rfl) rfl rfl (Nat.le_of_ble_eq_true rfl) ⟨by decide, by decide⟩ dX6_tellHill_24 (aV2 (F := fun st M => P g X 5 27 [(0, .ref a0), (1, .int x1), (2, .ref a2)] st _ _ M) (M := (K, len, I7, J, R)) fun I9 J9 h9 => ?_)
  obtain ⟨hs9, hf9, hfj9⟩ := h9
  show P g X 5 27 [(0, .ref a0), (1, .int x1), (2, .ref a2)] [] _ _ (K, len, I9, J9, R)
  have hF9 : Fr K [(2, 1), (2, 4), (2, 6), (2, 8), (2, 12), (3, 0), (3, 1), (3, 2), (3, 3), (3, 4), (3, 5), (5, 0), (5, 1), (5, 2), (5, 3), (7, 3), (7, 4), (7, 5), (7, 6), (8, 1), (8, 2), (8, 3), (8, 4), (55, 999), (56, 999), (57, 999), (58, 999), (59, 999), (60, 999), (61, 999), (62, 999), (63, 999), (64, 999)] I I9 := hF7.trans hf9 rfl rfl
  have hFJ9 : Fr K [(8, 5), (42, 999), (48, 999)] J J9 := hFJ.trans hfj9 rfl rfl
  refine r_iconst hC (v := (1)) dX6_tellHill_27 (by decide) (by decide) (fun x10_ e10 t10 => ?_)
  refine r_istore_n hC (lv' := [(3, .int x10_), (0, .ref a0), (1, .int x1), (2, .ref a2)]) dX6_tellHill_28 (by decide) rfl ?_
  refine r_iconst hC (v := (0)) dX6_tellHill_29 (by decide) (by decide) (fun x11_ e11 t11 => ?_)
  refine r_istore hC (lv' := [(4, .int x11_), (3, .int x10_), (0, .ref a0), (1, .int x1), (2, .ref a2)]) dX6_tellHill_30 (by decide) rfl ?_
  have LP12 : ∀ (mu : Nat) (x12_4 : Int32) (x12_3 : Int32) (I12 : Nat → Nat → Int32) (J12 : Nat → Nat → Int64) (hs12 : Sf K len I12 R) (hF12 : Fr K [(2, 1), (2, 4), (2, 6), (2, 8), (2, 12), (3, 0), (3, 1), (3, 2), (3, 3), (3, 4), (3, 5), (5, 0), (5, 1), (5, 2), (5, 3), (7, 3), (7, 4), (7, 5), (7, 6), (8, 1), (8, 2), (8, 3), (8, 4), (55, 999), (56, 999), (57, 999), (58, 999), (59, 999), (60, 999), (61, 999), (62, 999), (63, 999), (64, 999)] I I12) (hFJ12 : Fr K [(8, 5), (42, 999), (48, 999)] J J12) (v12_0 : 0 ≤ x12_4.toInt) (v12_1 : x12_4.toInt ≤ 901), (901 - x12_4.toInt).toNat = mu → P g X 5 32 [(0, .ref a0), (1, .int x1), (2, .ref a2), (3, .int x12_3), (4, .int x12_4)] [] 0 0 (K, len, I12, J12, R) := by
    intro mu; induction mu using Nat.strongRecOn with | ind mu ih => ?_
    intro x12_4 x12_3 I12 J12 hs12 hF12 hFJ12 v12_0 v12_1 hmu
    have ih12 := ih
    clear ih
    have hmu12 := hmu
    clear hmu
    refine r_iload_n hC dX6_tellHill_32 3 rfl ?_
    refine r_if_eq hC (tgt := 79) dX6_tellHill_33 (by decide) (fun c13 => ?_) (fun c13 => ?_)
    · refine r_aload_n hC dX6_tellHill_79 0 rfl ?_
      refine r_getr hC 0 (ci := 6) rfl u6_in (by decide) mT_1_81 dX6_tellHill_80 ka0 rfl rfl hb8 ?_
      refine r_callV hC (As := []) (rest := []) (ci := 7) (c_X7_isEnd g (xL X) K len I12 J12 R hs12 a8_ hk8) mT_3_93 mT_1_4 mT_3_90 mT_3_91 mT_3_92 okX7_isEnd ⟨by decide, by decide⟩ rfl (by show kO (K a8_) = _; rw [hk8]; rfl) rfl rfl (Nat.le_of_ble_eq_true rfl) ⟨by decide, by decide⟩ dX6_tellHill_83 (aI0 (F := fun st M => P g X 5 86 [(0, .ref a0), (1, .int x1), (2, .ref a2), (3, .int x12_3), (4, .int x12_4)] st _ _ M) (M := (K, len, I12, J12, R)) fun x14_ h14 => ?_)
      obtain ⟨k14_0, k14_1⟩ := h14
      show P g X 5 86 [(0, .ref a0), (1, .int x1), (2, .ref a2), (3, .int x12_3), (4, .int x12_4)] [.int x14_] _ _ (K, len, I12, J12, R)
      refine r_if_ne hC (tgt := 95) dX6_tellHill_86 (by decide) (fun c15 => ?_) (fun c15 => ?_)
      · refine r_aload_n hC dX6_tellHill_95 2 rfl ?_
        obtain ⟨a16_, hb16, hk16⟩ := hs12.obj ka2 0 3 (by decide)
        refine r_getr hC 0 (ci := 1) rfl u1_in (by decide) mT_1_181 dX6_tellHill_96 ka2 rfl rfl hb16 ?_
        refine r_geti hC 0 (ci := 2) rfl u2_in (by decide) mT_1_118 dX6_tellHill_99 hk16 rfl rfl (fun x17_ e17 => ?_)
        refine r_if_eq hC (tgt := 119) dX6_tellHill_102 (by decide) (fun c18 => ?_) (fun c18 => ?_)
        · refine r_aload_n hC dX6_tellHill_119 0 rfl ?_
          refine r_bipush hC (v := (6)) dX6_tellHill_120 (by decide) (by decide) (fun x19_ e19 t19 => ?_)
          refine r_callV hC (As := [.int x19_]) (rest := []) (ci := 6) (c_X6_faulty g (xL X) K len I12 J12 R hs12 a0 ka0 x19_) mT_2_233 mT_1_3 mT_2_230 mT_2_232 mP_5 okX6_faulty ⟨by decide, by decide⟩ rfl (by show kO (K a0) = _; rw [ka0]; rfl) rfl rfl (Nat.le_of_ble_eq_true rfl) ⟨by decide, by decide⟩ dX6_tellHill_122 (aI1 (F := fun st M => P g X 5 125 [(0, .ref a0), (1, .int x1), (2, .ref a2), (3, .int x12_3), (4, .int x12_4)] st _ _ M) (M := (K, len, I12, J12, R)) fun x20_ I20 h20 => ?_)
          obtain ⟨hs20, hf20, k20_0⟩ := h20
          show P g X 5 125 [(0, .ref a0), (1, .int x1), (2, .ref a2), (3, .int x12_3), (4, .int x12_4)] [.int x20_] _ _ (K, len, I20, J12, R)
          have hF20 : Fr K [(2, 1), (2, 4), (2, 6), (2, 8), (2, 12), (3, 0), (3, 1), (3, 2), (3, 3), (3, 4), (3, 5), (5, 0), (5, 1), (5, 2), (5, 3), (7, 3), (7, 4), (7, 5), (7, 6), (8, 1), (8, 2), (8, 3), (8, 4), (55, 999), (56, 999), (57, 999), (58, 999), (59, 999), (60, 999), (61, 999), (62, 999), (63, 999), (64, 999)] I I20 := hF12.trans hf20 rfl rfl
          exact r_iret hC hQ hlk hr (nz_b (by omega) (by omega)) (by decide) (by decide) dX6_tellHill_125 ⟨_, _, _, rfl, rfl, ⟨hs20, hF20, hFJ12, (by omega), (by omega)⟩⟩
        · refine r_aload_n hC dX6_tellHill_105 2 rfl ?_
          refine r_geti hC 1 (ci := 1) rfl u1_in (by decide) mT_1_186 dX6_tellHill_106 ka2 rfl rfl (fun x21_ e21 => ?_)
          have r21 := hs12.rng ka2 rfl e21
          refine r_if_eq hC (tgt := 119) dX6_tellHill_109 (by decide) (fun c22 => ?_) (fun c22 => ?_)
          · refine r_aload_n hC dX6_tellHill_119 0 rfl ?_
            refine r_bipush hC (v := (6)) dX6_tellHill_120 (by decide) (by decide) (fun x23_ e23 t23 => ?_)
            refine r_callV hC (As := [.int x23_]) (rest := []) (ci := 6) (c_X6_faulty g (xL X) K len I12 J12 R hs12 a0 ka0 x23_) mT_2_233 mT_1_3 mT_2_230 mT_2_232 mP_5 okX6_faulty ⟨by decide, by decide⟩ rfl (by show kO (K a0) = _; rw [ka0]; rfl) rfl rfl (Nat.le_of_ble_eq_true rfl) ⟨by decide, by decide⟩ dX6_tellHill_122 (aI1 (F := fun st M => P g X 5 125 [(0, .ref a0), (1, .int x1), (2, .ref a2), (3, .int x12_3), (4, .int x12_4)] st _ _ M) (M := (K, len, I12, J12, R)) fun x24_ I24 h24 => ?_)
            obtain ⟨hs24, hf24, k24_0⟩ := h24
            show P g X 5 125 [(0, .ref a0), (1, .int x1), (2, .ref a2), (3, .int x12_3), (4, .int x12_4)] [.int x24_] _ _ (K, len, I24, J12, R)
            have hF24 : Fr K [(2, 1), (2, 4), (2, 6), (2, 8), (2, 12), (3, 0), (3, 1), (3, 2), (3, 3), (3, 4), (3, 5), (5, 0), (5, 1), (5, 2), (5, 3), (7, 3), (7, 4), (7, 5), (7, 6), (8, 1), (8, 2), (8, 3), (8, 4), (55, 999), (56, 999), (57, 999), (58, 999), (59, 999), (60, 999), (61, 999), (62, 999), (63, 999), (64, 999)] I I24 := hF12.trans hf24 rfl rfl
            exact r_iret hC hQ hlk hr (nz_b (by omega) (by omega)) (by decide) (by decide) dX6_tellHill_125 ⟨_, _, _, rfl, rfl, ⟨hs24, hF24, hFJ12, (by omega), (by omega)⟩⟩
          · refine r_aload_n hC dX6_tellHill_112 2 rfl ?_
            refine r_geti hC 6 (ci := 1) rfl u1_in (by decide) mT_1_201 dX6_tellHill_113 ka2 rfl rfl (fun x25_ e25 => ?_)
            have r25 := hs12.rng ka2 rfl e25
            refine r_if_ne hC (tgt := 126) dX6_tellHill_116 (by decide) (fun c26 => ?_) (fun c26 => ?_)
            · refine r_iconst hC (v := (1)) dX6_tellHill_126 (by decide) (by decide) (fun x27_ e27 t27 => ?_)
              exact r_iret hC hQ hlk hr (by rw [e27]; rfl) (by decide) (by decide) dX6_tellHill_127 ⟨_, _, _, rfl, rfl, ⟨hs12, hF12, hFJ12, (by omega), (by omega)⟩⟩
            · refine r_aload_n hC dX6_tellHill_119 0 rfl ?_
              refine r_bipush hC (v := (6)) dX6_tellHill_120 (by decide) (by decide) (fun x28_ e28 t28 => ?_)
              refine r_callV hC (As := [.int x28_]) (rest := []) (ci := 6) (c_X6_faulty g (xL X) K len I12 J12 R hs12 a0 ka0 x28_) mT_2_233 mT_1_3 mT_2_230 mT_2_232 mP_5 okX6_faulty ⟨by decide, by decide⟩ rfl (by show kO (K a0) = _; rw [ka0]; rfl) rfl rfl (Nat.le_of_ble_eq_true rfl) ⟨by decide, by decide⟩ dX6_tellHill_122 (aI1 (F := fun st M => P g X 5 125 [(0, .ref a0), (1, .int x1), (2, .ref a2), (3, .int x12_3), (4, .int x12_4)] st _ _ M) (M := (K, len, I12, J12, R)) fun x29_ I29 h29 => ?_)
              obtain ⟨hs29, hf29, k29_0⟩ := h29
              show P g X 5 125 [(0, .ref a0), (1, .int x1), (2, .ref a2), (3, .int x12_3), (4, .int x12_4)] [.int x29_] _ _ (K, len, I29, J12, R)
              have hF29 : Fr K [(2, 1), (2, 4), (2, 6), (2, 8), (2, 12), (3, 0), (3, 1), (3, 2), (3, 3), (3, 4), (3, 5), (5, 0), (5, 1), (5, 2), (5, 3), (7, 3), (7, 4), (7, 5), (7, 6), (8, 1), (8, 2), (8, 3), (8, 4), (55, 999), (56, 999), (57, 999), (58, 999), (59, 999), (60, 999), (61, 999), (62, 999), (63, 999), (64, 999)] I I29 := hF12.trans hf29 rfl rfl
              exact r_iret hC hQ hlk hr (nz_b (by omega) (by omega)) (by decide) (by decide) dX6_tellHill_125 ⟨_, _, _, rfl, rfl, ⟨hs29, hF29, hFJ12, (by omega), (by omega)⟩⟩
      · refine r_aload_n hC dX6_tellHill_89 0 rfl ?_
        refine r_iconst hC (v := (1)) dX6_tellHill_90 (by decide) (by decide) (fun x30_ e30 t30 => ?_)
        refine r_callV hC (As := [.int x30_]) (rest := []) (ci := 6) (c_X6_faulty g (xL X) K len I12 J12 R hs12 a0 ka0 x30_) mT_2_233 mT_1_3 mT_2_230 mT_2_232 mP_5 okX6_faulty ⟨by decide, by decide⟩ rfl (by show kO (K a0) = _; rw [ka0]; rfl) rfl rfl (Nat.le_of_ble_eq_true rfl) ⟨by decide, by decide⟩ dX6_tellHill_91 (aI1 (F := fun st M => P g X 5 94 [(0, .ref a0), (1, .int x1), (2, .ref a2), (3, .int x12_3), (4, .int x12_4)] st _ _ M) (M := (K, len, I12, J12, R)) fun x31_ I31 h31 => ?_)
        obtain ⟨hs31, hf31, k31_0⟩ := h31
        show P g X 5 94 [(0, .ref a0), (1, .int x1), (2, .ref a2), (3, .int x12_3), (4, .int x12_4)] [.int x31_] _ _ (K, len, I31, J12, R)
        have hF31 : Fr K [(2, 1), (2, 4), (2, 6), (2, 8), (2, 12), (3, 0), (3, 1), (3, 2), (3, 3), (3, 4), (3, 5), (5, 0), (5, 1), (5, 2), (5, 3), (7, 3), (7, 4), (7, 5), (7, 6), (8, 1), (8, 2), (8, 3), (8, 4), (55, 999), (56, 999), (57, 999), (58, 999), (59, 999), (60, 999), (61, 999), (62, 999), (63, 999), (64, 999)] I I31 := hF12.trans hf31 rfl rfl
        exact r_iret hC hQ hlk hr (nz_b (by omega) (by omega)) (by decide) (by decide) dX6_tellHill_94 ⟨_, _, _, rfl, rfl, ⟨hs31, hF31, hFJ12, (by omega), (by omega)⟩⟩
    · refine r_iload hC dX6_tellHill_36 4 rfl ?_
      refine r_sipush hC (v := (900)) dX6_tellHill_38 (by decide) (by decide) (fun x32_ e32 t32 => ?_)
      refine r_icmp_gt hC (tgt := 79) dX6_tellHill_41 (by decide) (fun c33 => ?_) (fun c33 => ?_)
      · refine r_aload_n hC dX6_tellHill_79 0 rfl ?_
        refine r_getr hC 0 (ci := 6) rfl u6_in (by decide) mT_1_81 dX6_tellHill_80 ka0 rfl rfl hb8 ?_
        refine r_callV hC (As := []) (rest := []) (ci := 7) (c_X7_isEnd g (xL X) K len I12 J12 R hs12 a8_ hk8) mT_3_93 mT_1_4 mT_3_90 mT_3_91 mT_3_92 okX7_isEnd ⟨by decide, by decide⟩ rfl (by show kO (K a8_) = _; rw [hk8]; rfl) rfl rfl (Nat.le_of_ble_eq_true rfl) ⟨by decide, by decide⟩ dX6_tellHill_83 (aI0 (F := fun st M => P g X 5 86 [(0, .ref a0), (1, .int x1), (2, .ref a2), (3, .int x12_3), (4, .int x12_4)] st _ _ M) (M := (K, len, I12, J12, R)) fun x34_ h34 => ?_)
        obtain ⟨k34_0, k34_1⟩ := h34
        show P g X 5 86 [(0, .ref a0), (1, .int x1), (2, .ref a2), (3, .int x12_3), (4, .int x12_4)] [.int x34_] _ _ (K, len, I12, J12, R)
        refine r_if_ne hC (tgt := 95) dX6_tellHill_86 (by decide) (fun c35 => ?_) (fun c35 => ?_)
        · refine r_aload_n hC dX6_tellHill_95 2 rfl ?_
          obtain ⟨a36_, hb36, hk36⟩ := hs12.obj ka2 0 3 (by decide)
          refine r_getr hC 0 (ci := 1) rfl u1_in (by decide) mT_1_181 dX6_tellHill_96 ka2 rfl rfl hb36 ?_
          refine r_geti hC 0 (ci := 2) rfl u2_in (by decide) mT_1_118 dX6_tellHill_99 hk36 rfl rfl (fun x37_ e37 => ?_)
          refine r_if_eq hC (tgt := 119) dX6_tellHill_102 (by decide) (fun c38 => ?_) (fun c38 => ?_)
          · refine r_aload_n hC dX6_tellHill_119 0 rfl ?_
            refine r_bipush hC (v := (6)) dX6_tellHill_120 (by decide) (by decide) (fun x39_ e39 t39 => ?_)
            refine r_callV hC (As := [.int x39_]) (rest := []) (ci := 6) (c_X6_faulty g (xL X) K len I12 J12 R hs12 a0 ka0 x39_) mT_2_233 mT_1_3 mT_2_230 mT_2_232 mP_5 okX6_faulty ⟨by decide, by decide⟩ rfl (by show kO (K a0) = _; rw [ka0]; rfl) rfl rfl (Nat.le_of_ble_eq_true rfl) ⟨by decide, by decide⟩ dX6_tellHill_122 (aI1 (F := fun st M => P g X 5 125 [(0, .ref a0), (1, .int x1), (2, .ref a2), (3, .int x12_3), (4, .int x12_4)] st _ _ M) (M := (K, len, I12, J12, R)) fun x40_ I40 h40 => ?_)
            obtain ⟨hs40, hf40, k40_0⟩ := h40
            show P g X 5 125 [(0, .ref a0), (1, .int x1), (2, .ref a2), (3, .int x12_3), (4, .int x12_4)] [.int x40_] _ _ (K, len, I40, J12, R)
            have hF40 : Fr K [(2, 1), (2, 4), (2, 6), (2, 8), (2, 12), (3, 0), (3, 1), (3, 2), (3, 3), (3, 4), (3, 5), (5, 0), (5, 1), (5, 2), (5, 3), (7, 3), (7, 4), (7, 5), (7, 6), (8, 1), (8, 2), (8, 3), (8, 4), (55, 999), (56, 999), (57, 999), (58, 999), (59, 999), (60, 999), (61, 999), (62, 999), (63, 999), (64, 999)] I I40 := hF12.trans hf40 rfl rfl
            exact r_iret hC hQ hlk hr (nz_b (by omega) (by omega)) (by decide) (by decide) dX6_tellHill_125 ⟨_, _, _, rfl, rfl, ⟨hs40, hF40, hFJ12, (by omega), (by omega)⟩⟩
          · refine r_aload_n hC dX6_tellHill_105 2 rfl ?_
            refine r_geti hC 1 (ci := 1) rfl u1_in (by decide) mT_1_186 dX6_tellHill_106 ka2 rfl rfl (fun x41_ e41 => ?_)
            have r41 := hs12.rng ka2 rfl e41
            refine r_if_eq hC (tgt := 119) dX6_tellHill_109 (by decide) (fun c42 => ?_) (fun c42 => ?_)
            · refine r_aload_n hC dX6_tellHill_119 0 rfl ?_
              refine r_bipush hC (v := (6)) dX6_tellHill_120 (by decide) (by decide) (fun x43_ e43 t43 => ?_)
              refine r_callV hC (As := [.int x43_]) (rest := []) (ci := 6) (c_X6_faulty g (xL X) K len I12 J12 R hs12 a0 ka0 x43_) mT_2_233 mT_1_3 mT_2_230 mT_2_232 mP_5 okX6_faulty ⟨by decide, by decide⟩ rfl (by show kO (K a0) = _; rw [ka0]; rfl) rfl rfl (Nat.le_of_ble_eq_true rfl) ⟨by decide, by decide⟩ dX6_tellHill_122 (aI1 (F := fun st M => P g X 5 125 [(0, .ref a0), (1, .int x1), (2, .ref a2), (3, .int x12_3), (4, .int x12_4)] st _ _ M) (M := (K, len, I12, J12, R)) fun x44_ I44 h44 => ?_)
              obtain ⟨hs44, hf44, k44_0⟩ := h44
              show P g X 5 125 [(0, .ref a0), (1, .int x1), (2, .ref a2), (3, .int x12_3), (4, .int x12_4)] [.int x44_] _ _ (K, len, I44, J12, R)
              have hF44 : Fr K [(2, 1), (2, 4), (2, 6), (2, 8), (2, 12), (3, 0), (3, 1), (3, 2), (3, 3), (3, 4), (3, 5), (5, 0), (5, 1), (5, 2), (5, 3), (7, 3), (7, 4), (7, 5), (7, 6), (8, 1), (8, 2), (8, 3), (8, 4), (55, 999), (56, 999), (57, 999), (58, 999), (59, 999), (60, 999), (61, 999), (62, 999), (63, 999), (64, 999)] I I44 := hF12.trans hf44 rfl rfl
              exact r_iret hC hQ hlk hr (nz_b (by omega) (by omega)) (by decide) (by decide) dX6_tellHill_125 ⟨_, _, _, rfl, rfl, ⟨hs44, hF44, hFJ12, (by omega), (by omega)⟩⟩
            · refine r_aload_n hC dX6_tellHill_112 2 rfl ?_
              refine r_geti hC 6 (ci := 1) rfl u1_in (by decide) mT_1_201 dX6_tellHill_113 ka2 rfl rfl (fun x45_ e45 => ?_)
              have r45 := hs12.rng ka2 rfl e45
              refine r_if_ne hC (tgt := 126) dX6_tellHill_116 (by decide) (fun c46 => ?_) (fun c46 => ?_)
              · refine r_iconst hC (v := (1)) dX6_tellHill_126 (by decide) (by decide) (fun x47_ e47 t47 => ?_)
                exact r_iret hC hQ hlk hr (by rw [e47]; rfl) (by decide) (by decide) dX6_tellHill_127 ⟨_, _, _, rfl, rfl, ⟨hs12, hF12, hFJ12, (by omega), (by omega)⟩⟩
              · refine r_aload_n hC dX6_tellHill_119 0 rfl ?_
                refine r_bipush hC (v := (6)) dX6_tellHill_120 (by decide) (by decide) (fun x48_ e48 t48 => ?_)
                refine r_callV hC (As := [.int x48_]) (rest := []) (ci := 6) (c_X6_faulty g (xL X) K len I12 J12 R hs12 a0 ka0 x48_) mT_2_233 mT_1_3 mT_2_230 mT_2_232 mP_5 okX6_faulty ⟨by decide, by decide⟩ rfl (by show kO (K a0) = _; rw [ka0]; rfl) rfl rfl (Nat.le_of_ble_eq_true rfl) ⟨by decide, by decide⟩ dX6_tellHill_122 (aI1 (F := fun st M => P g X 5 125 [(0, .ref a0), (1, .int x1), (2, .ref a2), (3, .int x12_3), (4, .int x12_4)] st _ _ M) (M := (K, len, I12, J12, R)) fun x49_ I49 h49 => ?_)
                obtain ⟨hs49, hf49, k49_0⟩ := h49
                show P g X 5 125 [(0, .ref a0), (1, .int x1), (2, .ref a2), (3, .int x12_3), (4, .int x12_4)] [.int x49_] _ _ (K, len, I49, J12, R)
                have hF49 : Fr K [(2, 1), (2, 4), (2, 6), (2, 8), (2, 12), (3, 0), (3, 1), (3, 2), (3, 3), (3, 4), (3, 5), (5, 0), (5, 1), (5, 2), (5, 3), (7, 3), (7, 4), (7, 5), (7, 6), (8, 1), (8, 2), (8, 3), (8, 4), (55, 999), (56, 999), (57, 999), (58, 999), (59, 999), (60, 999), (61, 999), (62, 999), (63, 999), (64, 999)] I I49 := hF12.trans hf49 rfl rfl
                exact r_iret hC hQ hlk hr (nz_b (by omega) (by omega)) (by decide) (by decide) dX6_tellHill_125 ⟨_, _, _, rfl, rfl, ⟨hs49, hF49, hFJ12, (by omega), (by omega)⟩⟩
        · refine r_aload_n hC dX6_tellHill_89 0 rfl ?_
          refine r_iconst hC (v := (1)) dX6_tellHill_90 (by decide) (by decide) (fun x50_ e50 t50 => ?_)
          refine r_callV hC (As := [.int x50_]) (rest := []) (ci := 6) (c_X6_faulty g (xL X) K len I12 J12 R hs12 a0 ka0 x50_) mT_2_233 mT_1_3 mT_2_230 mT_2_232 mP_5 okX6_faulty ⟨by decide, by decide⟩ rfl (by show kO (K a0) = _; rw [ka0]; rfl) rfl rfl (Nat.le_of_ble_eq_true rfl) ⟨by decide, by decide⟩ dX6_tellHill_91 (aI1 (F := fun st M => P g X 5 94 [(0, .ref a0), (1, .int x1), (2, .ref a2), (3, .int x12_3), (4, .int x12_4)] st _ _ M) (M := (K, len, I12, J12, R)) fun x51_ I51 h51 => ?_)
          obtain ⟨hs51, hf51, k51_0⟩ := h51
          show P g X 5 94 [(0, .ref a0), (1, .int x1), (2, .ref a2), (3, .int x12_3), (4, .int x12_4)] [.int x51_] _ _ (K, len, I51, J12, R)
          have hF51 : Fr K [(2, 1), (2, 4), (2, 6), (2, 8), (2, 12), (3, 0), (3, 1), (3, 2), (3, 3), (3, 4), (3, 5), (5, 0), (5, 1), (5, 2), (5, 3), (7, 3), (7, 4), (7, 5), (7, 6), (8, 1), (8, 2), (8, 3), (8, 4), (55, 999), (56, 999), (57, 999), (58, 999), (59, 999), (60, 999), (61, 999), (62, 999), (63, 999), (64, 999)] I I51 := hF12.trans hf51 rfl rfl
          exact r_iret hC hQ hlk hr (nz_b (by omega) (by omega)) (by decide) (by decide) dX6_tellHill_94 ⟨_, _, _, rfl, rfl, ⟨hs51, hF51, hFJ12, (by omega), (by omega)⟩⟩
      · refine r_aload_n hC dX6_tellHill_44 0 rfl ?_
        refine r_aload_n hC dX6_tellHill_45 2 rfl ?_
        refine r_callV hC (As := [.ref a2]) (rest := []) (ci := 6) (c_X6_takeLine g (xL X) K len I12 J12 R hs12 a0 ka0 a2 ka2) mT_2_172 mT_1_3 mT_2_169 mT_2_171 mP_3 okX6_takeLine ⟨by decide, by decide⟩ rfl (by show kO (K a0) = _; rw [ka0]; rfl) rfl rfl (Nat.le_of_ble_eq_true rfl) ⟨by decide, by decide⟩ dX6_tellHill_46 (aI2 (F := fun st M => P g X 5 49 [(0, .ref a0), (1, .int x1), (2, .ref a2), (3, .int x12_3), (4, .int x12_4)] st _ _ M) (M := (K, len, I12, J12, R)) fun x52_ I52 J52 h52 => ?_)
        obtain ⟨hs52, hf52, hfj52, k52_0, k52_1⟩ := h52
        show P g X 5 49 [(0, .ref a0), (1, .int x1), (2, .ref a2), (3, .int x12_3), (4, .int x12_4)] [.int x52_] _ _ (K, len, I52, J52, R)
        have hF52 : Fr K [(2, 1), (2, 4), (2, 6), (2, 8), (2, 12), (3, 0), (3, 1), (3, 2), (3, 3), (3, 4), (3, 5), (5, 0), (5, 1), (5, 2), (5, 3), (7, 3), (7, 4), (7, 5), (7, 6), (8, 1), (8, 2), (8, 3), (8, 4), (55, 999), (56, 999), (57, 999), (58, 999), (59, 999), (60, 999), (61, 999), (62, 999), (63, 999), (64, 999)] I I52 := hF12.trans hf52 rfl rfl
        have hFJ52 : Fr K [(8, 5), (42, 999), (48, 999)] J J52 := hFJ12.trans hfj52 rfl rfl
        refine r_if_ne hC (tgt := 54) dX6_tellHill_49 (by decide) (fun c53 => ?_) (fun c53 => ?_)
        · refine r_aload_n hC dX6_tellHill_54 0 rfl ?_
          refine r_getr hC 0 (ci := 6) rfl u6_in (by decide) mT_1_81 dX6_tellHill_55 ka0 rfl rfl hb8 ?_
          refine r_callV hC (As := []) (rest := []) (ci := 7) (c_X7_isSemicolon g (xL X) K len I52 J52 R hs52 a8_ hk8) mT_3_89 mT_1_4 mT_3_86 mT_3_87 mT_3_88 okX7_isSemicolon ⟨by decide, by decide⟩ rfl (by show kO (K a8_) = _; rw [hk8]; rfl) rfl rfl (Nat.le_of_ble_eq_true rfl) ⟨by decide, by decide⟩ dX6_tellHill_58 (aI0 (F := fun st M => P g X 5 61 [(0, .ref a0), (1, .int x1), (2, .ref a2), (3, .int x12_3), (4, .int x12_4)] st _ _ M) (M := (K, len, I52, J52, R)) fun x54_ h54 => ?_)
          obtain ⟨k54_0, k54_1⟩ := h54
          show P g X 5 61 [(0, .ref a0), (1, .int x1), (2, .ref a2), (3, .int x12_3), (4, .int x12_4)] [.int x54_] _ _ (K, len, I52, J52, R)
          refine r_istore_n hC (lv' := [(3, .int x54_), (0, .ref a0), (1, .int x1), (2, .ref a2), (4, .int x12_4)]) dX6_tellHill_61 (by decide) rfl ?_
          refine r_iload_n hC dX6_tellHill_62 0 rfl ?_
          refine r_if_eq hC (tgt := 73) dX6_tellHill_63 (by decide) (fun c55 => ?_) (fun c55 => ?_)
          · obtain ⟨x56_, e56⟩ : ∃ z : Int32, z = x12_4 + Int32.ofInt (1) := ⟨_, rfl⟩
            refine r_iinc hC (j := 4) (v := x56_) (lv' := [(4, .int x56_), (3, .int x54_), (0, .ref a0), (1, .int x1), (2, .ref a2)]) dX6_tellHill_73 rfl (by rw [e56]) (by decide) rfl ?_
            try have t56 : x56_.toInt = x12_4.toInt + (1) := by rw [e56]; exact (ti_add (b := Int32.ofInt (1)) (by show _ ≤ _ + (1 : Int); omega) (by show _ + (1 : Int) ≤ _; omega))
            refine r_goto hC (tgt := 32) dX6_tellHill_76 (by decide) ?_
            refine r_sub [2, 3, 4, 1, 0] rfl ?_
            exact ih12 ((901 - x56_.toInt).toNat) (by omega) x56_ x54_ I52 J52 hs52 hF52 hFJ52 (by omega) (by omega) rfl
          · refine r_aload_n hC dX6_tellHill_66 1 rfl ?_
            refine r_getr hC 0 (ci := 6) rfl u6_in (by decide) mT_1_81 dX6_tellHill_67 ka0 rfl rfl hb8 ?_
            refine r_callV hC (As := []) (rest := []) (ci := 7) (c_X7_next g (xL X) K len I52 J52 R hs52 a8_ hk8) mT_2_159 mT_1_4 mT_2_234 mT_2_157 mT_2_158 okX7_next ⟨by decide, by decide⟩ rfl (by show kO (K a8_) = _; rw [hk8]; rfl) rfl rfl (Nat.le_of_ble_eq_true rfl) ⟨by decide, by decide⟩ dX6_tellHill_70 (aV2 (F := fun st M => P g X 5 73 [(3, .int x54_), (0, .ref a0), (1, .int x1), (2, .ref a2), (4, .int x12_4)] st _ _ M) (M := (K, len, I52, J52, R)) fun I57 J57 h57 => ?_)
            obtain ⟨hs57, hf57, hfj57⟩ := h57
            show P g X 5 73 [(3, .int x54_), (0, .ref a0), (1, .int x1), (2, .ref a2), (4, .int x12_4)] [] _ _ (K, len, I57, J57, R)
            have hF57 : Fr K [(2, 1), (2, 4), (2, 6), (2, 8), (2, 12), (3, 0), (3, 1), (3, 2), (3, 3), (3, 4), (3, 5), (5, 0), (5, 1), (5, 2), (5, 3), (7, 3), (7, 4), (7, 5), (7, 6), (8, 1), (8, 2), (8, 3), (8, 4), (55, 999), (56, 999), (57, 999), (58, 999), (59, 999), (60, 999), (61, 999), (62, 999), (63, 999), (64, 999)] I I57 := hF52.trans hf57 rfl rfl
            have hFJ57 : Fr K [(8, 5), (42, 999), (48, 999)] J J57 := hFJ52.trans hfj57 rfl rfl
            obtain ⟨x58_, e58⟩ : ∃ z : Int32, z = x12_4 + Int32.ofInt (1) := ⟨_, rfl⟩
            refine r_iinc hC (j := 4) (v := x58_) (lv' := [(4, .int x58_), (3, .int x54_), (0, .ref a0), (1, .int x1), (2, .ref a2)]) dX6_tellHill_73 rfl (by rw [e58]) (by decide) rfl ?_
            try have t58 : x58_.toInt = x12_4.toInt + (1) := by rw [e58]; exact (ti_add (b := Int32.ofInt (1)) (by show _ ≤ _ + (1 : Int); omega) (by show _ + (1 : Int) ≤ _; omega))
            refine r_goto hC (tgt := 32) dX6_tellHill_76 (by decide) ?_
            refine r_sub [2, 3, 4, 1, 0] rfl ?_
            exact ih12 ((901 - x58_.toInt).toNat) (by omega) x58_ x54_ I57 J57 hs57 hF57 hFJ57 (by omega) (by omega) rfl
        · refine r_iconst hC (v := (0)) dX6_tellHill_52 (by decide) (by decide) (fun x59_ e59 t59 => ?_)
          exact r_iret hC hQ hlk hr (by rw [e59]; rfl) (by decide) (by decide) dX6_tellHill_53 ⟨_, _, _, rfl, rfl, ⟨hs52, hF52, hFJ52, (by omega), (by omega)⟩⟩
  refine r_sub [2, 3, 4, 1, 0] rfl ?_
  exact LP12 _ x11_ x10_ I9 J9 hs9 hF9 hFJ9 (by omega) (by omega) rfl
