set_option maxHeartbeats 4000000 in
set_option maxRecDepth 100000 in
theorem n_X8_plan (g : GG) (l : Launch) (K len : Nat → Nat) (I : Nat → Nat → Int32) (J : Nat → Nat → Int64) (R : Nat → Nat → Option Nat) (hs : Sf K len I R) (a0 : Nat) (ka0 : K a0 = 9) (x1 : Int32) (x2 : Int32) (h : Nat) (hh : R a0 2 = some h) (kh : K h = 2) (lk : Nat) (hlk2 : R h 0 = some lk) (klk : K lk = 3) (hu : UU K R) (D : DD) (rwd : RW (CC h lk R) (cntN D) D I) (hd4 : (I lk 4).toInt = D 0 4) (hd1 : (I lk 1).toInt = D 0 1) (hd2 : (I lk 2).toInt = D 0 2) (hd3 : (I lk 3).toInt = D 0 3) (lv : Nat) (hlv : R a0 4 = some lv) (klv : K lv = 41) (llv : len lv = 60) (kn : Nat) (hkn : R a0 6 = some kn) (kkn : K kn = 43) (lkn : len kn = 6) (hJ : (I h 6).toInt ≠ 0 → DJ D) : Ct g l yX8_plan cX8_plan 4 (Option.some Jvm.ClassFile.FieldType.int) rmX8_plan [.ref a0, .int x1, .int x2] (K, len, I, J, R) (pI1 (K, len, I, J, R) (fun r I' => Sf K len I' R ∧ Fr K [(3, 4), (3, 5), (9, 12), (41, 999), (43, 999), (63, 999), (64, 999)] I I' ∧ ((((I h 6).toInt ≠ 0 ∧ 0 ≤ x1.toInt ∧ x1.toInt ≤ 59 ∧ 0 ≤ x2.toInt ∧ x2.toInt ≤ 999 ∧ (I lk 4).toInt < 16) ∧ r.toInt = (I lk 4).toInt + 1 ∧ (I' lk 4).toInt = (I lk 4).toInt + 1 ∧ (I' lk 5).toInt = (I lk 5).toInt + 1) ∨ (¬ ((I h 6).toInt ≠ 0 ∧ 0 ≤ x1.toInt ∧ x1.toInt ≤ 59 ∧ 0 ≤ x2.toInt ∧ x2.toInt ≤ 999 ∧ (I lk 4).toInt < 16) ∧ r.toInt = -1 ∧ (I' lk 4).toInt = (I lk 4).toInt ∧ (I' lk 5).toInt = (I lk 5).toInt)) ∧ ((((I h 6).toInt ≠ 0 ∧ 0 ≤ x1.toInt ∧ x1.toInt ≤ 59 ∧ 0 ≤ x2.toInt ∧ x2.toInt ≤ 999 ∧ (I lk 4).toInt < 16) → RW (CC h lk R) (cntN (aFrom D x1.toInt x2.toInt)) (aFrom D x1.toInt x2.toInt) I') ∧ (¬ ((I h 6).toInt ≠ 0 ∧ 0 ≤ x1.toInt ∧ x1.toInt ≤ 59 ∧ 0 ≤ x2.toInt ∧ x2.toInt ≤ 999 ∧ (I lk 4).toInt < 16) → RW (CC h lk R) (cntN D) D I')) ∧ ((((I h 6).toInt ≠ 0 ∧ 0 ≤ x1.toInt ∧ x1.toInt ≤ 59 ∧ 0 ≤ x2.toInt ∧ x2.toInt ≤ 999 ∧ (I lk 4).toInt < 16) → LvR (aFrom D x1.toInt x2.toInt) lv I') ∧ (¬ ((I h 6).toInt ≠ 0 ∧ 0 ≤ x1.toInt ∧ x1.toInt ≤ 59 ∧ 0 ≤ x2.toInt ∧ x2.toInt ≤ 999 ∧ (I lk 4).toInt < 16) → ∀ j, I' lv j = I lv j)) ∧ ((((I h 6).toInt ≠ 0 ∧ 0 ≤ x1.toInt ∧ x1.toInt ≤ 59 ∧ 0 ≤ x2.toInt ∧ x2.toInt ≤ 999 ∧ (I lk 4).toInt < 16) → ∀ j : Nat, j < 6 → (I' kn j).toInt = 0) ∧ (¬ ((I h 6).toInt ≠ 0 ∧ 0 ≤ x1.toInt ∧ x1.toInt ≤ 59 ∧ 0 ≤ x2.toInt ∧ x2.toInt ≤ 999 ∧ (I lk 4).toInt < 16) → ∀ j, I' kn j = I kn j)) ∧ ((I' a0 12).toInt ≠ 4))) := by
  refine Ct_intro (by decide +kernel) (Nat.le_of_ble_eq_true rfl) (fun X hC hL hKK hNm hr hlk hQ => ?_)
  subst hL
  have hC : Cx g X cX8_plan "HillTap" 4 rmX8_plan := hC
  show P g X 4 0 [(0, .ref a0), (1, .int x1), (2, .int x2)] [] 0 0 (K, len, I, J, R)
  have hF : Fr K [(3, 4), (3, 5), (9, 12), (41, 999), (43, 999), (63, 999), (64, 999)] I I := Fr.refl
  have b_x1 := ti_rng x1
  have b_x2 := ti_rng x2
  obtain ⟨S6, eS6⟩ : ∃ z : Int32, z = I h 6 := ⟨_, rfl⟩
  have fS6 : S6.toInt = (I h 6).toInt := by rw [eS6]
  have rS6 := hs.rng kh rfl eS6
  obtain ⟨F4, eF4⟩ : ∃ z : Int32, z = I lk 4 := ⟨_, rfl⟩
  have fF4 : F4.toInt = (I lk 4).toInt := by rw [eF4]
  have rF4 := hs.rng klk rfl eF4
  obtain ⟨P5, eP5⟩ : ∃ z : Int32, z = I lk 5 := ⟨_, rfl⟩
  have fP5 : P5.toInt = (I lk 5).toInt := by rw [eP5]
  have rP5 := hs.rng klk rfl eP5
  have knk0 : ∀ j, I kn j = I kn j := fun _ => rfl
  have hcx := CC_x hs kh klk hu
  refine r_aload_n hC dX8_plan_0 0 rfl ?_
  refine r_callV hC (As := []) (rest := []) (ci := 8) (f_X8_noHill g (xL X) K len I J R hs a0 ka0 h hh kh) mT_3_131 mT_1_1 mT_3_128 mT_3_130 mP_22 okX8_noHill ⟨by decide, by decide⟩ rfl (by show kO (K a0) = _; rw [ka0]; rfl) rfl rfl (Nat.le_of_ble_eq_true rfl) ⟨by decide, by decide⟩ dX8_plan_1 (aI0 (F := fun st M => P g X 4 4 [(0, .ref a0), (1, .int x1), (2, .int x2)] st _ _ M) (M := (K, len, I, J, R)) fun x1_ h1 => ?_)
  have k1_0 := h1
  clear h1
  show P g X 4 4 [(0, .ref a0), (1, .int x1), (2, .int x2)] [.int x1_] _ _ (K, len, I, J, R)
  rcases k1_0 with ⟨hr1, hw1⟩ | ⟨hr1, hw1⟩
  · refine r_if_eq hC (tgt := 13) dX8_plan_4 (by decide) (fun c2 => ?_) (fun c2 => ?_)
    · exfalso; omega
    refine r_aload_n hC dX8_plan_7 0 rfl ?_
    refine r_iconst hC (v := (1)) dX8_plan_8 (by decide) (by decide) (fun x3_ e3 t3 => ?_)
    refine r_callV hC (As := [.int x3_]) (rest := []) (ci := 8) (c_X8_refuse g (xL X) K len I J R hs a0 ka0 x3_) mT_2_133 mT_1_1 mT_2_130 mT_2_132 mP_0 okX8_refuse ⟨by decide, by decide⟩ rfl (by show kO (K a0) = _; rw [ka0]; rfl) rfl rfl (Nat.le_of_ble_eq_true rfl) ⟨by decide, by decide⟩ dX8_plan_9 (aI1 (F := fun st M => P g X 4 12 [(0, .ref a0), (1, .int x1), (2, .int x2)] st _ _ M) (M := (K, len, I, J, R)) fun x4_ I4 h4 => ?_)
    obtain ⟨hs4, hf4, k4_0, k4_1⟩ := h4
    show P g X 4 12 [(0, .ref a0), (1, .int x1), (2, .int x2)] [.int x4_] _ _ (K, len, I4, J, R)
    have hF4 : Fr K [(3, 4), (3, 5), (9, 12), (41, 999), (43, 999), (63, 999), (64, 999)] I I4 := hF.trans hf4 rfl rfl
    have knk4 : ∀ j, I4 kn j = I kn j := fun j => (hf4.get kkn rfl).trans (knk0 j)
    have lvk4 : ∀ j, I4 lv j = I lv j := fun j => (hf4.get klv rfl).trans ((fun _ => rfl) j)
    have rw4 := rwd.mv hcx qC_big hf4 rfl
    have hv4 : I4 lk 4 = F4 := (Eq.trans (hf4.get klk rfl) eF4.symm)
    have hv4t : (I4 lk 4).toInt = F4.toInt := congrArg Int32.toInt hv4
    have hv5 : I4 lk 5 = P5 := (Eq.trans (hf4.get klk rfl) eP5.symm)
    have hv5t : (I4 lk 5).toInt = P5.toInt := congrArg Int32.toInt hv5
    exact r_iret hC hQ hlk hr rfl (by decide) (by decide) dX8_plan_12 ⟨_, _, rfl, rfl, ⟨hs4, hF4, (by first | exact Or.inr ⟨by omega, by omega, by omega, by omega⟩ | exact Or.inl ⟨by omega, by have h9 := congrArg Int32.toInt k4_0; omega, by omega, by omega⟩), (by first | exact ⟨fun h9 => by exfalso; omega, fun _ => rw4⟩ | exact ⟨fun _ => rw4.frm (by omega), fun h9 => by exfalso; omega⟩), (by first | exact ⟨fun h9 => by exfalso; omega, fun _ => lvk4⟩ | exact ⟨fun _ => NOlvr, fun h9 => by exfalso; omega⟩), (by first | exact ⟨fun h9 => by exfalso; omega, fun _ => knk4⟩ | exact ⟨fun _ => NOknz, fun h9 => by exfalso; omega⟩), (by omega)⟩⟩
  · refine r_if_eq hC (tgt := 13) dX8_plan_4 (by decide) (fun c5 => ?_) (fun c5 => ?_)
    rotate_left
    · exfalso; omega
    refine r_iload_n hC dX8_plan_13 1 rfl ?_
    refine r_callS hC (As := [.int x1]) (rest := []) (f_X8_isDay g (xL X) K len I J R hs x1) mT_3_134 mT_1_1 mT_3_132 mT_3_133 okX8_isDay ⟨by decide, by decide⟩ rfl rfl (Nat.le_of_ble_eq_true rfl) ⟨by decide, by decide⟩ dX8_plan_14 (aI0 (F := fun st M => P g X 4 17 [(0, .ref a0), (1, .int x1), (2, .int x2)] st _ _ M) (M := (K, len, I, J, R)) fun x6_ h6 => ?_)
    have k6_0 := h6
    clear h6
    show P g X 4 17 [(0, .ref a0), (1, .int x1), (2, .int x2)] [.int x6_] _ _ (K, len, I, J, R)
    rcases k6_0 with ⟨hr6, hw6⟩ | ⟨hr6, hw6⟩
    · refine r_if_eq hC (tgt := 31) dX8_plan_17 (by decide) (fun c7 => ?_) (fun c7 => ?_)
      · exfalso; omega
      refine r_iload_n hC dX8_plan_20 2 rfl ?_
      refine r_if_lt hC (tgt := 31) dX8_plan_21 (by decide) (fun c8 => ?_) (fun c8 => ?_)
      · refine r_aload_n hC dX8_plan_31 0 rfl ?_
        refine r_iconst hC (v := (2)) dX8_plan_32 (by decide) (by decide) (fun x9_ e9 t9 => ?_)
        refine r_callV hC (As := [.int x9_]) (rest := []) (ci := 8) (c_X8_refuse g (xL X) K len I J R hs a0 ka0 x9_) mT_2_133 mT_1_1 mT_2_130 mT_2_132 mP_0 okX8_refuse ⟨by decide, by decide⟩ rfl (by show kO (K a0) = _; rw [ka0]; rfl) rfl rfl (Nat.le_of_ble_eq_true rfl) ⟨by decide, by decide⟩ dX8_plan_33 (aI1 (F := fun st M => P g X 4 36 [(0, .ref a0), (1, .int x1), (2, .int x2)] st _ _ M) (M := (K, len, I, J, R)) fun x10_ I10 h10 => ?_)
        obtain ⟨hs10, hf10, k10_0, k10_1⟩ := h10
        show P g X 4 36 [(0, .ref a0), (1, .int x1), (2, .int x2)] [.int x10_] _ _ (K, len, I10, J, R)
        have hF10 : Fr K [(3, 4), (3, 5), (9, 12), (41, 999), (43, 999), (63, 999), (64, 999)] I I10 := hF.trans hf10 rfl rfl
        have knk10 : ∀ j, I10 kn j = I kn j := fun j => (hf10.get kkn rfl).trans (knk0 j)
        have lvk10 : ∀ j, I10 lv j = I lv j := fun j => (hf10.get klv rfl).trans ((fun _ => rfl) j)
        have rw10 := rwd.mv hcx qC_big hf10 rfl
        have hv4 : I10 lk 4 = F4 := (Eq.trans (hf10.get klk rfl) eF4.symm)
        have hv4t : (I10 lk 4).toInt = F4.toInt := congrArg Int32.toInt hv4
        have hv5 : I10 lk 5 = P5 := (Eq.trans (hf10.get klk rfl) eP5.symm)
        have hv5t : (I10 lk 5).toInt = P5.toInt := congrArg Int32.toInt hv5
        exact r_iret hC hQ hlk hr rfl (by decide) (by decide) dX8_plan_36 ⟨_, _, rfl, rfl, ⟨hs10, hF10, (by first | exact Or.inr ⟨by omega, by omega, by omega, by omega⟩ | exact Or.inl ⟨by omega, by have h9 := congrArg Int32.toInt k10_0; omega, by omega, by omega⟩), (by first | exact ⟨fun h9 => by exfalso; omega, fun _ => rw10⟩ | exact ⟨fun _ => rw10.frm (by omega), fun h9 => by exfalso; omega⟩), (by first | exact ⟨fun h9 => by exfalso; omega, fun _ => lvk10⟩ | exact ⟨fun _ => NOlvr, fun h9 => by exfalso; omega⟩), (by first | exact ⟨fun h9 => by exfalso; omega, fun _ => knk10⟩ | exact ⟨fun _ => NOknz, fun h9 => by exfalso; omega⟩), (by omega)⟩⟩
      · refine r_iload_n hC dX8_plan_24 2 rfl ?_
        refine r_sipush hC (v := (999)) dX8_plan_25 (by decide) (by decide) (fun x11_ e11 t11 => ?_)
        refine r_icmp_le hC (tgt := 37) dX8_plan_28 (by decide) (fun c12 => ?_) (fun c12 => ?_)
        · refine r_aload_n hC dX8_plan_37 0 rfl ?_
          refine r_getr hC 2 (ci := 8) rfl u8_in (by decide) mT_2_80 dX8_plan_38 ka0 rfl rfl hh ?_
          refine r_getr hC 0 (ci := 1) rfl u1_in (by decide) mT_1_182 dX8_plan_41 kh rfl rfl hlk2 ?_
          refine r_astore_n hC (lv' := [(3, .ref lk), (0, .ref a0), (1, .int x1), (2, .int x2)]) dX8_plan_44 (by decide) rfl ?_
          refine r_aload_n hC dX8_plan_45 0 rfl ?_
          refine r_geti hC 4 (ci := 2) rfl u2_in (by decide) mT_1_130 dX8_plan_46 klk rfl rfl (fun x13_ e13 => ?_)
          have r13 := hs.rng klk rfl e13
          have f13 : x13_.toInt = (I lk 4).toInt := by rw [e13]
          have w13 : x13_ = F4 := by rw [e13]; exact eF4.symm
          have wt13 : x13_.toInt = F4.toInt := by rw [w13]
          refine r_bipush hC (v := (16)) dX8_plan_49 (by decide) (by decide) (fun x14_ e14 t14 => ?_)
          refine r_icmp_lt hC (tgt := 60) dX8_plan_51 (by decide) (fun c15 => ?_) (fun c15 => ?_)
          · refine r_aload_n hC dX8_plan_60 0 rfl ?_
            refine r_iload_n hC dX8_plan_61 2 rfl ?_
            refine r_iload_n hC dX8_plan_62 3 rfl ?_
            have hpl := hs.plan klk
            refine r_callV hC (As := [.int x1, .int x2]) (rest := []) (ci := 2) (f_X2_addFrom g (xL X) K len I J R hs lk klk x1 x2 h kh hu D (cntN D) rwd (D 0 4).toNat (by omega) (show D 0 4 = _ by omega) (show D 0 4 = _ by omega) x1.toInt rfl x2.toInt rfl (by omega)) mT_3_45 mT_1_6 mT_3_139 mT_3_43 mT_3_44 okX2_addFrom ⟨by decide, by decide⟩ rfl (by show kO (K lk) = _; rw [klk]; rfl) rfl rfl (Nat.le_of_ble_eq_true rfl) ⟨by decide, by decide⟩ dX8_plan_63 (aV1 (F := fun st M => P g X 4 66 [(3, .ref lk), (0, .ref a0), (1, .int x1), (2, .int x2)] st _ _ M) (M := (K, len, I, J, R)) fun I16 h16 => ?_)
            obtain ⟨hs16, hf16, k16_0, k16_1, k16_2, k16_3, k16_4⟩ := h16
            show P g X 4 66 [(3, .ref lk), (0, .ref a0), (1, .int x1), (2, .int x2)] [] _ _ (K, len, I16, J, R)
            have hF16 : Fr K [(3, 4), (3, 5), (9, 12), (41, 999), (43, 999), (63, 999), (64, 999)] I I16 := hF.trans hf16 rfl rfl
            have knk16 : ∀ j, I16 kn j = I kn j := fun j => (hf16.get kkn rfl).trans (knk0 j)
            have lvk16 : ∀ j, I16 lv j = I lv j := fun j => (hf16.get klv rfl).trans ((fun _ => rfl) j)
            obtain ⟨F9, eF9⟩ : ∃ z : Int32, z = I16 lk 4 := ⟨_, rfl⟩
            have fF9 : F9.toInt = (I16 lk 4).toInt := by rw [eF9]
            have rF9 := hs16.rng klk rfl eF9
            refine r_aload_n hC dX8_plan_66 0 rfl ?_
            refine r_dup hC dX8_plan_67 rfl ?_
            refine r_geti hC 5 (ci := 2) rfl u2_in (by decide) mT_1_132 dX8_plan_68 klk rfl rfl (fun x17_ e17 => ?_)
            have r17 := hs16.rng klk rfl e17
            have f17 : x17_.toInt = (I16 lk 5).toInt := by rw [e17]
            have w17 : x17_ = P5 := by rw [e17]; exact (Eq.trans (hf16.get klk rfl) eP5.symm)
            have wt17 : x17_.toInt = P5.toInt := by rw [w17]
            refine r_iconst hC (v := (1)) dX8_plan_71 (by decide) (by decide) (fun x18_ e18 t18 => ?_)
            refine r_iadd hC dX8_plan_72 (fun x19_ e19 => ?_)
            try have t19 : x19_.toInt = x17_.toInt + x18_.toInt := by rw [e19]; exact ti_add (by omega) (by omega)
            refine r_puti hC 5 (ci := 2) rfl u2_in tyX2_ok nmX2 (by decide) mT_1_132 rfl rfl rfl dX8_plan_73 klk rfl rfl (fun I20 eI20 => ?_)
            have hs20 : Sf K len I20 R := hs16.put35 eI20 klk (by omega) (by omega) (by omega)
            have hF20 := hF16.put eI20 klk rfl
            have rw20 := k16_3.putO hcx eI20 klk rfl
            have knk20 : ∀ j, I20 kn j = I kn j := fun j => (up2_kk eI20 klk kkn (by decide)).trans (knk16 j)
            have lvk20 : ∀ j, I20 lv j = I lv j := fun j => (up2_kk eI20 klk klv (by decide)).trans (lvk16 j)
            refine r_aload_n hC dX8_plan_76 1 rfl ?_
            have h4x : I20 lk 4 = F9 := (Eq.trans (up2_at (Or.inr (by decide)) eI20) eF9.symm)
            have h4xt : (I20 lk 4).toInt = F9.toInt := congrArg Int32.toInt h4x
            refine r_callV hC (As := []) (rest := []) (ci := 8) (f_X8_planAnew g (xL X) K len I20 J R hs20 a0 ka0 h hh kh lk hlk2 klk hu (aFrom D x1.toInt x2.toInt) (dj_aFrom (hJ (by omega)) ⟨by omega, by omega⟩ ⟨by omega, by omega⟩) (rw20.frm (by omega)) (by rw [hF20.get klk rfl, aFrom_0 1 (by decide)]; exact hd1) (by rw [hF20.get klk rfl, aFrom_0 2 (by decide)]; exact hd2) (by rw [hF20.get klk rfl, aFrom_0 3 (by decide)]; exact hd3) (by rw [aFrom_4]; omega) lv hlv klv llv kn hkn kkn lkn) mT_3_97 mT_1_1 mT_3_94 mT_3_96 mP_18 okX8_planAnew ⟨by decide, by decide⟩ rfl (by show kO (K a0) = _; rw [ka0]; rfl) rfl rfl (Nat.le_of_ble_eq_true rfl) ⟨by decide, by decide⟩ dX8_plan_77 (aV1 (F := fun st M => P g X 4 80 [(3, .ref lk), (0, .ref a0), (1, .int x1), (2, .int x2)] st _ _ M) (M := (K, len, I20, J, R)) fun I21 h21 => ?_)
            obtain ⟨hs21, hf21, k21_0, k21_1⟩ := h21
            show P g X 4 80 [(3, .ref lk), (0, .ref a0), (1, .int x1), (2, .int x2)] [] _ _ (K, len, I21, J, R)
            have hF21 : Fr K [(3, 4), (3, 5), (9, 12), (41, 999), (43, 999), (63, 999), (64, 999)] I I21 := hF20.trans hf21 rfl rfl
            have rw21 := rw20.mv hcx qC_big hf21 rfl
            refine r_aload_n hC dX8_plan_80 1 rfl ?_
            refine r_aload_n hC dX8_plan_81 0 rfl ?_
            refine r_geti hC 4 (ci := 2) rfl u2_in (by decide) mT_1_130 dX8_plan_82 klk rfl rfl (fun x22_ e22 => ?_)
            have r22 := hs21.rng klk rfl e22
            have f22 : x22_.toInt = (I21 lk 4).toInt := by rw [e22]
            have w22 : x22_ = F9 := by rw [e22]; exact (Eq.trans (hf21.get klk rfl) (Eq.trans (up2_at (Or.inr (by decide)) eI20) eF9.symm))
            have wt22 : x22_.toInt = F9.toInt := by rw [w22]
            refine r_callV hC (As := [.int x22_]) (rest := []) (ci := 8) (c_X8_answer g (xL X) K len I21 J R hs21 a0 ka0 x22_) mT_3_115 mT_1_1 mT_3_112 mT_3_114 mP_21 okX8_answer ⟨by decide, by decide⟩ rfl (by show kO (K a0) = _; rw [ka0]; rfl) rfl rfl (Nat.le_of_ble_eq_true rfl) ⟨by decide, by decide⟩ dX8_plan_85 (aI1 (F := fun st M => P g X 4 88 [(3, .ref lk), (0, .ref a0), (1, .int x1), (2, .int x2)] st _ _ M) (M := (K, len, I21, J, R)) fun x23_ I23 h23 => ?_)
            obtain ⟨hs23, hf23, k23_0, k23_1⟩ := h23
            show P g X 4 88 [(3, .ref lk), (0, .ref a0), (1, .int x1), (2, .int x2)] [.int x23_] _ _ (K, len, I23, J, R)
            have hF23 : Fr K [(3, 4), (3, 5), (9, 12), (41, 999), (43, 999), (63, 999), (64, 999)] I I23 := hF21.trans hf23 rfl rfl
            have knz23 : ∀ j : Nat, j < 6 → (I23 kn j).toInt = 0 := fun j hj => by rw [hf23.get kkn rfl]; exact k21_1 j hj
            have lvr23 := k21_0.mv hf23 klv (fun _ => rfl)
            have rw23 := rw21.mv hcx qC_big hf23 rfl
            have hv4 : I23 lk 4 = x22_ := (Eq.trans (hf23.get klk rfl) e22.symm)
            have hv4t : (I23 lk 4).toInt = x22_.toInt := congrArg Int32.toInt hv4
            have hv5 : I23 lk 5 = x19_ := (Eq.trans (hf23.get klk rfl) (Eq.trans (hf21.get klk rfl) (by rw [eI20]; exact up2_self _ _ _ _)))
            have hv5t : (I23 lk 5).toInt = x19_.toInt := congrArg Int32.toInt hv5
            exact r_iret hC hQ hlk hr rfl (by decide) (by decide) dX8_plan_88 ⟨_, _, rfl, rfl, ⟨hs23, hF23, (by first | exact Or.inr ⟨by omega, by omega, by omega, by omega⟩ | exact Or.inl ⟨by omega, by have h9 := congrArg Int32.toInt k23_0; omega, by omega, by omega⟩), (by first | exact ⟨fun h9 => by exfalso; omega, fun _ => rw23⟩ | exact ⟨fun _ => rw23.frm (by omega), fun h9 => by exfalso; omega⟩), (by first | exact ⟨fun h9 => by exfalso; omega, fun _ => NOlvk⟩ | exact ⟨fun _ => lvr23, fun h9 => by exfalso; omega⟩), (by first | exact ⟨fun h9 => by exfalso; omega, fun _ => NOknk⟩ | exact ⟨fun _ => knz23, fun h9 => by exfalso; omega⟩), (by omega)⟩⟩
          · refine r_aload_n hC dX8_plan_54 1 rfl ?_
            refine r_iconst hC (v := (3)) dX8_plan_55 (by decide) (by decide) (fun x24_ e24 t24 => ?_)
            refine r_callV hC (As := [.int x24_]) (rest := []) (ci := 8) (c_X8_refuse g (xL X) K len I J R hs a0 ka0 x24_) mT_2_133 mT_1_1 mT_2_130 mT_2_132 mP_0 okX8_refuse ⟨by decide, by decide⟩ rfl (by show kO (K a0) = _; rw [ka0]; rfl) rfl rfl (Nat.le_of_ble_eq_true rfl) ⟨by decide, by decide⟩ dX8_plan_56 (aI1 (F := fun st M => P g X 4 59 [(3, .ref lk), (0, .ref a0), (1, .int x1), (2, .int x2)] st _ _ M) (M := (K, len, I, J, R)) fun x25_ I25 h25 => ?_)
            obtain ⟨hs25, hf25, k25_0, k25_1⟩ := h25
            show P g X 4 59 [(3, .ref lk), (0, .ref a0), (1, .int x1), (2, .int x2)] [.int x25_] _ _ (K, len, I25, J, R)
            have hF25 : Fr K [(3, 4), (3, 5), (9, 12), (41, 999), (43, 999), (63, 999), (64, 999)] I I25 := hF.trans hf25 rfl rfl
            have knk25 : ∀ j, I25 kn j = I kn j := fun j => (hf25.get kkn rfl).trans (knk0 j)
            have lvk25 : ∀ j, I25 lv j = I lv j := fun j => (hf25.get klv rfl).trans ((fun _ => rfl) j)
            have rw25 := rwd.mv hcx qC_big hf25 rfl
            have hv4 : I25 lk 4 = x13_ := (Eq.trans (hf25.get klk rfl) e13.symm)
            have hv4t : (I25 lk 4).toInt = x13_.toInt := congrArg Int32.toInt hv4
            have hv5 : I25 lk 5 = P5 := (Eq.trans (hf25.get klk rfl) eP5.symm)
            have hv5t : (I25 lk 5).toInt = P5.toInt := congrArg Int32.toInt hv5
            exact r_iret hC hQ hlk hr rfl (by decide) (by decide) dX8_plan_59 ⟨_, _, rfl, rfl, ⟨hs25, hF25, (by first | exact Or.inr ⟨by omega, by omega, by omega, by omega⟩ | exact Or.inl ⟨by omega, by have h9 := congrArg Int32.toInt k25_0; omega, by omega, by omega⟩), (by first | exact ⟨fun h9 => by exfalso; omega, fun _ => rw25⟩ | exact ⟨fun _ => rw25.frm (by omega), fun h9 => by exfalso; omega⟩), (by first | exact ⟨fun h9 => by exfalso; omega, fun _ => lvk25⟩ | exact ⟨fun _ => NOlvr, fun h9 => by exfalso; omega⟩), (by first | exact ⟨fun h9 => by exfalso; omega, fun _ => knk25⟩ | exact ⟨fun _ => NOknz, fun h9 => by exfalso; omega⟩), (by omega)⟩⟩
        · refine r_aload_n hC dX8_plan_31 0 rfl ?_
          refine r_iconst hC (v := (2)) dX8_plan_32 (by decide) (by decide) (fun x26_ e26 t26 => ?_)
          refine r_callV hC (As := [.int x26_]) (rest := []) (ci := 8) (c_X8_refuse g (xL X) K len I J R hs a0 ka0 x26_) mT_2_133 mT_1_1 mT_2_130 mT_2_132 mP_0 okX8_refuse ⟨by decide, by decide⟩ rfl (by show kO (K a0) = _; rw [ka0]; rfl) rfl rfl (Nat.le_of_ble_eq_true rfl) ⟨by decide, by decide⟩ dX8_plan_33 (aI1 (F := fun st M => P g X 4 36 [(0, .ref a0), (1, .int x1), (2, .int x2)] st _ _ M) (M := (K, len, I, J, R)) fun x27_ I27 h27 => ?_)
          obtain ⟨hs27, hf27, k27_0, k27_1⟩ := h27
          show P g X 4 36 [(0, .ref a0), (1, .int x1), (2, .int x2)] [.int x27_] _ _ (K, len, I27, J, R)
          have hF27 : Fr K [(3, 4), (3, 5), (9, 12), (41, 999), (43, 999), (63, 999), (64, 999)] I I27 := hF.trans hf27 rfl rfl
          have knk27 : ∀ j, I27 kn j = I kn j := fun j => (hf27.get kkn rfl).trans (knk0 j)
          have lvk27 : ∀ j, I27 lv j = I lv j := fun j => (hf27.get klv rfl).trans ((fun _ => rfl) j)
          have rw27 := rwd.mv hcx qC_big hf27 rfl
          have hv4 : I27 lk 4 = F4 := (Eq.trans (hf27.get klk rfl) eF4.symm)
          have hv4t : (I27 lk 4).toInt = F4.toInt := congrArg Int32.toInt hv4
          have hv5 : I27 lk 5 = P5 := (Eq.trans (hf27.get klk rfl) eP5.symm)
          have hv5t : (I27 lk 5).toInt = P5.toInt := congrArg Int32.toInt hv5
          exact r_iret hC hQ hlk hr rfl (by decide) (by decide) dX8_plan_36 ⟨_, _, rfl, rfl, ⟨hs27, hF27, (by first | exact Or.inr ⟨by omega, by omega, by omega, by omega⟩ | exact Or.inl ⟨by omega, by have h9 := congrArg Int32.toInt k27_0; omega, by omega, by omega⟩), (by first | exact ⟨fun h9 => by exfalso; omega, fun _ => rw27⟩ | exact ⟨fun _ => rw27.frm (by omega), fun h9 => by exfalso; omega⟩), (by first | exact ⟨fun h9 => by exfalso; omega, fun _ => lvk27⟩ | exact ⟨fun _ => NOlvr, fun h9 => by exfalso; omega⟩), (by first | exact ⟨fun h9 => by exfalso; omega, fun _ => knk27⟩ | exact ⟨fun _ => NOknz, fun h9 => by exfalso; omega⟩), (by omega)⟩⟩
    · refine r_if_eq hC (tgt := 31) dX8_plan_17 (by decide) (fun c28 => ?_) (fun c28 => ?_)
      rotate_left
      · exfalso; omega
      refine r_aload_n hC dX8_plan_31 0 rfl ?_
      refine r_iconst hC (v := (2)) dX8_plan_32 (by decide) (by decide) (fun x29_ e29 t29 => ?_)
      refine r_callV hC (As := [.int x29_]) (rest := []) (ci := 8) (c_X8_refuse g (xL X) K len I J R hs a0 ka0 x29_) mT_2_133 mT_1_1 mT_2_130 mT_2_132 mP_0 okX8_refuse ⟨by decide, by decide⟩ rfl (by show kO (K a0) = _; rw [ka0]; rfl) rfl rfl (Nat.le_of_ble_eq_true rfl) ⟨by decide, by decide⟩ dX8_plan_33 (aI1 (F := fun st M => P g X 4 36 [(0, .ref a0), (1, .int x1), (2, .int x2)] st _ _ M) (M := (K, len, I, J, R)) fun x30_ I30 h30 => ?_)
      obtain ⟨hs30, hf30, k30_0, k30_1⟩ := h30
      show P g X 4 36 [(0, .ref a0), (1, .int x1), (2, .int x2)] [.int x30_] _ _ (K, len, I30, J, R)
      have hF30 : Fr K [(3, 4), (3, 5), (9, 12), (41, 999), (43, 999), (63, 999), (64, 999)] I I30 := hF.trans hf30 rfl rfl
      have knk30 : ∀ j, I30 kn j = I kn j := fun j => (hf30.get kkn rfl).trans (knk0 j)
      have lvk30 : ∀ j, I30 lv j = I lv j := fun j => (hf30.get klv rfl).trans ((fun _ => rfl) j)
      have rw30 := rwd.mv hcx qC_big hf30 rfl
      have hv4 : I30 lk 4 = F4 := (Eq.trans (hf30.get klk rfl) eF4.symm)
      have hv4t : (I30 lk 4).toInt = F4.toInt := congrArg Int32.toInt hv4
      have hv5 : I30 lk 5 = P5 := (Eq.trans (hf30.get klk rfl) eP5.symm)
      have hv5t : (I30 lk 5).toInt = P5.toInt := congrArg Int32.toInt hv5
      exact r_iret hC hQ hlk hr rfl (by decide) (by decide) dX8_plan_36 ⟨_, _, rfl, rfl, ⟨hs30, hF30, (by first | exact Or.inr ⟨by omega, by omega, by omega, by omega⟩ | exact Or.inl ⟨by omega, by have h9 := congrArg Int32.toInt k30_0; omega, by omega, by omega⟩), (by first | exact ⟨fun h9 => by exfalso; omega, fun _ => rw30⟩ | exact ⟨fun _ => rw30.frm (by omega), fun h9 => by exfalso; omega⟩), (by first | exact ⟨fun h9 => by exfalso; omega, fun _ => lvk30⟩ | exact ⟨fun _ => NOlvr, fun h9 => by exfalso; omega⟩), (by first | exact ⟨fun h9 => by exfalso; omega, fun _ => knk30⟩ | exact ⟨fun _ => NOknz, fun h9 => by exfalso; omega⟩), (by omega)⟩⟩
set_option maxHeartbeats 4000000 in
set_option maxRecDepth 100000 in
theorem n_X8_undo (g : GG) (l : Launch) (K len : Nat → Nat) (I : Nat → Nat → Int32) (J : Nat → Nat → Int64) (R : Nat → Nat → Option Nat) (hs : Sf K len I R) (a0 : Nat) (ka0 : K a0 = 9) (h : Nat) (hh : R a0 2 = some h) (kh : K h = 2) (lk : Nat) (hlk2 : R h 0 = some lk) (klk : K lk = 3) (hu : UU K R) (D : DD) (rwd : RW (CC h lk R) (cntN D) D I) (hd4 : (I lk 4).toInt = D 0 4) (hd1 : (I lk 1).toInt = D 0 1) (hd2 : (I lk 2).toInt = D 0 2) (hd3 : (I lk 3).toInt = D 0 3) (lv : Nat) (hlv : R a0 4 = some lv) (klv : K lv = 41) (llv : len lv = 60) (kn : Nat) (hkn : R a0 6 = some kn) (kkn : K kn = 43) (lkn : len kn = 6) (hJ : 0 < (I lk 5).toInt → DJ D) : Ct g l yX8_undo cX8_undo 2 (Option.some Jvm.ClassFile.FieldType.boolean) rmX8_undo [.ref a0] (K, len, I, J, R) (pI1 (K, len, I, J, R) (fun r I' => Sf K len I' R ∧ Fr K [(3, 4), (3, 5), (9, 12), (41, 999), (43, 999)] I I' ∧ ((0 < (I lk 5).toInt ∧ r.toInt = 1 ∧ (I' lk 4).toInt = (I lk 4).toInt - 1 ∧ (I' lk 5).toInt = (I lk 5).toInt - 1) ∨ ((I lk 5).toInt ≤ 0 ∧ r.toInt = 0 ∧ (I' lk 4).toInt = (I lk 4).toInt ∧ (I' lk 5).toInt = (I lk 5).toInt)) ∧ (((0 < (I lk 5).toInt) → RW (CC h lk R) (cntN (upD D 0 4 (D 0 4 - 1))) (upD D 0 4 (D 0 4 - 1)) I') ∧ (¬ (0 < (I lk 5).toInt) → RW (CC h lk R) (cntN D) D I')) ∧ (((0 < (I lk 5).toInt) → LvR (upD D 0 4 (D 0 4 - 1)) lv I') ∧ (¬ (0 < (I lk 5).toInt) → ∀ j, I' lv j = I lv j)) ∧ (((0 < (I lk 5).toInt) → ∀ j : Nat, j < 6 → (I' kn j).toInt = 0) ∧ (¬ (0 < (I lk 5).toInt) → ∀ j, I' kn j = I kn j)) ∧ ((I' a0 12).toInt ≠ 4))) := by
  refine Ct_intro (by decide +kernel) (Nat.le_of_ble_eq_true rfl) (fun X hC hL hKK hNm hr hlk hQ => ?_)
  subst hL
  have hC : Cx g X cX8_undo "HillTap" 2 rmX8_undo := hC
  show P g X 2 0 [(0, .ref a0)] [] 0 0 (K, len, I, J, R)
  have hF : Fr K [(3, 4), (3, 5), (9, 12), (41, 999), (43, 999)] I I := Fr.refl
  obtain ⟨F4, eF4⟩ : ∃ z : Int32, z = I lk 4 := ⟨_, rfl⟩
  have fF4 : F4.toInt = (I lk 4).toInt := by rw [eF4]
  have rF4 := hs.rng klk rfl eF4
  obtain ⟨P5, eP5⟩ : ∃ z : Int32, z = I lk 5 := ⟨_, rfl⟩
  have fP5 : P5.toInt = (I lk 5).toInt := by rw [eP5]
  have rP5 := hs.rng klk rfl eP5
  have knk0 : ∀ j, I kn j = I kn j := fun _ => rfl
  have hcx := CC_x hs kh klk hu
  refine r_aload_n hC dX8_undo_0 0 rfl ?_
  refine r_getr hC 2 (ci := 8) rfl u8_in (by decide) mT_2_80 dX8_undo_1 ka0 rfl rfl hh ?_
  refine r_getr hC 0 (ci := 1) rfl u1_in (by decide) mT_1_182 dX8_undo_4 kh rfl rfl hlk2 ?_
  refine r_astore_n hC (lv' := [(1, .ref lk), (0, .ref a0)]) dX8_undo_7 (by decide) rfl ?_
  refine r_aload_n hC dX8_undo_8 0 rfl ?_
  refine r_geti hC 5 (ci := 2) rfl u2_in (by decide) mT_1_132 dX8_undo_9 klk rfl rfl (fun x1_ e1 => ?_)
  have r1 := hs.rng klk rfl e1
  have f1 : x1_.toInt = (I lk 5).toInt := by rw [e1]
  have w1 : x1_ = P5 := by rw [e1]; exact eP5.symm
  have wt1 : x1_.toInt = P5.toInt := by rw [w1]
  refine r_if_gt hC (tgt := 23) dX8_undo_12 (by decide) (fun c2 => ?_) (fun c2 => ?_)
  · refine r_aload_n hC dX8_undo_23 0 rfl ?_
    refine r_dup hC dX8_undo_24 rfl ?_
    refine r_geti hC 5 (ci := 2) rfl u2_in (by decide) mT_1_132 dX8_undo_25 klk rfl rfl (fun x3_ e3 => ?_)
    have r3 := hs.rng klk rfl e3
    have f3 : x3_.toInt = (I lk 5).toInt := by rw [e3]
    have w3 : x3_ = x1_ := by rw [e3]; exact e1.symm
    have wt3 : x3_.toInt = x1_.toInt := by rw [w3]
    refine r_iconst hC (v := (1)) dX8_undo_28 (by decide) (by decide) (fun x4_ e4 t4 => ?_)
    refine r_isub hC dX8_undo_29 (fun x5_ e5 => ?_)
    try have t5 : x5_.toInt = x3_.toInt - x4_.toInt := by rw [e5]; exact ti_sub (by omega) (by omega)
    have hpl := hs.plan klk
    obtain ⟨F0, eF0⟩ : ∃ z : Int32, z = I lk 4 := ⟨_, rfl⟩
    have fF0 : F0.toInt = (I lk 4).toInt := by rw [eF0]
    have rF0 := hs.rng klk rfl eF0
    refine r_puti hC 5 (ci := 2) rfl u2_in tyX2_ok nmX2 (by decide) mT_1_132 rfl rfl rfl dX8_undo_30 klk rfl rfl (fun I6 eI6 => ?_)
    have hs6 : Sf K len I6 R := hs.put35 eI6 klk (by omega) (by omega) (by omega)
    have hF6 := hF.put eI6 klk rfl
    have rw6 := rwd.putO hcx eI6 klk rfl
    have knk6 : ∀ j, I6 kn j = I kn j := fun j => (up2_kk eI6 klk kkn (by decide)).trans (knk0 j)
    have lvk6 : ∀ j, I6 lv j = I lv j := fun j => (up2_kk eI6 klk klv (by decide)).trans ((fun _ => rfl) j)
    refine r_aload_n hC dX8_undo_33 0 rfl ?_
    refine r_dup hC dX8_undo_34 rfl ?_
    refine r_geti hC 4 (ci := 2) rfl u2_in (by decide) mT_1_130 dX8_undo_35 klk rfl rfl (fun x7_ e7 => ?_)
    have r7 := hs6.rng klk rfl e7
    have f7 : x7_.toInt = (I6 lk 4).toInt := by rw [e7]
    have w7 : x7_ = F0 := by rw [e7]; exact (Eq.trans (up2_at (Or.inr (by decide)) eI6) eF0.symm)
    have wt7 : x7_.toInt = F0.toInt := by rw [w7]
    refine r_iconst hC (v := (1)) dX8_undo_38 (by decide) (by decide) (fun x8_ e8 t8 => ?_)
    refine r_isub hC dX8_undo_39 (fun x9_ e9 => ?_)
    try have t9 : x9_.toInt = x7_.toInt - x8_.toInt := by rw [e9]; exact ti_sub (by omega) (by omega)
    have hv5 : I6 lk 5 = x5_ := (by rw [eI6]; exact up2_self _ _ _ _)
    have hv5t : (I6 lk 5).toInt = x5_.toInt := congrArg Int32.toInt hv5
    refine r_puti hC 4 (ci := 2) rfl u2_in tyX2_ok nmX2 (by decide) mT_1_130 rfl rfl rfl dX8_undo_40 klk rfl rfl (fun I10 eI10 => ?_)
    have hs10 : Sf K len I10 R := hs6.put34 eI10 klk (by omega) (by omega) (by rw [hv5]; omega)
    have hF10 := hF6.put eI10 klk rfl
    have rw10 := rw6.putO hcx eI10 klk rfl
    have knk10 : ∀ j, I10 kn j = I kn j := fun j => (up2_kk eI10 klk kkn (by decide)).trans (knk6 j)
    have lvk10 : ∀ j, I10 lv j = I lv j := fun j => (up2_kk eI10 klk klv (by decide)).trans (lvk6 j)
    refine r_aload_n hC dX8_undo_43 1 rfl ?_
    have h4x : I10 lk 4 = x9_ := (by rw [eI10]; exact up2_self _ _ _ _)
    have h4xt : (I10 lk 4).toInt = x9_.toInt := congrArg Int32.toInt h4x
    refine r_callV hC (As := []) (rest := []) (ci := 8) (f_X8_planAnew g (xL X) K len I10 J R hs10 a0 ka0 h hh kh lk hlk2 klk hu (upD D 0 4 (D 0 4 - 1)) (dj_u4 (hJ (by omega))) (rw10.und) (by rw [hF10.get klk rfl, upD_n D (r := 0) (j := 4) (a := 0) (b := 1) _ (Or.inr (by decide))]; exact hd1) (by rw [hF10.get klk rfl, upD_n D (r := 0) (j := 4) (a := 0) (b := 2) _ (Or.inr (by decide))]; exact hd2) (by rw [hF10.get klk rfl, upD_n D (r := 0) (j := 4) (a := 0) (b := 3) _ (Or.inr (by decide))]; exact hd3) (by rw [upD_s]; omega) lv hlv klv llv kn hkn kkn lkn) mT_3_97 mT_1_1 mT_3_94 mT_3_96 mP_18 okX8_planAnew ⟨by decide, by decide⟩ rfl (by show kO (K a0) = _; rw [ka0]; rfl) rfl rfl (Nat.le_of_ble_eq_true rfl) ⟨by decide, by decide⟩ dX8_undo_44 (aV1 (F := fun st M => P g X 2 47 [(1, .ref lk), (0, .ref a0)] st _ _ M) (M := (K, len, I10, J, R)) fun I11 h11 => ?_)
    obtain ⟨hs11, hf11, k11_0, k11_1⟩ := h11
    show P g X 2 47 [(1, .ref lk), (0, .ref a0)] [] _ _ (K, len, I11, J, R)
    have hF11 : Fr K [(3, 4), (3, 5), (9, 12), (41, 999), (43, 999)] I I11 := hF10.trans hf11 rfl rfl
    have rw11 := rw10.mv hcx qC_big hf11 rfl
    refine r_aload_n hC dX8_undo_47 1 rfl ?_
    refine r_iconst hC (v := (0)) dX8_undo_48 (by decide) (by decide) (fun x12_ e12 t12 => ?_)
    refine r_puti hC 12 (ci := 8) rfl u8_in tyX8_ok nmX8 (by decide) mT_2_90 rfl rfl rfl dX8_undo_49 ka0 rfl rfl (fun I13 eI13 => ?_)
    have hs13 := hs11.put0 eI13 ka0 rfl rfl rfl (by decide)
    have hF13 := hF11.put eI13 ka0 rfl
    have rw13 := rw11.putO hcx eI13 ka0 rfl
    have knz13 : ∀ j : Nat, j < 6 → (I13 kn j).toInt = 0 := fun j hj => by rw [up2_kk eI13 ka0 kkn (by decide)]; exact k11_1 j hj
    have lvr13 := k11_0.put eI13 ka0 klv (by decide)
    refine r_iconst hC (v := (1)) dX8_undo_52 (by decide) (by decide) (fun x14_ e14 t14 => ?_)
    have hv4 : I13 lk 4 = x9_ := (Eq.trans (up2_kk eI13 ka0 klk (by decide)) (Eq.trans (hf11.get klk rfl) (by rw [eI10]; exact up2_self _ _ _ _)))
    have hv4t : (I13 lk 4).toInt = x9_.toInt := congrArg Int32.toInt hv4
    have hv5 : I13 lk 5 = x5_ := (Eq.trans (up2_kk eI13 ka0 klk (by decide)) (Eq.trans (hf11.get klk rfl) (Eq.trans (up2_at (Or.inr (by decide)) eI10) (by rw [eI6]; exact up2_self _ _ _ _))))
    have hv5t : (I13 lk 5).toInt = x5_.toInt := congrArg Int32.toInt hv5
    have hv12 : I13 a0 12 = x12_ := (by rw [eI13]; exact up2_self _ _ _ _)
    have hv12t : (I13 a0 12).toInt = x12_.toInt := congrArg Int32.toInt hv12
    exact r_iret hC hQ hlk hr (by rw [e14]; rfl) (by decide) (by decide) dX8_undo_53 ⟨_, _, rfl, rfl, ⟨hs13, hF13, (by first | exact Or.inr ⟨by omega, by omega, by omega, by omega⟩ | exact Or.inl ⟨by omega, by omega, by omega, by omega⟩), (by first | exact ⟨fun h9 => by exfalso; omega, fun _ => rw13⟩ | exact ⟨fun _ => rw13.und, fun h9 => by exfalso; omega⟩), (by first | exact ⟨fun h9 => by exfalso; omega, fun _ => NOlvk⟩ | exact ⟨fun _ => lvr13, fun h9 => by exfalso; omega⟩), (by first | exact ⟨fun h9 => by exfalso; omega, fun _ => NOknk⟩ | exact ⟨fun _ => knz13, fun h9 => by exfalso; omega⟩), (by omega)⟩⟩
  · refine r_aload_n hC dX8_undo_15 1 rfl ?_
    refine r_bipush hC (v := (6)) dX8_undo_16 (by decide) (by decide) (fun x15_ e15 t15 => ?_)
    refine r_puti hC 12 (ci := 8) rfl u8_in tyX8_ok nmX8 (by decide) mT_2_90 rfl rfl rfl dX8_undo_18 ka0 rfl rfl (fun I16 eI16 => ?_)
    have hs16 := hs.put0 eI16 ka0 rfl rfl rfl (by decide)
    have hF16 := hF.put eI16 ka0 rfl
    have rw16 := rwd.putO hcx eI16 ka0 rfl
    have knk16 : ∀ j, I16 kn j = I kn j := fun j => (up2_kk eI16 ka0 kkn (by decide)).trans (knk0 j)
    have lvk16 : ∀ j, I16 lv j = I lv j := fun j => (up2_kk eI16 ka0 klv (by decide)).trans ((fun _ => rfl) j)
    refine r_iconst hC (v := (0)) dX8_undo_21 (by decide) (by decide) (fun x17_ e17 t17 => ?_)
    have hv4 : I16 lk 4 = F4 := (Eq.trans (up2_kk eI16 ka0 klk (by decide)) eF4.symm)
    have hv4t : (I16 lk 4).toInt = F4.toInt := congrArg Int32.toInt hv4
    have hv5 : I16 lk 5 = x1_ := (Eq.trans (up2_kk eI16 ka0 klk (by decide)) e1.symm)
    have hv5t : (I16 lk 5).toInt = x1_.toInt := congrArg Int32.toInt hv5
    have hv12 : I16 a0 12 = x15_ := (by rw [eI16]; exact up2_self _ _ _ _)
    have hv12t : (I16 a0 12).toInt = x15_.toInt := congrArg Int32.toInt hv12
    exact r_iret hC hQ hlk hr (by rw [e17]; rfl) (by decide) (by decide) dX8_undo_22 ⟨_, _, rfl, rfl, ⟨hs16, hF16, (by first | exact Or.inr ⟨by omega, by omega, by omega, by omega⟩ | exact Or.inl ⟨by omega, by omega, by omega, by omega⟩), (by first | exact ⟨fun h9 => by exfalso; omega, fun _ => rw16⟩ | exact ⟨fun _ => rw16.und, fun h9 => by exfalso; omega⟩), (by first | exact ⟨fun h9 => by exfalso; omega, fun _ => lvk16⟩ | exact ⟨fun _ => NOlvr, fun h9 => by exfalso; omega⟩), (by first | exact ⟨fun h9 => by exfalso; omega, fun _ => knk16⟩ | exact ⟨fun _ => NOknz, fun h9 => by exfalso; omega⟩), (by omega)⟩⟩
set_option maxHeartbeats 4000000 in
set_option maxRecDepth 100000 in
theorem n_X3_add (g : GG) (l : Launch) (K len : Nat → Nat) (I : Nat → Nat → Int32) (J : Nat → Nat → Int64) (R : Nat → Nat → Option Nat) (hs : Sf K len I R) (a0 : Nat) (ka0 : K a0 = 4) (x1 : Int32) (x2 : Int32) (x3 : Int32) (x4 : Int32) (p0 : 0 ≤ x1.toInt) (p1 : x1.toInt ≤ 4) (p2 : 0 ≤ x2.toInt) (p3 : x2.toInt ≤ 59) : Ct g l yX3_add cX3_add 5 (Option.none : Option Jvm.ClassFile.FieldType) rmX3_add [.ref a0, .int x1, .int x2, .int x3, .int x4] (K, len, I, J, R) (pV1 (K, len, I, J, R) (fun I' => Sf K len I' R ∧ Fr K [(4, 0), (46, 999), (47, 999), (65, 999), (66, 999)] I I' ∧ ((I a0 0).toInt < 24 → (I' a0 0).toInt = (I a0 0).toInt + 1) ∧ ((I a0 0).toInt < 24 → ∀ E, RdA 1 E a0 I R (I a0 0).toInt → RdA 1 (apE E (I a0 0).toInt.toNat x1.toInt x2.toInt x3.toInt x4.toInt) a0 I' R ((I a0 0).toInt + 1)))) := by
  refine Ct_intro (by decide +kernel) (Nat.le_of_ble_eq_true rfl) (fun X hC hL hKK hNm hr hlk hQ => ?_)
  subst hL
  have hC : Cx g X cX3_add "HillTap$Readings" 5 rmX3_add := hC
  show P g X 5 0 [(0, .ref a0), (1, .int x1), (2, .int x2), (3, .int x3), (4, .int x4)] [] 0 0 (K, len, I, J, R)
  have hF : Fr K [(4, 0), (46, 999), (47, 999), (65, 999), (66, 999)] I I := Fr.refl
  obtain ⟨ua0, hua0, kua0, lua0⟩ := hs.row ka0 1 46 24 (by decide) (by decide)
  obtain ⟨ua1, hua1, kua1, lua1⟩ := hs.row ka0 2 47 24 (by decide) (by decide)
  obtain ⟨ua2, hua2, kua2, lua2⟩ := hs.row ka0 3 65 24 (by decide) (by decide)
  obtain ⟨ua3, hua3, kua3, lua3⟩ := hs.row ka0 4 66 24 (by decide) (by decide)
  have b_x1 := ti_rng x1
  have b_x2 := ti_rng x2
  have b_x3 := ti_rng x3
  have b_x4 := ti_rng x4
  obtain ⟨C0, eC0⟩ : ∃ z : Int32, z = I a0 0 := ⟨_, rfl⟩
  have fC0 : C0.toInt = (I a0 0).toInt := by rw [eC0]
  have rC0 := hs.rng ka0 rfl eC0
  have ro0 : ∀ k, k ≠ (I a0 0).toInt.toNat → I ua0 k = I ua0 k := fun _ _ => rfl
  have ro1 : ∀ k, k ≠ (I a0 0).toInt.toNat → I ua1 k = I ua1 k := fun _ _ => rfl
  have ro2 : ∀ k, k ≠ (I a0 0).toInt.toNat → I ua2 k = I ua2 k := fun _ _ => rfl
  have ro3 : ∀ k, k ≠ (I a0 0).toInt.toNat → I ua3 k = I ua3 k := fun _ _ => rfl
  refine r_aload_n hC dX3_add_0 0 rfl ?_
  refine r_geti hC 0 (ci := 3) rfl u3_in (by decide) mT_2_60 dX3_add_1 ka0 rfl rfl (fun x1_ e1 => ?_)
  have r1 := hs.rng ka0 rfl e1
  have f1 : x1_.toInt = (I a0 0).toInt := by rw [e1]
  have w1 : x1_ = C0 := by rw [e1]; exact eC0.symm
  have wt1 : x1_.toInt = C0.toInt := by rw [w1]
  refine r_bipush hC (v := (24)) dX3_add_4 (by decide) (by decide) (fun x2_ e2 t2 => ?_)
  refine r_icmp_ge hC (tgt := 60) dX3_add_6 (by decide) (fun c3 => ?_) (fun c3 => ?_)
  · have hv0 : I a0 0 = x1_ := e1.symm
    have hv0t : (I a0 0).toInt = x1_.toInt := congrArg Int32.toInt hv0
    exact r_vret hC hQ hlk hr (by decide) (by decide) dX3_add_60 ⟨_, rfl, rfl, ⟨hs, hF, (by omega), (by first | (intro h9; exfalso; omega) | (intro h9 E hA; have h8 : (((I a0 0).toInt.toNat : Nat) : Int) = (I a0 0).toInt := Int.toNat_of_nonneg (by omega); have h7 := RdA_add (c := (I a0 0).toInt.toNat) hua0 hua1 hua2 hua3 NOva NOva NOva NOva ro0 ro1 ro2 ro3 (by rw [h8]; exact hA); rw [h8] at h7; exact h7))⟩⟩
  · refine r_aload_n hC dX3_add_9 0 rfl ?_
    refine r_getr hC 1 (ci := 3) rfl u3_in (by decide) mT_2_62 dX3_add_10 ka0 rfl rfl hua0 ?_
    refine r_aload_n hC dX3_add_13 0 rfl ?_
    refine r_geti hC 0 (ci := 3) rfl u3_in (by decide) mT_2_60 dX3_add_14 ka0 rfl rfl (fun x4_ e4 => ?_)
    have r4 := hs.rng ka0 rfl e4
    have f4 : x4_.toInt = (I a0 0).toInt := by rw [e4]
    have w4 : x4_ = x1_ := by rw [e4]; exact e1.symm
    have wt4 : x4_.toInt = x1_.toInt := by rw [w4]
    refine r_iload_n hC dX3_add_17 1 rfl ?_
    refine x_iastore hC kua0 lua0 (by decide) rfl rfl dX3_add_18 (by omega) (by omega) (fun I5 eI5 => ?_)
    have hs5 := hs.putA eI5 kua0 rfl (by omega) (by omega) (rng_arr (by decide)) (xF_arr (by decide)) (by decide)
    have hF5 := hF.put eI5 kua0 (inS_arr rfl _)
    have eC5 := eI5
    rw [clx (i := x4_) rfl (by omega), show x4_.toInt.toNat = (I a0 0).toInt.toNat by omega] at eC5
    have ro1_5 : ∀ k, k ≠ (I a0 0).toInt.toNat → I5 ua1 k = I ua1 k := fun k z => (up2_kk eI5 kua0 kua1 (by decide)).trans (ro1 k z)
    have ro2_5 : ∀ k, k ≠ (I a0 0).toInt.toNat → I5 ua2 k = I ua2 k := fun k z => (up2_kk eI5 kua0 kua2 (by decide)).trans (ro2 k z)
    have ro3_5 : ∀ k, k ≠ (I a0 0).toInt.toNat → I5 ua3 k = I ua3 k := fun k z => (up2_kk eI5 kua0 kua3 (by decide)).trans (ro3 k z)
    have ro0_5 : ∀ k, k ≠ (I a0 0).toInt.toNat → I5 ua0 k = I ua0 k := fun k z => (show I5 ua0 k = I ua0 k by rw [eC5, up2_ne _ _ (Or.inr z)]).trans (ro0 k z)
    have va0_5 : (I5 ua0 (I a0 0).toInt.toNat).toInt = x1.toInt := by rw [eC5, up2_self]
    refine r_aload_n hC dX3_add_19 0 rfl ?_
    refine r_getr hC 2 (ci := 3) rfl u3_in (by decide) mT_2_63 dX3_add_20 ka0 rfl rfl hua1 ?_
    refine r_aload_n hC dX3_add_23 0 rfl ?_
    refine r_geti hC 0 (ci := 3) rfl u3_in (by decide) mT_2_60 dX3_add_24 ka0 rfl rfl (fun x6_ e6 => ?_)
    have r6 := hs5.rng ka0 rfl e6
    have f6 : x6_.toInt = (I5 a0 0).toInt := by rw [e6]
    have w6 : x6_ = x4_ := by rw [e6]; exact (Eq.trans (up2_kk eI5 kua0 ka0 (by decide)) e4.symm)
    have wt6 : x6_.toInt = x4_.toInt := by rw [w6]
    refine r_iload_n hC dX3_add_27 2 rfl ?_
    refine x_iastore hC kua1 lua1 (by decide) rfl rfl dX3_add_28 (by omega) (by omega) (fun I7 eI7 => ?_)
    have hs7 := hs5.putA eI7 kua1 rfl (by omega) (by omega) (rng_arr (by decide)) (xF_arr (by decide)) (by decide)
    have hF7 := hF5.put eI7 kua1 (inS_arr rfl _)
    have eC7 := eI7
    rw [clx (i := x6_) rfl (by omega), show x6_.toInt.toNat = (I a0 0).toInt.toNat by omega] at eC7
    have ro0_7 : ∀ k, k ≠ (I a0 0).toInt.toNat → I7 ua0 k = I ua0 k := fun k z => (up2_kk eI7 kua1 kua0 (by decide)).trans (ro0_5 k z)
    have va0_7 : (I7 ua0 (I a0 0).toInt.toNat).toInt = x1.toInt := by rw [up2_kk eI7 kua1 kua0 (by decide)]; exact va0_5
    have ro2_7 : ∀ k, k ≠ (I a0 0).toInt.toNat → I7 ua2 k = I ua2 k := fun k z => (up2_kk eI7 kua1 kua2 (by decide)).trans (ro2_5 k z)
    have ro3_7 : ∀ k, k ≠ (I a0 0).toInt.toNat → I7 ua3 k = I ua3 k := fun k z => (up2_kk eI7 kua1 kua3 (by decide)).trans (ro3_5 k z)
    have ro1_7 : ∀ k, k ≠ (I a0 0).toInt.toNat → I7 ua1 k = I ua1 k := fun k z => (show I7 ua1 k = I5 ua1 k by rw [eC7, up2_ne _ _ (Or.inr z)]).trans (ro1_5 k z)
    have va1_7 : (I7 ua1 (I a0 0).toInt.toNat).toInt = x2.toInt := by rw [eC7, up2_self]
    refine r_aload_n hC dX3_add_29 0 rfl ?_
    refine r_getr hC 3 (ci := 3) rfl u3_in (by decide) mT_2_64 dX3_add_30 ka0 rfl rfl hua2 ?_
    refine r_aload_n hC dX3_add_33 0 rfl ?_
    refine r_geti hC 0 (ci := 3) rfl u3_in (by decide) mT_2_60 dX3_add_34 ka0 rfl rfl (fun x8_ e8 => ?_)
    have r8 := hs7.rng ka0 rfl e8
    have f8 : x8_.toInt = (I7 a0 0).toInt := by rw [e8]
    have w8 : x8_ = x6_ := by rw [e8]; exact (Eq.trans (up2_kk eI7 kua1 ka0 (by decide)) e6.symm)
    have wt8 : x8_.toInt = x6_.toInt := by rw [w8]
    refine r_iload_n hC dX3_add_37 3 rfl ?_
    refine x_iastore hC kua2 lua2 (by decide) rfl rfl dX3_add_38 (by omega) (by omega) (fun I9 eI9 => ?_)
    have hs9 := hs7.put0 eI9 kua2 (rng_arr (by decide) _) rfl (xF_arr (by decide) _) (by decide)
    have hF9 := hF7.put eI9 kua2 (inS_arr rfl _)
    have eC9 := eI9
    rw [clx (i := x8_) rfl (by omega), show x8_.toInt.toNat = (I a0 0).toInt.toNat by omega] at eC9
    have ro0_9 : ∀ k, k ≠ (I a0 0).toInt.toNat → I9 ua0 k = I ua0 k := fun k z => (up2_kk eI9 kua2 kua0 (by decide)).trans (ro0_7 k z)
    have va0_9 : (I9 ua0 (I a0 0).toInt.toNat).toInt = x1.toInt := by rw [up2_kk eI9 kua2 kua0 (by decide)]; exact va0_7
    have ro1_9 : ∀ k, k ≠ (I a0 0).toInt.toNat → I9 ua1 k = I ua1 k := fun k z => (up2_kk eI9 kua2 kua1 (by decide)).trans (ro1_7 k z)
    have va1_9 : (I9 ua1 (I a0 0).toInt.toNat).toInt = x2.toInt := by rw [up2_kk eI9 kua2 kua1 (by decide)]; exact va1_7
    have ro3_9 : ∀ k, k ≠ (I a0 0).toInt.toNat → I9 ua3 k = I ua3 k := fun k z => (up2_kk eI9 kua2 kua3 (by decide)).trans (ro3_7 k z)
    have ro2_9 : ∀ k, k ≠ (I a0 0).toInt.toNat → I9 ua2 k = I ua2 k := fun k z => (show I9 ua2 k = I7 ua2 k by rw [eC9, up2_ne _ _ (Or.inr z)]).trans (ro2_7 k z)
    have va2_9 : (I9 ua2 (I a0 0).toInt.toNat).toInt = x3.toInt := by rw [eC9, up2_self]
    refine r_aload_n hC dX3_add_39 0 rfl ?_
    refine r_getr hC 4 (ci := 3) rfl u3_in (by decide) mT_2_65 dX3_add_40 ka0 rfl rfl hua3 ?_
    refine r_aload_n hC dX3_add_43 0 rfl ?_
    refine r_geti hC 0 (ci := 3) rfl u3_in (by decide) mT_2_60 dX3_add_44 ka0 rfl rfl (fun x10_ e10 => ?_)
    have r10 := hs9.rng ka0 rfl e10
    have f10 : x10_.toInt = (I9 a0 0).toInt := by rw [e10]
    have w10 : x10_ = x8_ := by rw [e10]; exact (Eq.trans (up2_kk eI9 kua2 ka0 (by decide)) e8.symm)
    have wt10 : x10_.toInt = x8_.toInt := by rw [w10]
    refine r_iload hC dX3_add_47 4 rfl ?_
    refine x_iastore hC kua3 lua3 (by decide) rfl rfl dX3_add_49 (by omega) (by omega) (fun I11 eI11 => ?_)
    have hs11 := hs9.put0 eI11 kua3 (rng_arr (by decide) _) rfl (xF_arr (by decide) _) (by decide)
    have hF11 := hF9.put eI11 kua3 (inS_arr rfl _)
    have eC11 := eI11
    rw [clx (i := x10_) rfl (by omega), show x10_.toInt.toNat = (I a0 0).toInt.toNat by omega] at eC11
    have ro0_11 : ∀ k, k ≠ (I a0 0).toInt.toNat → I11 ua0 k = I ua0 k := fun k z => (up2_kk eI11 kua3 kua0 (by decide)).trans (ro0_9 k z)
    have va0_11 : (I11 ua0 (I a0 0).toInt.toNat).toInt = x1.toInt := by rw [up2_kk eI11 kua3 kua0 (by decide)]; exact va0_9
    have ro1_11 : ∀ k, k ≠ (I a0 0).toInt.toNat → I11 ua1 k = I ua1 k := fun k z => (up2_kk eI11 kua3 kua1 (by decide)).trans (ro1_9 k z)
    have va1_11 : (I11 ua1 (I a0 0).toInt.toNat).toInt = x2.toInt := by rw [up2_kk eI11 kua3 kua1 (by decide)]; exact va1_9
    have ro2_11 : ∀ k, k ≠ (I a0 0).toInt.toNat → I11 ua2 k = I ua2 k := fun k z => (up2_kk eI11 kua3 kua2 (by decide)).trans (ro2_9 k z)
    have va2_11 : (I11 ua2 (I a0 0).toInt.toNat).toInt = x3.toInt := by rw [up2_kk eI11 kua3 kua2 (by decide)]; exact va2_9
    have ro3_11 : ∀ k, k ≠ (I a0 0).toInt.toNat → I11 ua3 k = I ua3 k := fun k z => (show I11 ua3 k = I9 ua3 k by rw [eC11, up2_ne _ _ (Or.inr z)]).trans (ro3_9 k z)
    have va3_11 : (I11 ua3 (I a0 0).toInt.toNat).toInt = x4.toInt := by rw [eC11, up2_self]
    refine r_aload_n hC dX3_add_50 0 rfl ?_
    refine r_dup hC dX3_add_51 rfl ?_
    refine r_geti hC 0 (ci := 3) rfl u3_in (by decide) mT_2_60 dX3_add_52 ka0 rfl rfl (fun x12_ e12 => ?_)
    have r12 := hs11.rng ka0 rfl e12
    have f12 : x12_.toInt = (I11 a0 0).toInt := by rw [e12]
    have w12 : x12_ = x10_ := by rw [e12]; exact (Eq.trans (up2_kk eI11 kua3 ka0 (by decide)) e10.symm)
    have wt12 : x12_.toInt = x10_.toInt := by rw [w12]
    refine r_iconst hC (v := (1)) dX3_add_55 (by decide) (by decide) (fun x13_ e13 t13 => ?_)
    refine r_iadd hC dX3_add_56 (fun x14_ e14 => ?_)
    try have t14 : x14_.toInt = x12_.toInt + x13_.toInt := by rw [e14]; exact ti_add (by omega) (by omega)
    refine r_puti hC 0 (ci := 3) rfl u3_in tyX3_ok nmX3 (by decide) mT_2_60 rfl rfl rfl dX3_add_57 ka0 rfl rfl (fun I15 eI15 => ?_)
    have hs15 := hs11.put1 eI15 ka0 rfl (by omega) (by omega) rfl rfl (by decide)
    have hF15 := hF11.put eI15 ka0 rfl
    have ro0_15 : ∀ k, k ≠ (I a0 0).toInt.toNat → I15 ua0 k = I ua0 k := fun k z => (up2_kk eI15 ka0 kua0 (by decide)).trans (ro0_11 k z)
    have va0_15 : (I15 ua0 (I a0 0).toInt.toNat).toInt = x1.toInt := by rw [up2_kk eI15 ka0 kua0 (by decide)]; exact va0_11
    have ro1_15 : ∀ k, k ≠ (I a0 0).toInt.toNat → I15 ua1 k = I ua1 k := fun k z => (up2_kk eI15 ka0 kua1 (by decide)).trans (ro1_11 k z)
    have va1_15 : (I15 ua1 (I a0 0).toInt.toNat).toInt = x2.toInt := by rw [up2_kk eI15 ka0 kua1 (by decide)]; exact va1_11
    have ro2_15 : ∀ k, k ≠ (I a0 0).toInt.toNat → I15 ua2 k = I ua2 k := fun k z => (up2_kk eI15 ka0 kua2 (by decide)).trans (ro2_11 k z)
    have va2_15 : (I15 ua2 (I a0 0).toInt.toNat).toInt = x3.toInt := by rw [up2_kk eI15 ka0 kua2 (by decide)]; exact va2_11
    have ro3_15 : ∀ k, k ≠ (I a0 0).toInt.toNat → I15 ua3 k = I ua3 k := fun k z => (up2_kk eI15 ka0 kua3 (by decide)).trans (ro3_11 k z)
    have va3_15 : (I15 ua3 (I a0 0).toInt.toNat).toInt = x4.toInt := by rw [up2_kk eI15 ka0 kua3 (by decide)]; exact va3_11
    have hv0 : I15 a0 0 = x14_ := (by rw [eI15]; exact up2_self _ _ _ _)
    have hv0t : (I15 a0 0).toInt = x14_.toInt := congrArg Int32.toInt hv0
    exact r_vret hC hQ hlk hr (by decide) (by decide) dX3_add_60 ⟨_, rfl, rfl, ⟨hs15, hF15, (by omega), (by first | (intro h9; exfalso; omega) | (intro h9 E hA; have h8 : (((I a0 0).toInt.toNat : Nat) : Int) = (I a0 0).toInt := Int.toNat_of_nonneg (by omega); have h7 := RdA_add (c := (I a0 0).toInt.toNat) hua0 hua1 hua2 hua3 va0_15 va1_15 va2_15 va3_15 ro0_15 ro1_15 ro2_15 ro3_15 (by rw [h8]; exact hA); rw [h8] at h7; exact h7))⟩⟩
set_option maxHeartbeats 4000000 in
set_option maxRecDepth 100000 in
theorem n_X8_read (g : GG) (l : Launch) (K len : Nat → Nat) (I : Nat → Nat → Int32) (J : Nat → Nat → Int64) (R : Nat → Nat → Option Nat) (hs : Sf K len I R) (a0 : Nat) (ka0 : K a0 = 9) (x1 : Int32) (x2 : Int32) (x3 : Int32) (x4 : Int32) (h : Nat) (hh : R a0 2 = some h) (kh : K h = 2) (rd : Nat) (hrd : R a0 9 = some rd) (krd : K rd = 4) : Ct g l yX8_read cX8_read 5 (Option.some Jvm.ClassFile.FieldType.int) rmX8_read [.ref a0, .int x1, .int x2, .int x3, .int x4] (K, len, I, J, R) (pI1 (K, len, I, J, R) (fun r I' => Sf K len I' R ∧ Fr K [(4, 0), (9, 12), (46, 999), (47, 999), (65, 999), (66, 999)] I I' ∧ (((0 ≤ x1.toInt ∧ x1.toInt < (I h 1).toInt ∧ 0 ≤ x2.toInt ∧ x2.toInt ≤ 59 ∧ 0 ≤ x3.toInt ∧ x3.toInt ≤ 99999 ∧ 0 ≤ x4.toInt ∧ x4.toInt ≤ 999 ∧ (I rd 0).toInt < 24) ∧ r.toInt = (I rd 0).toInt + 1 ∧ (I' rd 0).toInt = (I rd 0).toInt + 1) ∨ (¬ (0 ≤ x1.toInt ∧ x1.toInt < (I h 1).toInt ∧ 0 ≤ x2.toInt ∧ x2.toInt ≤ 59 ∧ 0 ≤ x3.toInt ∧ x3.toInt ≤ 99999 ∧ 0 ≤ x4.toInt ∧ x4.toInt ≤ 999 ∧ (I rd 0).toInt < 24) ∧ r.toInt = -1 ∧ (I' rd 0).toInt = (I rd 0).toInt)) ∧ ((0 ≤ x1.toInt ∧ x1.toInt < (I h 1).toInt ∧ 0 ≤ x2.toInt ∧ x2.toInt ≤ 59 ∧ 0 ≤ x3.toInt ∧ x3.toInt ≤ 99999 ∧ 0 ≤ x4.toInt ∧ x4.toInt ≤ 999 ∧ (I rd 0).toInt < 24) → ∀ E, RdA 1 E rd I R (I rd 0).toInt → RdA 1 (apE E (I rd 0).toInt.toNat x1.toInt x2.toInt x3.toInt x4.toInt) rd I' R ((I rd 0).toInt + 1)) ∧ (¬ (0 ≤ x1.toInt ∧ x1.toInt < (I h 1).toInt ∧ 0 ≤ x2.toInt ∧ x2.toInt ≤ 59 ∧ 0 ≤ x3.toInt ∧ x3.toInt ≤ 99999 ∧ 0 ≤ x4.toInt ∧ x4.toInt ≤ 999 ∧ (I rd 0).toInt < 24) → ∀ b k, (K b = 46 ∨ K b = 47 ∨ K b = 65 ∨ K b = 66) → I' b k = I b k) ∧ ((I' a0 12).toInt ≠ 4))) := by
  refine Ct_intro (by decide +kernel) (Nat.le_of_ble_eq_true rfl) (fun X hC hL hKK hNm hr hlk hQ => ?_)
  subst hL
  have hC : Cx g X cX8_read "HillTap" 5 rmX8_read := hC
  show P g X 5 0 [(0, .ref a0), (1, .int x1), (2, .int x2), (3, .int x3), (4, .int x4)] [] 0 0 (K, len, I, J, R)
  have hF : Fr K [(4, 0), (9, 12), (46, 999), (47, 999), (65, 999), (66, 999)] I I := Fr.refl
  have b_x1 := ti_rng x1
  have b_x2 := ti_rng x2
  have b_x3 := ti_rng x3
  have b_x4 := ti_rng x4
  obtain ⟨P1, eP1⟩ : ∃ z : Int32, z = I h 1 := ⟨_, rfl⟩
  have fP1 : P1.toInt = (I h 1).toInt := by rw [eP1]
  have rP1 := hs.rng kh rfl eP1
  obtain ⟨C0, eC0⟩ : ∃ z : Int32, z = I rd 0 := ⟨_, rfl⟩
  have fC0 : C0.toInt = (I rd 0).toInt := by rw [eC0]
  have rC0 := hs.rng krd rfl eC0
  have ro0 : ∀ b k, (K b = 46 ∨ K b = 47 ∨ K b = 65 ∨ K b = 66) → I b k = I b k := fun _ _ _ => rfl
  refine r_aload_n hC dX8_read_0 0 rfl ?_
  refine r_iload_n hC dX8_read_1 1 rfl ?_
  refine r_callV hC (As := [.int x1]) (rest := []) (ci := 8) (f_X8_isPeg g (xL X) K len I J R hs a0 ka0 x1 h hh kh) mT_3_159 mT_1_1 mT_3_156 mT_3_158 mP_25 okX8_isPeg ⟨by decide, by decide⟩ rfl (by show kO (K a0) = _; rw [ka0]; rfl) rfl rfl (Nat.le_of_ble_eq_true rfl) ⟨by decide, by decide⟩ dX8_read_2 (aI0 (F := fun st M => P g X 5 5 [(0, .ref a0), (1, .int x1), (2, .int x2), (3, .int x3), (4, .int x4)] st _ _ M) (M := (K, len, I, J, R)) fun x1_ h1 => ?_)
  have k1_0 := h1
  clear h1
  show P g X 5 5 [(0, .ref a0), (1, .int x1), (2, .int x2), (3, .int x3), (4, .int x4)] [.int x1_] _ _ (K, len, I, J, R)
  rcases k1_0 with ⟨hr1, hw1⟩ | ⟨hr1, hw1⟩
  · refine r_if_eq hC (tgt := 15) dX8_read_5 (by decide) (fun c2 => ?_) (fun c2 => ?_)
    · exfalso; omega
    refine r_iload_n hC dX8_read_8 2 rfl ?_
    refine r_callS hC (As := [.int x2]) (rest := []) (f_X8_isDay g (xL X) K len I J R hs x2) mT_3_134 mT_1_1 mT_3_132 mT_3_133 okX8_isDay ⟨by decide, by decide⟩ rfl rfl (Nat.le_of_ble_eq_true rfl) ⟨by decide, by decide⟩ dX8_read_9 (aI0 (F := fun st M => P g X 5 12 [(0, .ref a0), (1, .int x1), (2, .int x2), (3, .int x3), (4, .int x4)] st _ _ M) (M := (K, len, I, J, R)) fun x3_ h3 => ?_)
    have k3_0 := h3
    clear h3
    show P g X 5 12 [(0, .ref a0), (1, .int x1), (2, .int x2), (3, .int x3), (4, .int x4)] [.int x3_] _ _ (K, len, I, J, R)
    rcases k3_0 with ⟨hr3, hw3⟩ | ⟨hr3, hw3⟩
    · refine r_if_ne hC (tgt := 21) dX8_read_12 (by decide) (fun c4 => ?_) (fun c4 => ?_)
      rotate_left
      · exfalso; omega
      refine r_iload_n hC dX8_read_21 3 rfl ?_
      refine r_if_lt hC (tgt := 44) dX8_read_22 (by decide) (fun c5 => ?_) (fun c5 => ?_)
      · refine r_aload_n hC dX8_read_44 0 rfl ?_
        refine r_iconst hC (v := (2)) dX8_read_45 (by decide) (by decide) (fun x6_ e6 t6 => ?_)
        refine r_callV hC (As := [.int x6_]) (rest := []) (ci := 8) (c_X8_refuse g (xL X) K len I J R hs a0 ka0 x6_) mT_2_133 mT_1_1 mT_2_130 mT_2_132 mP_0 okX8_refuse ⟨by decide, by decide⟩ rfl (by show kO (K a0) = _; rw [ka0]; rfl) rfl rfl (Nat.le_of_ble_eq_true rfl) ⟨by decide, by decide⟩ dX8_read_46 (aI1 (F := fun st M => P g X 5 49 [(0, .ref a0), (1, .int x1), (2, .int x2), (3, .int x3), (4, .int x4)] st _ _ M) (M := (K, len, I, J, R)) fun x7_ I7 h7 => ?_)
        obtain ⟨hs7, hf7, k7_0, k7_1⟩ := h7
        show P g X 5 49 [(0, .ref a0), (1, .int x1), (2, .int x2), (3, .int x3), (4, .int x4)] [.int x7_] _ _ (K, len, I7, J, R)
        have hF7 : Fr K [(4, 0), (9, 12), (46, 999), (47, 999), (65, 999), (66, 999)] I I7 := hF.trans hf7 rfl rfl
        have ro7 : ∀ b k, (K b = 46 ∨ K b = 47 ∨ K b = 65 ∨ K b = 66) → I7 b k = I b k := fun b k z => by have y := ro0 b k z; rcases z with z | z | z | z <;> exact (hf7.get z rfl).trans y
        have hv0 : I7 rd 0 = C0 := (Eq.trans (hf7.get krd rfl) eC0.symm)
        have hv0t : (I7 rd 0).toInt = C0.toInt := congrArg Int32.toInt hv0
        exact r_iret hC hQ hlk hr rfl (by decide) (by decide) dX8_read_49 ⟨_, _, rfl, rfl, ⟨hs7, hF7, (by first | exact Or.inr ⟨by omega, by omega, by omega⟩ | exact Or.inl ⟨by omega, by have h9 := congrArg Int32.toInt k7_0; omega, by omega⟩), (by first | (intro h9; exfalso; omega) | exact fun _ => NOrda), (by first | exact fun _ => ro7 | (intro h9; exfalso; omega)), (by omega)⟩⟩
      · refine r_iload_n hC dX8_read_25 3 rfl ?_
        refine r_ldc hC (n := 99999) (v := 99999) mT_3_210 dX8_read_26 (by decide) (fun x8_ e8 t8 => ?_)
        refine r_icmp_gt hC (tgt := 44) dX8_read_28 (by decide) (fun c9 => ?_) (fun c9 => ?_)
        · refine r_aload_n hC dX8_read_44 0 rfl ?_
          refine r_iconst hC (v := (2)) dX8_read_45 (by decide) (by decide) (fun x10_ e10 t10 => ?_)
          refine r_callV hC (As := [.int x10_]) (rest := []) (ci := 8) (c_X8_refuse g (xL X) K len I J R hs a0 ka0 x10_) mT_2_133 mT_1_1 mT_2_130 mT_2_132 mP_0 okX8_refuse ⟨by decide, by decide⟩ rfl (by show kO (K a0) = _; rw [ka0]; rfl) rfl rfl (Nat.le_of_ble_eq_true rfl) ⟨by decide, by decide⟩ dX8_read_46 (aI1 (F := fun st M => P g X 5 49 [(0, .ref a0), (1, .int x1), (2, .int x2), (3, .int x3), (4, .int x4)] st _ _ M) (M := (K, len, I, J, R)) fun x11_ I11 h11 => ?_)
          obtain ⟨hs11, hf11, k11_0, k11_1⟩ := h11
          show P g X 5 49 [(0, .ref a0), (1, .int x1), (2, .int x2), (3, .int x3), (4, .int x4)] [.int x11_] _ _ (K, len, I11, J, R)
          have hF11 : Fr K [(4, 0), (9, 12), (46, 999), (47, 999), (65, 999), (66, 999)] I I11 := hF.trans hf11 rfl rfl
          have ro11 : ∀ b k, (K b = 46 ∨ K b = 47 ∨ K b = 65 ∨ K b = 66) → I11 b k = I b k := fun b k z => by have y := ro0 b k z; rcases z with z | z | z | z <;> exact (hf11.get z rfl).trans y
          have hv0 : I11 rd 0 = C0 := (Eq.trans (hf11.get krd rfl) eC0.symm)
          have hv0t : (I11 rd 0).toInt = C0.toInt := congrArg Int32.toInt hv0
          exact r_iret hC hQ hlk hr rfl (by decide) (by decide) dX8_read_49 ⟨_, _, rfl, rfl, ⟨hs11, hF11, (by first | exact Or.inr ⟨by omega, by omega, by omega⟩ | exact Or.inl ⟨by omega, by have h9 := congrArg Int32.toInt k11_0; omega, by omega⟩), (by first | (intro h9; exfalso; omega) | exact fun _ => NOrda), (by first | exact fun _ => ro11 | (intro h9; exfalso; omega)), (by omega)⟩⟩
        · refine r_iload hC dX8_read_31 4 rfl ?_
          refine r_if_lt hC (tgt := 44) dX8_read_33 (by decide) (fun c12 => ?_) (fun c12 => ?_)
          · refine r_aload_n hC dX8_read_44 0 rfl ?_
            refine r_iconst hC (v := (2)) dX8_read_45 (by decide) (by decide) (fun x13_ e13 t13 => ?_)
            refine r_callV hC (As := [.int x13_]) (rest := []) (ci := 8) (c_X8_refuse g (xL X) K len I J R hs a0 ka0 x13_) mT_2_133 mT_1_1 mT_2_130 mT_2_132 mP_0 okX8_refuse ⟨by decide, by decide⟩ rfl (by show kO (K a0) = _; rw [ka0]; rfl) rfl rfl (Nat.le_of_ble_eq_true rfl) ⟨by decide, by decide⟩ dX8_read_46 (aI1 (F := fun st M => P g X 5 49 [(0, .ref a0), (1, .int x1), (2, .int x2), (3, .int x3), (4, .int x4)] st _ _ M) (M := (K, len, I, J, R)) fun x14_ I14 h14 => ?_)
            obtain ⟨hs14, hf14, k14_0, k14_1⟩ := h14
            show P g X 5 49 [(0, .ref a0), (1, .int x1), (2, .int x2), (3, .int x3), (4, .int x4)] [.int x14_] _ _ (K, len, I14, J, R)
            have hF14 : Fr K [(4, 0), (9, 12), (46, 999), (47, 999), (65, 999), (66, 999)] I I14 := hF.trans hf14 rfl rfl
            have ro14 : ∀ b k, (K b = 46 ∨ K b = 47 ∨ K b = 65 ∨ K b = 66) → I14 b k = I b k := fun b k z => by have y := ro0 b k z; rcases z with z | z | z | z <;> exact (hf14.get z rfl).trans y
            have hv0 : I14 rd 0 = C0 := (Eq.trans (hf14.get krd rfl) eC0.symm)
            have hv0t : (I14 rd 0).toInt = C0.toInt := congrArg Int32.toInt hv0
            exact r_iret hC hQ hlk hr rfl (by decide) (by decide) dX8_read_49 ⟨_, _, rfl, rfl, ⟨hs14, hF14, (by first | exact Or.inr ⟨by omega, by omega, by omega⟩ | exact Or.inl ⟨by omega, by have h9 := congrArg Int32.toInt k14_0; omega, by omega⟩), (by first | (intro h9; exfalso; omega) | exact fun _ => NOrda), (by first | exact fun _ => ro14 | (intro h9; exfalso; omega)), (by omega)⟩⟩
          · refine r_iload hC dX8_read_36 4 rfl ?_
            refine r_sipush hC (v := (999)) dX8_read_38 (by decide) (by decide) (fun x15_ e15 t15 => ?_)
            refine r_icmp_le hC (tgt := 50) dX8_read_41 (by decide) (fun c16 => ?_) (fun c16 => ?_)
            · refine r_aload_n hC dX8_read_50 0 rfl ?_
              refine r_getr hC 9 (ci := 8) rfl u8_in (by decide) mT_2_87 dX8_read_51 ka0 rfl rfl hrd ?_
              refine r_geti hC 0 (ci := 3) rfl u3_in (by decide) mT_2_61 dX8_read_54 krd rfl rfl (fun x17_ e17 => ?_)
              have r17 := hs.rng krd rfl e17
              have f17 : x17_.toInt = (I rd 0).toInt := by rw [e17]
              have w17 : x17_ = C0 := by rw [e17]; exact eC0.symm
              have wt17 : x17_.toInt = C0.toInt := by rw [w17]
              refine r_bipush hC (v := (24)) dX8_read_57 (by decide) (by decide) (fun x18_ e18 t18 => ?_)
              refine r_icmp_lt hC (tgt := 68) dX8_read_59 (by decide) (fun c19 => ?_) (fun c19 => ?_)
              · refine r_aload_n hC dX8_read_68 0 rfl ?_
                refine r_getr hC 9 (ci := 8) rfl u8_in (by decide) mT_2_87 dX8_read_69 ka0 rfl rfl hrd ?_
                refine r_iload_n hC dX8_read_72 1 rfl ?_
                refine r_iload_n hC dX8_read_73 2 rfl ?_
                refine r_iload_n hC dX8_read_74 3 rfl ?_
                refine r_iload hC dX8_read_75 4 rfl ?_
                refine r_callV hC (As := [.int x1, .int x2, .int x3, .int x4]) (rest := []) (ci := 3) (n_X3_add g (xL X) K len I J R hs rd krd x1 x2 x3 x4 (by omega) (by omega) (by omega) (by omega)) mT_3_214 mT_1_9 mT_3_211 mT_3_212 mT_3_213 okX3_add ⟨by decide, by decide⟩ rfl (by show kO (K rd) = _; rw [krd]; rfl) rfl rfl (Nat.le_of_ble_eq_true rfl) ⟨by decide, by decide⟩ dX8_read_77 (aV1 (F := fun st M => P g X 5 80 [(0, .ref a0), (1, .int x1), (2, .int x2), (3, .int x3), (4, .int x4)] st _ _ M) (M := (K, len, I, J, R)) fun I20 h20 => ?_)
                obtain ⟨hs20, hf20, k20_0, k20_1⟩ := h20
                show P g X 5 80 [(0, .ref a0), (1, .int x1), (2, .int x2), (3, .int x3), (4, .int x4)] [] _ _ (K, len, I20, J, R)
                have hF20 : Fr K [(4, 0), (9, 12), (46, 999), (47, 999), (65, 999), (66, 999)] I I20 := hF.trans hf20 rfl rfl
                have rda20 : ∀ E, RdA 1 E rd I R (I rd 0).toInt → RdA 1 (apE E (I rd 0).toInt.toNat x1.toInt x2.toInt x3.toInt x4.toInt) rd I20 R ((I rd 0).toInt + 1) := k20_1 (by omega)
                obtain ⟨C9, eC9⟩ : ∃ z : Int32, z = I20 rd 0 := ⟨_, rfl⟩
                have fC9 : C9.toInt = (I20 rd 0).toInt := by rw [eC9]
                have rC9 := hs20.rng krd rfl eC9
                refine r_aload_n hC dX8_read_80 0 rfl ?_
                refine r_aload_n hC dX8_read_81 0 rfl ?_
                refine r_getr hC 9 (ci := 8) rfl u8_in (by decide) mT_2_87 dX8_read_82 ka0 rfl rfl hrd ?_
                refine r_geti hC 0 (ci := 3) rfl u3_in (by decide) mT_2_61 dX8_read_85 krd rfl rfl (fun x21_ e21 => ?_)
                have r21 := hs20.rng krd rfl e21
                have f21 : x21_.toInt = (I20 rd 0).toInt := by rw [e21]
                have w21 : x21_ = C9 := by rw [e21]; exact eC9.symm
                have wt21 : x21_.toInt = C9.toInt := by rw [w21]
                refine r_callV hC (As := [.int x21_]) (rest := []) (ci := 8) (c_X8_answer g (xL X) K len I20 J R hs20 a0 ka0 x21_) mT_3_115 mT_1_1 mT_3_112 mT_3_114 mP_21 okX8_answer ⟨by decide, by decide⟩ rfl (by show kO (K a0) = _; rw [ka0]; rfl) rfl rfl (Nat.le_of_ble_eq_true rfl) ⟨by decide, by decide⟩ dX8_read_88 (aI1 (F := fun st M => P g X 5 91 [(0, .ref a0), (1, .int x1), (2, .int x2), (3, .int x3), (4, .int x4)] st _ _ M) (M := (K, len, I20, J, R)) fun x22_ I22 h22 => ?_)
                obtain ⟨hs22, hf22, k22_0, k22_1⟩ := h22
                show P g X 5 91 [(0, .ref a0), (1, .int x1), (2, .int x2), (3, .int x3), (4, .int x4)] [.int x22_] _ _ (K, len, I22, J, R)
                have hF22 : Fr K [(4, 0), (9, 12), (46, 999), (47, 999), (65, 999), (66, 999)] I I22 := hF20.trans hf22 rfl rfl
                have rda22 : ∀ E, RdA 1 E rd I R (I rd 0).toInt → RdA 1 (apE E (I rd 0).toInt.toNat x1.toInt x2.toInt x3.toInt x4.toInt) rd I22 R ((I rd 0).toInt + 1) := fun E hA => (rda20 E hA).mv hs krd (fun b k z => by rcases z with z | z | z | z <;> exact hf22.get z rfl)
                have hv0 : I22 rd 0 = x21_ := (Eq.trans (hf22.get krd rfl) e21.symm)
                have hv0t : (I22 rd 0).toInt = x21_.toInt := congrArg Int32.toInt hv0
                exact r_iret hC hQ hlk hr rfl (by decide) (by decide) dX8_read_91 ⟨_, _, rfl, rfl, ⟨hs22, hF22, (by first | exact Or.inr ⟨by omega, by omega, by omega⟩ | exact Or.inl ⟨by omega, by have h9 := congrArg Int32.toInt k22_0; omega, by omega⟩), (by first | (intro h9; exfalso; omega) | exact fun _ => rda22), (by first | exact fun _ => NOro | (intro h9; exfalso; omega)), (by omega)⟩⟩
              · refine r_aload_n hC dX8_read_62 0 rfl ?_
                refine r_iconst hC (v := (3)) dX8_read_63 (by decide) (by decide) (fun x23_ e23 t23 => ?_)
                refine r_callV hC (As := [.int x23_]) (rest := []) (ci := 8) (c_X8_refuse g (xL X) K len I J R hs a0 ka0 x23_) mT_2_133 mT_1_1 mT_2_130 mT_2_132 mP_0 okX8_refuse ⟨by decide, by decide⟩ rfl (by show kO (K a0) = _; rw [ka0]; rfl) rfl rfl (Nat.le_of_ble_eq_true rfl) ⟨by decide, by decide⟩ dX8_read_64 (aI1 (F := fun st M => P g X 5 67 [(0, .ref a0), (1, .int x1), (2, .int x2), (3, .int x3), (4, .int x4)] st _ _ M) (M := (K, len, I, J, R)) fun x24_ I24 h24 => ?_)
                obtain ⟨hs24, hf24, k24_0, k24_1⟩ := h24
                show P g X 5 67 [(0, .ref a0), (1, .int x1), (2, .int x2), (3, .int x3), (4, .int x4)] [.int x24_] _ _ (K, len, I24, J, R)
                have hF24 : Fr K [(4, 0), (9, 12), (46, 999), (47, 999), (65, 999), (66, 999)] I I24 := hF.trans hf24 rfl rfl
                have ro24 : ∀ b k, (K b = 46 ∨ K b = 47 ∨ K b = 65 ∨ K b = 66) → I24 b k = I b k := fun b k z => by have y := ro0 b k z; rcases z with z | z | z | z <;> exact (hf24.get z rfl).trans y
                have hv0 : I24 rd 0 = x17_ := (Eq.trans (hf24.get krd rfl) e17.symm)
                have hv0t : (I24 rd 0).toInt = x17_.toInt := congrArg Int32.toInt hv0
                exact r_iret hC hQ hlk hr rfl (by decide) (by decide) dX8_read_67 ⟨_, _, rfl, rfl, ⟨hs24, hF24, (by first | exact Or.inr ⟨by omega, by omega, by omega⟩ | exact Or.inl ⟨by omega, by have h9 := congrArg Int32.toInt k24_0; omega, by omega⟩), (by first | (intro h9; exfalso; omega) | exact fun _ => NOrda), (by first | exact fun _ => ro24 | (intro h9; exfalso; omega)), (by omega)⟩⟩
            · refine r_aload_n hC dX8_read_44 0 rfl ?_
              refine r_iconst hC (v := (2)) dX8_read_45 (by decide) (by decide) (fun x25_ e25 t25 => ?_)
              refine r_callV hC (As := [.int x25_]) (rest := []) (ci := 8) (c_X8_refuse g (xL X) K len I J R hs a0 ka0 x25_) mT_2_133 mT_1_1 mT_2_130 mT_2_132 mP_0 okX8_refuse ⟨by decide, by decide⟩ rfl (by show kO (K a0) = _; rw [ka0]; rfl) rfl rfl (Nat.le_of_ble_eq_true rfl) ⟨by decide, by decide⟩ dX8_read_46 (aI1 (F := fun st M => P g X 5 49 [(0, .ref a0), (1, .int x1), (2, .int x2), (3, .int x3), (4, .int x4)] st _ _ M) (M := (K, len, I, J, R)) fun x26_ I26 h26 => ?_)
              obtain ⟨hs26, hf26, k26_0, k26_1⟩ := h26
              show P g X 5 49 [(0, .ref a0), (1, .int x1), (2, .int x2), (3, .int x3), (4, .int x4)] [.int x26_] _ _ (K, len, I26, J, R)
              have hF26 : Fr K [(4, 0), (9, 12), (46, 999), (47, 999), (65, 999), (66, 999)] I I26 := hF.trans hf26 rfl rfl
              have ro26 : ∀ b k, (K b = 46 ∨ K b = 47 ∨ K b = 65 ∨ K b = 66) → I26 b k = I b k := fun b k z => by have y := ro0 b k z; rcases z with z | z | z | z <;> exact (hf26.get z rfl).trans y
              have hv0 : I26 rd 0 = C0 := (Eq.trans (hf26.get krd rfl) eC0.symm)
              have hv0t : (I26 rd 0).toInt = C0.toInt := congrArg Int32.toInt hv0
              exact r_iret hC hQ hlk hr rfl (by decide) (by decide) dX8_read_49 ⟨_, _, rfl, rfl, ⟨hs26, hF26, (by first | exact Or.inr ⟨by omega, by omega, by omega⟩ | exact Or.inl ⟨by omega, by have h9 := congrArg Int32.toInt k26_0; omega, by omega⟩), (by first | (intro h9; exfalso; omega) | exact fun _ => NOrda), (by first | exact fun _ => ro26 | (intro h9; exfalso; omega)), (by omega)⟩⟩
    · refine r_if_ne hC (tgt := 21) dX8_read_12 (by decide) (fun c27 => ?_) (fun c27 => ?_)
      · exfalso; omega
      refine r_aload_n hC dX8_read_15 0 rfl ?_
      refine r_iconst hC (v := (1)) dX8_read_16 (by decide) (by decide) (fun x28_ e28 t28 => ?_)
      refine r_callV hC (As := [.int x28_]) (rest := []) (ci := 8) (c_X8_refuse g (xL X) K len I J R hs a0 ka0 x28_) mT_2_133 mT_1_1 mT_2_130 mT_2_132 mP_0 okX8_refuse ⟨by decide, by decide⟩ rfl (by show kO (K a0) = _; rw [ka0]; rfl) rfl rfl (Nat.le_of_ble_eq_true rfl) ⟨by decide, by decide⟩ dX8_read_17 (aI1 (F := fun st M => P g X 5 20 [(0, .ref a0), (1, .int x1), (2, .int x2), (3, .int x3), (4, .int x4)] st _ _ M) (M := (K, len, I, J, R)) fun x29_ I29 h29 => ?_)
      obtain ⟨hs29, hf29, k29_0, k29_1⟩ := h29
      show P g X 5 20 [(0, .ref a0), (1, .int x1), (2, .int x2), (3, .int x3), (4, .int x4)] [.int x29_] _ _ (K, len, I29, J, R)
      have hF29 : Fr K [(4, 0), (9, 12), (46, 999), (47, 999), (65, 999), (66, 999)] I I29 := hF.trans hf29 rfl rfl
      have ro29 : ∀ b k, (K b = 46 ∨ K b = 47 ∨ K b = 65 ∨ K b = 66) → I29 b k = I b k := fun b k z => by have y := ro0 b k z; rcases z with z | z | z | z <;> exact (hf29.get z rfl).trans y
      have hv0 : I29 rd 0 = C0 := (Eq.trans (hf29.get krd rfl) eC0.symm)
      have hv0t : (I29 rd 0).toInt = C0.toInt := congrArg Int32.toInt hv0
      exact r_iret hC hQ hlk hr rfl (by decide) (by decide) dX8_read_20 ⟨_, _, rfl, rfl, ⟨hs29, hF29, (by first | exact Or.inr ⟨by omega, by omega, by omega⟩ | exact Or.inl ⟨by omega, by have h9 := congrArg Int32.toInt k29_0; omega, by omega⟩), (by first | (intro h9; exfalso; omega) | exact fun _ => NOrda), (by first | exact fun _ => ro29 | (intro h9; exfalso; omega)), (by omega)⟩⟩
  · refine r_if_eq hC (tgt := 15) dX8_read_5 (by decide) (fun c30 => ?_) (fun c30 => ?_)
    rotate_left
    · exfalso; omega
    refine r_aload_n hC dX8_read_15 0 rfl ?_
    refine r_iconst hC (v := (1)) dX8_read_16 (by decide) (by decide) (fun x31_ e31 t31 => ?_)
    refine r_callV hC (As := [.int x31_]) (rest := []) (ci := 8) (c_X8_refuse g (xL X) K len I J R hs a0 ka0 x31_) mT_2_133 mT_1_1 mT_2_130 mT_2_132 mP_0 okX8_refuse ⟨by decide, by decide⟩ rfl (by show kO (K a0) = _; rw [ka0]; rfl) rfl rfl (Nat.le_of_ble_eq_true rfl) ⟨by decide, by decide⟩ dX8_read_17 (aI1 (F := fun st M => P g X 5 20 [(0, .ref a0), (1, .int x1), (2, .int x2), (3, .int x3), (4, .int x4)] st _ _ M) (M := (K, len, I, J, R)) fun x32_ I32 h32 => ?_)
    obtain ⟨hs32, hf32, k32_0, k32_1⟩ := h32
    show P g X 5 20 [(0, .ref a0), (1, .int x1), (2, .int x2), (3, .int x3), (4, .int x4)] [.int x32_] _ _ (K, len, I32, J, R)
    have hF32 : Fr K [(4, 0), (9, 12), (46, 999), (47, 999), (65, 999), (66, 999)] I I32 := hF.trans hf32 rfl rfl
    have ro32 : ∀ b k, (K b = 46 ∨ K b = 47 ∨ K b = 65 ∨ K b = 66) → I32 b k = I b k := fun b k z => by have y := ro0 b k z; rcases z with z | z | z | z <;> exact (hf32.get z rfl).trans y
    have hv0 : I32 rd 0 = C0 := (Eq.trans (hf32.get krd rfl) eC0.symm)
    have hv0t : (I32 rd 0).toInt = C0.toInt := congrArg Int32.toInt hv0
    exact r_iret hC hQ hlk hr rfl (by decide) (by decide) dX8_read_20 ⟨_, _, rfl, rfl, ⟨hs32, hF32, (by first | exact Or.inr ⟨by omega, by omega, by omega⟩ | exact Or.inl ⟨by omega, by have h9 := congrArg Int32.toInt k32_0; omega, by omega⟩), (by first | (intro h9; exfalso; omega) | exact fun _ => NOrda), (by first | exact fun _ => ro32 | (intro h9; exfalso; omega)), (by omega)⟩⟩
set_option maxHeartbeats 4000000 in
set_option maxRecDepth 100000 in
theorem n_X10_read (g : GG) (l : Launch) (K len : Nat → Nat) (I : Nat → Nat → Int32) (J : Nat → Nat → Int64) (R : Nat → Nat → Option Nat) (hs : Sf K len I R) (a0 : Nat) (ka0 : K a0 = 11) (x1 : Int32) (x2 : Int32) (x3 : Int32) (x4 : Int32) : Ct g l yX10_read cX10_read 5 (Option.some Jvm.ClassFile.FieldType.int) rmX10_read [.ref a0, .int x1, .int x2, .int x3, .int x4] (K, len, I, J, R) (pI1 (K, len, I, J, R) (fun r I' => Sf K len I' R ∧ Fr K [(11, 0), (11, 1), (11, 2), (11, 20), (89, 999), (90, 999), (91, 999), (92, 999)] I I' ∧ ((R a0 3 = none ∧ r.toInt = -1 ∧ (I' a0 20).toInt = (I a0 20).toInt) ∨ (∃ hm, R a0 3 = some hm ∧ (((0 ≤ x1.toInt ∧ x1.toInt < (I hm 3).toInt ∧ 0 ≤ x2.toInt ∧ x2.toInt ≤ 59 ∧ 0 ≤ x3.toInt ∧ x3.toInt ≤ 99999 ∧ 0 ≤ x4.toInt ∧ x4.toInt ≤ 999 ∧ (I a0 20).toInt < 24) ∧ r.toInt = (I a0 20).toInt + 1 ∧ (I' a0 20).toInt = (I a0 20).toInt + 1) ∨ (¬ (0 ≤ x1.toInt ∧ x1.toInt < (I hm 3).toInt ∧ 0 ≤ x2.toInt ∧ x2.toInt ≤ 59 ∧ 0 ≤ x3.toInt ∧ x3.toInt ≤ 99999 ∧ 0 ≤ x4.toInt ∧ x4.toInt ≤ 999 ∧ (I a0 20).toInt < 24) ∧ r.toInt = -1 ∧ (I' a0 20).toInt = (I a0 20).toInt)))) ∧ (∀ E, RdA 21 E a0 I R (I a0 20).toInt → ((∃ hm, R a0 3 = some hm ∧ 0 ≤ x1.toInt ∧ x1.toInt < (I hm 3).toInt ∧ 0 ≤ x2.toInt ∧ x2.toInt ≤ 59 ∧ 0 ≤ x3.toInt ∧ x3.toInt ≤ 99999 ∧ 0 ≤ x4.toInt ∧ x4.toInt ≤ 999 ∧ (I a0 20).toInt < 24) → RdA 21 (apE E (I a0 20).toInt.toNat x1.toInt x2.toInt x3.toInt x4.toInt) a0 I' R ((I a0 20).toInt + 1)) ∧ (¬ (∃ hm, R a0 3 = some hm ∧ 0 ≤ x1.toInt ∧ x1.toInt < (I hm 3).toInt ∧ 0 ≤ x2.toInt ∧ x2.toInt ≤ 59 ∧ 0 ≤ x3.toInt ∧ x3.toInt ≤ 99999 ∧ 0 ≤ x4.toInt ∧ x4.toInt ≤ 999 ∧ (I a0 20).toInt < 24) → RdA 21 E a0 I' R (I a0 20).toInt)) ∧ ((I' a0 2).toInt = -1))) := by
  refine Ct_intro (by decide +kernel) (Nat.le_of_ble_eq_true rfl) (fun X hC hL hKK hNm hr hlk hQ => ?_)
  subst hL
  have hC : Cx g X cX10_read "HillTapModel" 5 rmX10_read := hC
  show P g X 5 0 [(0, .ref a0), (1, .int x1), (2, .int x2), (3, .int x3), (4, .int x4)] [] 0 0 (K, len, I, J, R)
  have hF : Fr K [(11, 0), (11, 1), (11, 2), (11, 20), (89, 999), (90, 999), (91, 999), (92, 999)] I I := Fr.refl
  obtain ⟨ua0, hua0, kua0, lua0⟩ := hs.row ka0 21 89 24 (by decide) (by decide)
  obtain ⟨ua1, hua1, kua1, lua1⟩ := hs.row ka0 22 90 24 (by decide) (by decide)
  obtain ⟨ua2, hua2, kua2, lua2⟩ := hs.row ka0 23 91 24 (by decide) (by decide)
  obtain ⟨ua3, hua3, kua3, lua3⟩ := hs.row ka0 24 92 24 (by decide) (by decide)
  have b_x1 := ti_rng x1
  have b_x2 := ti_rng x2
  have b_x3 := ti_rng x3
  have b_x4 := ti_rng x4
  obtain ⟨C0, eC0⟩ : ∃ z : Int32, z = I a0 20 := ⟨_, rfl⟩
  have fC0 : C0.toInt = (I a0 20).toInt := by rw [eC0]
  have rC0 := hs.rng ka0 rfl eC0
  rcases hs.2.1.2.2.1 a0 ka0 with hz | ⟨hm, hbm, khm⟩
  · have ro0 : ∀ k, k ≠ (I a0 20).toInt.toNat → I ua0 k = I ua0 k := fun _ _ => rfl
    have ro1 : ∀ k, k ≠ (I a0 20).toInt.toNat → I ua1 k = I ua1 k := fun _ _ => rfl
    have ro2 : ∀ k, k ≠ (I a0 20).toInt.toNat → I ua2 k = I ua2 k := fun _ _ => rfl
    have ro3 : ∀ k, k ≠ (I a0 20).toInt.toNat → I ua3 k = I ua3 k := fun _ _ => rfl
    refine r_aload_n hC dX10_read_0 0 rfl ?_
    refine r_iconst hC (v := (0)) dX10_read_1 (by decide) (by decide) (fun x1_ e1 t1 => ?_)
    refine r_puti hC 0 (ci := 10) rfl u10_in tyX10_ok nmX10 (by decide) mT_4_235 rfl rfl rfl dX10_read_2 ka0 rfl rfl (fun I2 eI2 => ?_)
    have hs2 := hs.put0 eI2 ka0 rfl rfl rfl (by decide)
    have hF2 := hF.put eI2 ka0 rfl
    have ro0_2 : ∀ k, k ≠ (I a0 20).toInt.toNat → I2 ua0 k = I ua0 k := fun k z => (up2_kk eI2 ka0 kua0 (by decide)).trans (ro0 k z)
    have ro1_2 : ∀ k, k ≠ (I a0 20).toInt.toNat → I2 ua1 k = I ua1 k := fun k z => (up2_kk eI2 ka0 kua1 (by decide)).trans (ro1 k z)
    have ro2_2 : ∀ k, k ≠ (I a0 20).toInt.toNat → I2 ua2 k = I ua2 k := fun k z => (up2_kk eI2 ka0 kua2 (by decide)).trans (ro2 k z)
    have ro3_2 : ∀ k, k ≠ (I a0 20).toInt.toNat → I2 ua3 k = I ua3 k := fun k z => (up2_kk eI2 ka0 kua3 (by decide)).trans (ro3 k z)
    refine r_aload_n hC dX10_read_5 0 rfl ?_
    refine r_iload_n hC dX10_read_6 1 rfl ?_
    refine r_callV hC (As := [.int x1]) (rest := []) (ci := 10) (f_X10_isPeg g (xL X) K len I2 J R hs2 a0 ka0 x1) mT_6_123 mT_1_10 mT_6_120 mT_6_122 mP_72 okX10_isPeg ⟨by decide, by decide⟩ rfl (by show kO (K a0) = _; rw [ka0]; rfl) rfl rfl (Nat.le_of_ble_eq_true rfl) ⟨by decide, by decide⟩ dX10_read_7 (aI0 (F := fun st M => P g X 5 10 [(0, .ref a0), (1, .int x1), (2, .int x2), (3, .int x3), (4, .int x4)] st _ _ M) (M := (K, len, I2, J, R)) fun x3_ h3 => ?_)
    have k3_0 := h3
    clear h3
    show P g X 5 10 [(0, .ref a0), (1, .int x1), (2, .int x2), (3, .int x3), (4, .int x4)] [.int x3_] _ _ (K, len, I2, J, R)
    have kq3 : x3_.toInt = 0 := by rcases k3_0 with ⟨z, y⟩ | ⟨hm9, z, y⟩; exact y; rw [hz] at z; cases z
    clear k3_0
    refine r_if_eq hC (tgt := 21) dX10_read_10 (by decide) (fun c4 => ?_) (fun c4 => ?_)
    rotate_left
    · exfalso; omega
    refine r_aload_n hC dX10_read_21 0 rfl ?_
    refine r_iconst hC (v := (1)) dX10_read_22 (by decide) (by decide) (fun x5_ e5 t5 => ?_)
    refine r_callV hC (As := [.int x5_]) (rest := []) (ci := 10) (c_X10_refused g (xL X) K len I2 J R hs2 a0 ka0 x5_) mT_5_85 mT_1_10 mT_5_82 mT_5_84 mP_48 okX10_refused ⟨by decide, by decide⟩ rfl (by show kO (K a0) = _; rw [ka0]; rfl) rfl rfl (Nat.le_of_ble_eq_true rfl) ⟨by decide, by decide⟩ dX10_read_23 (aI1 (F := fun st M => P g X 5 26 [(0, .ref a0), (1, .int x1), (2, .int x2), (3, .int x3), (4, .int x4)] st _ _ M) (M := (K, len, I2, J, R)) fun x6_ I6 h6 => ?_)
    obtain ⟨hs6, hf6, k6_0, k6_1, k6_2⟩ := h6
    show P g X 5 26 [(0, .ref a0), (1, .int x1), (2, .int x2), (3, .int x3), (4, .int x4)] [.int x6_] _ _ (K, len, I6, J, R)
    have hF6 : Fr K [(11, 0), (11, 1), (11, 2), (11, 20), (89, 999), (90, 999), (91, 999), (92, 999)] I I6 := hF2.trans hf6 rfl rfl
    have ro0_6 : ∀ k, k ≠ (I a0 20).toInt.toNat → I6 ua0 k = I ua0 k := fun k z => (hf6.get kua0 rfl).trans (ro0_2 k z)
    have ro1_6 : ∀ k, k ≠ (I a0 20).toInt.toNat → I6 ua1 k = I ua1 k := fun k z => (hf6.get kua1 rfl).trans (ro1_2 k z)
    have ro2_6 : ∀ k, k ≠ (I a0 20).toInt.toNat → I6 ua2 k = I ua2 k := fun k z => (hf6.get kua2 rfl).trans (ro2_2 k z)
    have ro3_6 : ∀ k, k ≠ (I a0 20).toInt.toNat → I6 ua3 k = I ua3 k := fun k z => (hf6.get kua3 rfl).trans (ro3_2 k z)
    have hv20 : I6 a0 20 = C0 := (Eq.trans (hf6.get ka0 rfl) (Eq.trans (up2_at (Or.inr (by decide)) eI2) eC0.symm))
    have hv20t : (I6 a0 20).toInt = C0.toInt := congrArg Int32.toInt hv20
    exact r_iret hC hQ hlk hr rfl (by decide) (by decide) dX10_read_26 ⟨_, _, rfl, rfl, ⟨hs6, hF6, (by first | exact Or.inl ⟨hz, by omega, by omega⟩ | exact Or.inr ⟨hm, hbm, Or.inr ⟨by omega, by omega, by omega⟩⟩ | exact Or.inr ⟨hm, hbm, Or.inl ⟨by omega, by have h9 := congrArg Int32.toInt k6_0; omega, by omega⟩⟩), (by first | (intro E hA; exact ⟨fun ⟨hm9, z9, y9⟩ => (by rw [hz] at z9; cases z9), fun _ => RdA_sm (c := (I a0 20).toInt.toNat) (by omega) hua0 hua1 hua2 hua3 ro0_6 ro1_6 ro2_6 ro3_6 hA⟩) | (intro E hA; refine ⟨fun _ => ?_, fun h9 => (h9 ⟨hm, hbm, by omega⟩).elim⟩; have h8 : (((I a0 20).toInt.toNat : Nat) : Int) = (I a0 20).toInt := Int.toNat_of_nonneg (by omega); have h7 := RdA_add (c := (I a0 20).toInt.toNat) hua0 hua1 hua2 hua3 NOva NOva NOva NOva ro0_6 ro1_6 ro2_6 ro3_6 (by rw [h8]; exact hA); rw [h8] at h7; exact h7) | (intro E hA; exact ⟨fun ⟨hm9, z9, y9⟩ => (by exfalso; rw [hbm] at z9; cases z9; omega), fun _ => RdA_sm (c := (I a0 20).toInt.toNat) (by omega) hua0 hua1 hua2 hua3 ro0_6 ro1_6 ro2_6 ro3_6 hA⟩)), (by omega)⟩⟩
  · obtain ⟨S0, eS0⟩ : ∃ z : Int32, z = I hm 7 := ⟨_, rfl⟩
    have fS0 : S0.toInt = (I hm 7).toInt := by rw [eS0]
    have rS0 := hs.rng khm rfl eS0
    have ro0 : ∀ k, k ≠ (I a0 20).toInt.toNat → I ua0 k = I ua0 k := fun _ _ => rfl
    have ro1 : ∀ k, k ≠ (I a0 20).toInt.toNat → I ua1 k = I ua1 k := fun _ _ => rfl
    have ro2 : ∀ k, k ≠ (I a0 20).toInt.toNat → I ua2 k = I ua2 k := fun _ _ => rfl
    have ro3 : ∀ k, k ≠ (I a0 20).toInt.toNat → I ua3 k = I ua3 k := fun _ _ => rfl
    obtain ⟨P3, eP3⟩ : ∃ z : Int32, z = I hm 3 := ⟨_, rfl⟩
    have fP3 : P3.toInt = (I hm 3).toInt := by rw [eP3]
    have rP3 := hs.rng khm rfl eP3
    refine r_aload_n hC dX10_read_0 0 rfl ?_
    refine r_iconst hC (v := (0)) dX10_read_1 (by decide) (by decide) (fun x7_ e7 t7 => ?_)
    refine r_puti hC 0 (ci := 10) rfl u10_in tyX10_ok nmX10 (by decide) mT_4_235 rfl rfl rfl dX10_read_2 ka0 rfl rfl (fun I8 eI8 => ?_)
    have hs8 := hs.put0 eI8 ka0 rfl rfl rfl (by decide)
    have hF8 := hF.put eI8 ka0 rfl
    have ro0_8 : ∀ k, k ≠ (I a0 20).toInt.toNat → I8 ua0 k = I ua0 k := fun k z => (up2_kk eI8 ka0 kua0 (by decide)).trans (ro0 k z)
    have ro1_8 : ∀ k, k ≠ (I a0 20).toInt.toNat → I8 ua1 k = I ua1 k := fun k z => (up2_kk eI8 ka0 kua1 (by decide)).trans (ro1 k z)
    have ro2_8 : ∀ k, k ≠ (I a0 20).toInt.toNat → I8 ua2 k = I ua2 k := fun k z => (up2_kk eI8 ka0 kua2 (by decide)).trans (ro2 k z)
    have ro3_8 : ∀ k, k ≠ (I a0 20).toInt.toNat → I8 ua3 k = I ua3 k := fun k z => (up2_kk eI8 ka0 kua3 (by decide)).trans (ro3 k z)
    refine r_aload_n hC dX10_read_5 0 rfl ?_
    refine r_iload_n hC dX10_read_6 1 rfl ?_
    refine r_callV hC (As := [.int x1]) (rest := []) (ci := 10) (f_X10_isPeg g (xL X) K len I8 J R hs8 a0 ka0 x1) mT_6_123 mT_1_10 mT_6_120 mT_6_122 mP_72 okX10_isPeg ⟨by decide, by decide⟩ rfl (by show kO (K a0) = _; rw [ka0]; rfl) rfl rfl (Nat.le_of_ble_eq_true rfl) ⟨by decide, by decide⟩ dX10_read_7 (aI0 (F := fun st M => P g X 5 10 [(0, .ref a0), (1, .int x1), (2, .int x2), (3, .int x3), (4, .int x4)] st _ _ M) (M := (K, len, I8, J, R)) fun x9_ h9 => ?_)
    have k9_0 := h9
    clear h9
    show P g X 5 10 [(0, .ref a0), (1, .int x1), (2, .int x2), (3, .int x3), (4, .int x4)] [.int x9_] _ _ (K, len, I8, J, R)
    have kq9 : x9_.toInt = 1 ∧ (0 ≤ x1.toInt ∧ x1.toInt < (I8 hm 3).toInt) ∨ x9_.toInt = 0 ∧ ¬ (0 ≤ x1.toInt ∧ x1.toInt < (I8 hm 3).toInt) := by rcases k9_0 with ⟨z, -⟩ | ⟨hm9, z, y⟩ <;> rw [hbm] at z <;> cases z; exact y
    have rq3_ : I8 hm 3 = P3 := (Eq.trans (up2_kk eI8 ka0 khm (by decide)) eP3.symm)
    have rq3_t : (I8 hm 3).toInt = P3.toInt := congrArg Int32.toInt rq3_
    clear k9_0
    refine r_if_eq hC (tgt := 21) dX10_read_10 (by decide) (fun c10 => ?_) (fun c10 => ?_)
    · refine r_aload_n hC dX10_read_21 0 rfl ?_
      refine r_iconst hC (v := (1)) dX10_read_22 (by decide) (by decide) (fun x11_ e11 t11 => ?_)
      refine r_callV hC (As := [.int x11_]) (rest := []) (ci := 10) (c_X10_refused g (xL X) K len I8 J R hs8 a0 ka0 x11_) mT_5_85 mT_1_10 mT_5_82 mT_5_84 mP_48 okX10_refused ⟨by decide, by decide⟩ rfl (by show kO (K a0) = _; rw [ka0]; rfl) rfl rfl (Nat.le_of_ble_eq_true rfl) ⟨by decide, by decide⟩ dX10_read_23 (aI1 (F := fun st M => P g X 5 26 [(0, .ref a0), (1, .int x1), (2, .int x2), (3, .int x3), (4, .int x4)] st _ _ M) (M := (K, len, I8, J, R)) fun x12_ I12 h12 => ?_)
      obtain ⟨hs12, hf12, k12_0, k12_1, k12_2⟩ := h12
      show P g X 5 26 [(0, .ref a0), (1, .int x1), (2, .int x2), (3, .int x3), (4, .int x4)] [.int x12_] _ _ (K, len, I12, J, R)
      have hF12 : Fr K [(11, 0), (11, 1), (11, 2), (11, 20), (89, 999), (90, 999), (91, 999), (92, 999)] I I12 := hF8.trans hf12 rfl rfl
      have ro0_12 : ∀ k, k ≠ (I a0 20).toInt.toNat → I12 ua0 k = I ua0 k := fun k z => (hf12.get kua0 rfl).trans (ro0_8 k z)
      have ro1_12 : ∀ k, k ≠ (I a0 20).toInt.toNat → I12 ua1 k = I ua1 k := fun k z => (hf12.get kua1 rfl).trans (ro1_8 k z)
      have ro2_12 : ∀ k, k ≠ (I a0 20).toInt.toNat → I12 ua2 k = I ua2 k := fun k z => (hf12.get kua2 rfl).trans (ro2_8 k z)
      have ro3_12 : ∀ k, k ≠ (I a0 20).toInt.toNat → I12 ua3 k = I ua3 k := fun k z => (hf12.get kua3 rfl).trans (ro3_8 k z)
      have hv20 : I12 a0 20 = C0 := (Eq.trans (hf12.get ka0 rfl) (Eq.trans (up2_at (Or.inr (by decide)) eI8) eC0.symm))
      have hv20t : (I12 a0 20).toInt = C0.toInt := congrArg Int32.toInt hv20
      exact r_iret hC hQ hlk hr rfl (by decide) (by decide) dX10_read_26 ⟨_, _, rfl, rfl, ⟨hs12, hF12, (by first | exact Or.inl ⟨hz, by omega, by omega⟩ | exact Or.inr ⟨hm, hbm, Or.inr ⟨by omega, by omega, by omega⟩⟩ | exact Or.inr ⟨hm, hbm, Or.inl ⟨by omega, by have h9 := congrArg Int32.toInt k12_0; omega, by omega⟩⟩), (by first | (intro E hA; exact ⟨fun ⟨hm9, z9, y9⟩ => (by rw [hz] at z9; cases z9), fun _ => RdA_sm (c := (I a0 20).toInt.toNat) (by omega) hua0 hua1 hua2 hua3 ro0_12 ro1_12 ro2_12 ro3_12 hA⟩) | (intro E hA; refine ⟨fun _ => ?_, fun h9 => (h9 ⟨hm, hbm, by omega⟩).elim⟩; have h8 : (((I a0 20).toInt.toNat : Nat) : Int) = (I a0 20).toInt := Int.toNat_of_nonneg (by omega); have h7 := RdA_add (c := (I a0 20).toInt.toNat) hua0 hua1 hua2 hua3 NOva NOva NOva NOva ro0_12 ro1_12 ro2_12 ro3_12 (by rw [h8]; exact hA); rw [h8] at h7; exact h7) | (intro E hA; exact ⟨fun ⟨hm9, z9, y9⟩ => (by exfalso; rw [hbm] at z9; cases z9; omega), fun _ => RdA_sm (c := (I a0 20).toInt.toNat) (by omega) hua0 hua1 hua2 hua3 ro0_12 ro1_12 ro2_12 ro3_12 hA⟩)), (by omega)⟩⟩
    · refine r_aload_n hC dX10_read_13 0 rfl ?_
      refine r_iload_n hC dX10_read_14 2 rfl ?_
      refine r_callV hC (As := [.int x2]) (rest := []) (ci := 10) (f_X10_isDay g (xL X) K len I8 J R hs8 a0 ka0 x2) mT_6_95 mT_1_10 mT_6_92 mT_6_94 mP_68 okX10_isDay ⟨by decide, by decide⟩ rfl (by show kO (K a0) = _; rw [ka0]; rfl) rfl rfl (Nat.le_of_ble_eq_true rfl) ⟨by decide, by decide⟩ dX10_read_15 (aI0 (F := fun st M => P g X 5 18 [(0, .ref a0), (1, .int x1), (2, .int x2), (3, .int x3), (4, .int x4)] st _ _ M) (M := (K, len, I8, J, R)) fun x13_ h13 => ?_)
      have k13_0 := h13
      clear h13
      show P g X 5 18 [(0, .ref a0), (1, .int x1), (2, .int x2), (3, .int x3), (4, .int x4)] [.int x13_] _ _ (K, len, I8, J, R)
      have kq13 : x13_.toInt = 1 ∧ (0 ≤ x2.toInt ∧ x2.toInt ≤ 59) ∨ x13_.toInt = 0 ∧ ¬ (0 ≤ x2.toInt ∧ x2.toInt ≤ 59) := by rcases k13_0 with ⟨z, -⟩ | ⟨hm9, z, y⟩ <;> rw [hbm] at z <;> cases z; exact y
      have rq3_ : I8 hm 3 = P3 := (Eq.trans (up2_kk eI8 ka0 khm (by decide)) eP3.symm)
      have rq3_t : (I8 hm 3).toInt = P3.toInt := congrArg Int32.toInt rq3_
      clear k13_0
      refine r_if_ne hC (tgt := 27) dX10_read_18 (by decide) (fun c14 => ?_) (fun c14 => ?_)
      · refine r_iload_n hC dX10_read_27 3 rfl ?_
        refine r_iconst hC (v := (0)) dX10_read_28 (by decide) (by decide) (fun x15_ e15 t15 => ?_)
        refine r_ldcw hC (n := 99999) (v := 99999) mT_6_172 dX10_read_29 (by decide) (fun x16_ e16 t16 => ?_)
        refine r_callS hC (As := [.int x3, .int x15_, .int x16_]) (rest := []) (f_X10_in g (xL X) K len I8 J R hs8 x3 x15_ x16_) mT_6_8 mT_1_10 mT_6_6 mT_6_7 okX10_in ⟨by decide, by decide⟩ rfl rfl (Nat.le_of_ble_eq_true rfl) ⟨by decide, by decide⟩ dX10_read_32 (aI0 (F := fun st M => P g X 5 35 [(0, .ref a0), (1, .int x1), (2, .int x2), (3, .int x3), (4, .int x4)] st _ _ M) (M := (K, len, I8, J, R)) fun x17_ h17 => ?_)
        have k17_0 := h17
        clear h17
        show P g X 5 35 [(0, .ref a0), (1, .int x1), (2, .int x2), (3, .int x3), (4, .int x4)] [.int x17_] _ _ (K, len, I8, J, R)
        rcases k17_0 with ⟨hr17, hw17⟩ | ⟨hr17, hw17⟩
        · refine r_if_eq hC (tgt := 50) dX10_read_35 (by decide) (fun c18 => ?_) (fun c18 => ?_)
          · exfalso; omega
          refine r_iload hC dX10_read_38 4 rfl ?_
          refine r_iconst hC (v := (0)) dX10_read_40 (by decide) (by decide) (fun x19_ e19 t19 => ?_)
          refine r_sipush hC (v := (999)) dX10_read_41 (by decide) (by decide) (fun x20_ e20 t20 => ?_)
          refine r_callS hC (As := [.int x4, .int x19_, .int x20_]) (rest := []) (f_X10_in g (xL X) K len I8 J R hs8 x4 x19_ x20_) mT_6_8 mT_1_10 mT_6_6 mT_6_7 okX10_in ⟨by decide, by decide⟩ rfl rfl (Nat.le_of_ble_eq_true rfl) ⟨by decide, by decide⟩ dX10_read_44 (aI0 (F := fun st M => P g X 5 47 [(0, .ref a0), (1, .int x1), (2, .int x2), (3, .int x3), (4, .int x4)] st _ _ M) (M := (K, len, I8, J, R)) fun x21_ h21 => ?_)
          have k21_0 := h21
          clear h21
          show P g X 5 47 [(0, .ref a0), (1, .int x1), (2, .int x2), (3, .int x3), (4, .int x4)] [.int x21_] _ _ (K, len, I8, J, R)
          rcases k21_0 with ⟨hr21, hw21⟩ | ⟨hr21, hw21⟩
          · refine r_if_ne hC (tgt := 56) dX10_read_47 (by decide) (fun c22 => ?_) (fun c22 => ?_)
            rotate_left
            · exfalso; omega
            refine r_aload_n hC dX10_read_56 0 rfl ?_
            refine r_geti hC 20 (ci := 10) rfl u10_in (by decide) mT_5_15 dX10_read_57 ka0 rfl rfl (fun x23_ e23 => ?_)
            have r23 := hs8.rng ka0 rfl e23
            have f23 : x23_.toInt = (I8 a0 20).toInt := by rw [e23]
            have w23 : x23_ = C0 := by rw [e23]; exact (Eq.trans (up2_at (Or.inr (by decide)) eI8) eC0.symm)
            have wt23 : x23_.toInt = C0.toInt := by rw [w23]
            refine r_bipush hC (v := (24)) dX10_read_60 (by decide) (by decide) (fun x24_ e24 t24 => ?_)
            refine r_icmp_ne hC (tgt := 71) dX10_read_62 (by decide) (fun c25 => ?_) (fun c25 => ?_)
            · refine r_aload_n hC dX10_read_71 0 rfl ?_
              refine r_getr hC 21 (ci := 10) rfl u10_in (by decide) mT_5_16 dX10_read_72 ka0 rfl rfl hua0 ?_
              refine r_aload_n hC dX10_read_75 0 rfl ?_
              refine r_geti hC 20 (ci := 10) rfl u10_in (by decide) mT_5_15 dX10_read_76 ka0 rfl rfl (fun x26_ e26 => ?_)
              have r26 := hs8.rng ka0 rfl e26
              have f26 : x26_.toInt = (I8 a0 20).toInt := by rw [e26]
              have w26 : x26_ = x23_ := by rw [e26]; exact e23.symm
              have wt26 : x26_.toInt = x23_.toInt := by rw [w26]
              refine r_iload_n hC dX10_read_79 1 rfl ?_
              refine x_iastore hC kua0 lua0 (by decide) rfl rfl dX10_read_80 (by omega) (by omega) (fun I27 eI27 => ?_)
              have hs27 := hs8.putA eI27 kua0 rfl (by omega) (by omega) (rng_arr (by decide)) (xF_arr (by decide)) (by decide)
              have hF27 := hF8.put eI27 kua0 (inS_arr rfl _)
              have eC27 := eI27
              rw [clx (i := x26_) rfl (by omega), show x26_.toInt.toNat = (I a0 20).toInt.toNat by omega] at eC27
              have ro1_27 : ∀ k, k ≠ (I a0 20).toInt.toNat → I27 ua1 k = I ua1 k := fun k z => (up2_kk eI27 kua0 kua1 (by decide)).trans (ro1_8 k z)
              have ro2_27 : ∀ k, k ≠ (I a0 20).toInt.toNat → I27 ua2 k = I ua2 k := fun k z => (up2_kk eI27 kua0 kua2 (by decide)).trans (ro2_8 k z)
              have ro3_27 : ∀ k, k ≠ (I a0 20).toInt.toNat → I27 ua3 k = I ua3 k := fun k z => (up2_kk eI27 kua0 kua3 (by decide)).trans (ro3_8 k z)
              have ro0_27 : ∀ k, k ≠ (I a0 20).toInt.toNat → I27 ua0 k = I ua0 k := fun k z => (show I27 ua0 k = I8 ua0 k by rw [eC27, up2_ne _ _ (Or.inr z)]).trans (ro0_8 k z)
              have va0_27 : (I27 ua0 (I a0 20).toInt.toNat).toInt = x1.toInt := by rw [eC27, up2_self]
              refine r_aload_n hC dX10_read_81 0 rfl ?_
              refine r_getr hC 22 (ci := 10) rfl u10_in (by decide) mT_5_17 dX10_read_82 ka0 rfl rfl hua1 ?_
              refine r_aload_n hC dX10_read_85 0 rfl ?_
              refine r_geti hC 20 (ci := 10) rfl u10_in (by decide) mT_5_15 dX10_read_86 ka0 rfl rfl (fun x28_ e28 => ?_)
              have r28 := hs27.rng ka0 rfl e28
              have f28 : x28_.toInt = (I27 a0 20).toInt := by rw [e28]
              have w28 : x28_ = x26_ := by rw [e28]; exact (Eq.trans (up2_kk eI27 kua0 ka0 (by decide)) e26.symm)
              have wt28 : x28_.toInt = x26_.toInt := by rw [w28]
              refine r_iload_n hC dX10_read_89 2 rfl ?_
              refine x_iastore hC kua1 lua1 (by decide) rfl rfl dX10_read_90 (by omega) (by omega) (fun I29 eI29 => ?_)
              have hs29 := hs27.putA eI29 kua1 rfl (by omega) (by omega) (rng_arr (by decide)) (xF_arr (by decide)) (by decide)
              have hF29 := hF27.put eI29 kua1 (inS_arr rfl _)
              have eC29 := eI29
              rw [clx (i := x28_) rfl (by omega), show x28_.toInt.toNat = (I a0 20).toInt.toNat by omega] at eC29
              have ro0_29 : ∀ k, k ≠ (I a0 20).toInt.toNat → I29 ua0 k = I ua0 k := fun k z => (up2_kk eI29 kua1 kua0 (by decide)).trans (ro0_27 k z)
              have va0_29 : (I29 ua0 (I a0 20).toInt.toNat).toInt = x1.toInt := by rw [up2_kk eI29 kua1 kua0 (by decide)]; exact va0_27
              have ro2_29 : ∀ k, k ≠ (I a0 20).toInt.toNat → I29 ua2 k = I ua2 k := fun k z => (up2_kk eI29 kua1 kua2 (by decide)).trans (ro2_27 k z)
              have ro3_29 : ∀ k, k ≠ (I a0 20).toInt.toNat → I29 ua3 k = I ua3 k := fun k z => (up2_kk eI29 kua1 kua3 (by decide)).trans (ro3_27 k z)
              have ro1_29 : ∀ k, k ≠ (I a0 20).toInt.toNat → I29 ua1 k = I ua1 k := fun k z => (show I29 ua1 k = I27 ua1 k by rw [eC29, up2_ne _ _ (Or.inr z)]).trans (ro1_27 k z)
              have va1_29 : (I29 ua1 (I a0 20).toInt.toNat).toInt = x2.toInt := by rw [eC29, up2_self]
              refine r_aload_n hC dX10_read_91 0 rfl ?_
              refine r_getr hC 23 (ci := 10) rfl u10_in (by decide) mT_5_18 dX10_read_92 ka0 rfl rfl hua2 ?_
              refine r_aload_n hC dX10_read_95 0 rfl ?_
              refine r_geti hC 20 (ci := 10) rfl u10_in (by decide) mT_5_15 dX10_read_96 ka0 rfl rfl (fun x30_ e30 => ?_)
              have r30 := hs29.rng ka0 rfl e30
              have f30 : x30_.toInt = (I29 a0 20).toInt := by rw [e30]
              have w30 : x30_ = x28_ := by rw [e30]; exact (Eq.trans (up2_kk eI29 kua1 ka0 (by decide)) e28.symm)
              have wt30 : x30_.toInt = x28_.toInt := by rw [w30]
              refine r_iload_n hC dX10_read_99 3 rfl ?_
              refine x_iastore hC kua2 lua2 (by decide) rfl rfl dX10_read_100 (by omega) (by omega) (fun I31 eI31 => ?_)
              have hs31 := hs29.put0 eI31 kua2 (rng_arr (by decide) _) rfl (xF_arr (by decide) _) (by decide)
              have hF31 := hF29.put eI31 kua2 (inS_arr rfl _)
              have eC31 := eI31
              rw [clx (i := x30_) rfl (by omega), show x30_.toInt.toNat = (I a0 20).toInt.toNat by omega] at eC31
              have ro0_31 : ∀ k, k ≠ (I a0 20).toInt.toNat → I31 ua0 k = I ua0 k := fun k z => (up2_kk eI31 kua2 kua0 (by decide)).trans (ro0_29 k z)
              have va0_31 : (I31 ua0 (I a0 20).toInt.toNat).toInt = x1.toInt := by rw [up2_kk eI31 kua2 kua0 (by decide)]; exact va0_29
              have ro1_31 : ∀ k, k ≠ (I a0 20).toInt.toNat → I31 ua1 k = I ua1 k := fun k z => (up2_kk eI31 kua2 kua1 (by decide)).trans (ro1_29 k z)
              have va1_31 : (I31 ua1 (I a0 20).toInt.toNat).toInt = x2.toInt := by rw [up2_kk eI31 kua2 kua1 (by decide)]; exact va1_29
              have ro3_31 : ∀ k, k ≠ (I a0 20).toInt.toNat → I31 ua3 k = I ua3 k := fun k z => (up2_kk eI31 kua2 kua3 (by decide)).trans (ro3_29 k z)
              have ro2_31 : ∀ k, k ≠ (I a0 20).toInt.toNat → I31 ua2 k = I ua2 k := fun k z => (show I31 ua2 k = I29 ua2 k by rw [eC31, up2_ne _ _ (Or.inr z)]).trans (ro2_29 k z)
              have va2_31 : (I31 ua2 (I a0 20).toInt.toNat).toInt = x3.toInt := by rw [eC31, up2_self]
              refine r_aload_n hC dX10_read_101 0 rfl ?_
              refine r_getr hC 24 (ci := 10) rfl u10_in (by decide) mT_5_19 dX10_read_102 ka0 rfl rfl hua3 ?_
              refine r_aload_n hC dX10_read_105 0 rfl ?_
              refine r_geti hC 20 (ci := 10) rfl u10_in (by decide) mT_5_15 dX10_read_106 ka0 rfl rfl (fun x32_ e32 => ?_)
              have r32 := hs31.rng ka0 rfl e32
              have f32 : x32_.toInt = (I31 a0 20).toInt := by rw [e32]
              have w32 : x32_ = x30_ := by rw [e32]; exact (Eq.trans (up2_kk eI31 kua2 ka0 (by decide)) e30.symm)
              have wt32 : x32_.toInt = x30_.toInt := by rw [w32]
              refine r_iload hC dX10_read_109 4 rfl ?_
              refine x_iastore hC kua3 lua3 (by decide) rfl rfl dX10_read_111 (by omega) (by omega) (fun I33 eI33 => ?_)
              have hs33 := hs31.put0 eI33 kua3 (rng_arr (by decide) _) rfl (xF_arr (by decide) _) (by decide)
              have hF33 := hF31.put eI33 kua3 (inS_arr rfl _)
              have eC33 := eI33
              rw [clx (i := x32_) rfl (by omega), show x32_.toInt.toNat = (I a0 20).toInt.toNat by omega] at eC33
              have ro0_33 : ∀ k, k ≠ (I a0 20).toInt.toNat → I33 ua0 k = I ua0 k := fun k z => (up2_kk eI33 kua3 kua0 (by decide)).trans (ro0_31 k z)
              have va0_33 : (I33 ua0 (I a0 20).toInt.toNat).toInt = x1.toInt := by rw [up2_kk eI33 kua3 kua0 (by decide)]; exact va0_31
              have ro1_33 : ∀ k, k ≠ (I a0 20).toInt.toNat → I33 ua1 k = I ua1 k := fun k z => (up2_kk eI33 kua3 kua1 (by decide)).trans (ro1_31 k z)
              have va1_33 : (I33 ua1 (I a0 20).toInt.toNat).toInt = x2.toInt := by rw [up2_kk eI33 kua3 kua1 (by decide)]; exact va1_31
              have ro2_33 : ∀ k, k ≠ (I a0 20).toInt.toNat → I33 ua2 k = I ua2 k := fun k z => (up2_kk eI33 kua3 kua2 (by decide)).trans (ro2_31 k z)
              have va2_33 : (I33 ua2 (I a0 20).toInt.toNat).toInt = x3.toInt := by rw [up2_kk eI33 kua3 kua2 (by decide)]; exact va2_31
              have ro3_33 : ∀ k, k ≠ (I a0 20).toInt.toNat → I33 ua3 k = I ua3 k := fun k z => (show I33 ua3 k = I31 ua3 k by rw [eC33, up2_ne _ _ (Or.inr z)]).trans (ro3_31 k z)
              have va3_33 : (I33 ua3 (I a0 20).toInt.toNat).toInt = x4.toInt := by rw [eC33, up2_self]
              refine r_aload_n hC dX10_read_112 0 rfl ?_
              refine r_dup hC dX10_read_113 rfl ?_
              refine r_geti hC 20 (ci := 10) rfl u10_in (by decide) mT_5_15 dX10_read_114 ka0 rfl rfl (fun x34_ e34 => ?_)
              have r34 := hs33.rng ka0 rfl e34
              have f34 : x34_.toInt = (I33 a0 20).toInt := by rw [e34]
              have w34 : x34_ = x32_ := by rw [e34]; exact (Eq.trans (up2_kk eI33 kua3 ka0 (by decide)) e32.symm)
              have wt34 : x34_.toInt = x32_.toInt := by rw [w34]
              refine r_iconst hC (v := (1)) dX10_read_117 (by decide) (by decide) (fun x35_ e35 t35 => ?_)
              refine r_iadd hC dX10_read_118 (fun x36_ e36 => ?_)
              try have t36 : x36_.toInt = x34_.toInt + x35_.toInt := by rw [e36]; exact ti_add (by omega) (by omega)
              refine r_puti hC 20 (ci := 10) rfl u10_in tyX10_ok nmX10 (by decide) mT_5_15 rfl rfl rfl dX10_read_119 ka0 rfl rfl (fun I37 eI37 => ?_)
              have hs37 := hs33.put1 eI37 ka0 rfl (by omega) (by omega) rfl rfl (by decide)
              have hF37 := hF33.put eI37 ka0 rfl
              have ro0_37 : ∀ k, k ≠ (I a0 20).toInt.toNat → I37 ua0 k = I ua0 k := fun k z => (up2_kk eI37 ka0 kua0 (by decide)).trans (ro0_33 k z)
              have va0_37 : (I37 ua0 (I a0 20).toInt.toNat).toInt = x1.toInt := by rw [up2_kk eI37 ka0 kua0 (by decide)]; exact va0_33
              have ro1_37 : ∀ k, k ≠ (I a0 20).toInt.toNat → I37 ua1 k = I ua1 k := fun k z => (up2_kk eI37 ka0 kua1 (by decide)).trans (ro1_33 k z)
              have va1_37 : (I37 ua1 (I a0 20).toInt.toNat).toInt = x2.toInt := by rw [up2_kk eI37 ka0 kua1 (by decide)]; exact va1_33
              have ro2_37 : ∀ k, k ≠ (I a0 20).toInt.toNat → I37 ua2 k = I ua2 k := fun k z => (up2_kk eI37 ka0 kua2 (by decide)).trans (ro2_33 k z)
              have va2_37 : (I37 ua2 (I a0 20).toInt.toNat).toInt = x3.toInt := by rw [up2_kk eI37 ka0 kua2 (by decide)]; exact va2_33
              have ro3_37 : ∀ k, k ≠ (I a0 20).toInt.toNat → I37 ua3 k = I ua3 k := fun k z => (up2_kk eI37 ka0 kua3 (by decide)).trans (ro3_33 k z)
              have va3_37 : (I37 ua3 (I a0 20).toInt.toNat).toInt = x4.toInt := by rw [up2_kk eI37 ka0 kua3 (by decide)]; exact va3_33
              refine r_aload_n hC dX10_read_122 0 rfl ?_
              refine r_aload_n hC dX10_read_123 0 rfl ?_
              refine r_geti hC 20 (ci := 10) rfl u10_in (by decide) mT_5_15 dX10_read_124 ka0 rfl rfl (fun x38_ e38 => ?_)
              have r38 := hs37.rng ka0 rfl e38
              have f38 : x38_.toInt = (I37 a0 20).toInt := by rw [e38]
              have w38 : x38_ = x36_ := by rw [e38]; exact (by rw [eI37]; exact up2_self _ _ _ _)
              have wt38 : x38_.toInt = x36_.toInt := by rw [w38]
              refine r_callV hC (As := [.int x38_]) (rest := []) (ci := 10) (c_X10_done g (xL X) K len I37 J R hs37 a0 ka0 x38_) mT_6_79 mT_1_10 mT_6_76 mT_6_78 mP_67 okX10_done ⟨by decide, by decide⟩ rfl (by show kO (K a0) = _; rw [ka0]; rfl) rfl rfl (Nat.le_of_ble_eq_true rfl) ⟨by decide, by decide⟩ dX10_read_127 (aI1 (F := fun st M => P g X 5 130 [(0, .ref a0), (1, .int x1), (2, .int x2), (3, .int x3), (4, .int x4)] st _ _ M) (M := (K, len, I37, J, R)) fun x39_ I39 h39 => ?_)
              obtain ⟨hs39, hf39, k39_0, k39_1, k39_2⟩ := h39
              show P g X 5 130 [(0, .ref a0), (1, .int x1), (2, .int x2), (3, .int x3), (4, .int x4)] [.int x39_] _ _ (K, len, I39, J, R)
              have hF39 : Fr K [(11, 0), (11, 1), (11, 2), (11, 20), (89, 999), (90, 999), (91, 999), (92, 999)] I I39 := hF37.trans hf39 rfl rfl
              have ro0_39 : ∀ k, k ≠ (I a0 20).toInt.toNat → I39 ua0 k = I ua0 k := fun k z => (hf39.get kua0 rfl).trans (ro0_37 k z)
              have va0_39 : (I39 ua0 (I a0 20).toInt.toNat).toInt = x1.toInt := by rw [hf39.get kua0 rfl]; exact va0_37
              have ro1_39 : ∀ k, k ≠ (I a0 20).toInt.toNat → I39 ua1 k = I ua1 k := fun k z => (hf39.get kua1 rfl).trans (ro1_37 k z)
              have va1_39 : (I39 ua1 (I a0 20).toInt.toNat).toInt = x2.toInt := by rw [hf39.get kua1 rfl]; exact va1_37
              have ro2_39 : ∀ k, k ≠ (I a0 20).toInt.toNat → I39 ua2 k = I ua2 k := fun k z => (hf39.get kua2 rfl).trans (ro2_37 k z)
              have va2_39 : (I39 ua2 (I a0 20).toInt.toNat).toInt = x3.toInt := by rw [hf39.get kua2 rfl]; exact va2_37
              have ro3_39 : ∀ k, k ≠ (I a0 20).toInt.toNat → I39 ua3 k = I ua3 k := fun k z => (hf39.get kua3 rfl).trans (ro3_37 k z)
              have va3_39 : (I39 ua3 (I a0 20).toInt.toNat).toInt = x4.toInt := by rw [hf39.get kua3 rfl]; exact va3_37
              have hv20 : I39 a0 20 = x38_ := (Eq.trans (hf39.get ka0 rfl) e38.symm)
              have hv20t : (I39 a0 20).toInt = x38_.toInt := congrArg Int32.toInt hv20
              exact r_iret hC hQ hlk hr rfl (by decide) (by decide) dX10_read_130 ⟨_, _, rfl, rfl, ⟨hs39, hF39, (by first | exact Or.inl ⟨hz, by omega, by omega⟩ | exact Or.inr ⟨hm, hbm, Or.inr ⟨by omega, by omega, by omega⟩⟩ | exact Or.inr ⟨hm, hbm, Or.inl ⟨by omega, by have h9 := congrArg Int32.toInt k39_0; omega, by omega⟩⟩), (by first | (intro E hA; exact ⟨fun ⟨hm9, z9, y9⟩ => (by rw [hz] at z9; cases z9), fun _ => RdA_sm (c := (I a0 20).toInt.toNat) (by omega) hua0 hua1 hua2 hua3 ro0_39 ro1_39 ro2_39 ro3_39 hA⟩) | (intro E hA; refine ⟨fun _ => ?_, fun h9 => (h9 ⟨hm, hbm, by omega⟩).elim⟩; have h8 : (((I a0 20).toInt.toNat : Nat) : Int) = (I a0 20).toInt := Int.toNat_of_nonneg (by omega); have h7 := RdA_add (c := (I a0 20).toInt.toNat) hua0 hua1 hua2 hua3 va0_39 va1_39 va2_39 va3_39 ro0_39 ro1_39 ro2_39 ro3_39 (by rw [h8]; exact hA); rw [h8] at h7; exact h7) | (intro E hA; exact ⟨fun ⟨hm9, z9, y9⟩ => (by exfalso; rw [hbm] at z9; cases z9; omega), fun _ => RdA_sm (c := (I a0 20).toInt.toNat) (by omega) hua0 hua1 hua2 hua3 ro0_39 ro1_39 ro2_39 ro3_39 hA⟩)), (by omega)⟩⟩
            · refine r_aload_n hC dX10_read_65 0 rfl ?_
              refine r_iconst hC (v := (3)) dX10_read_66 (by decide) (by decide) (fun x40_ e40 t40 => ?_)
              refine r_callV hC (As := [.int x40_]) (rest := []) (ci := 10) (c_X10_refused g (xL X) K len I8 J R hs8 a0 ka0 x40_) mT_5_85 mT_1_10 mT_5_82 mT_5_84 mP_48 okX10_refused ⟨by decide, by decide⟩ rfl (by show kO (K a0) = _; rw [ka0]; rfl) rfl rfl (Nat.le_of_ble_eq_true rfl) ⟨by decide, by decide⟩ dX10_read_67 (aI1 (F := fun st M => P g X 5 70 [(0, .ref a0), (1, .int x1), (2, .int x2), (3, .int x3), (4, .int x4)] st _ _ M) (M := (K, len, I8, J, R)) fun x41_ I41 h41 => ?_)
              obtain ⟨hs41, hf41, k41_0, k41_1, k41_2⟩ := h41
              show P g X 5 70 [(0, .ref a0), (1, .int x1), (2, .int x2), (3, .int x3), (4, .int x4)] [.int x41_] _ _ (K, len, I41, J, R)
              have hF41 : Fr K [(11, 0), (11, 1), (11, 2), (11, 20), (89, 999), (90, 999), (91, 999), (92, 999)] I I41 := hF8.trans hf41 rfl rfl
              have ro0_41 : ∀ k, k ≠ (I a0 20).toInt.toNat → I41 ua0 k = I ua0 k := fun k z => (hf41.get kua0 rfl).trans (ro0_8 k z)
              have ro1_41 : ∀ k, k ≠ (I a0 20).toInt.toNat → I41 ua1 k = I ua1 k := fun k z => (hf41.get kua1 rfl).trans (ro1_8 k z)
              have ro2_41 : ∀ k, k ≠ (I a0 20).toInt.toNat → I41 ua2 k = I ua2 k := fun k z => (hf41.get kua2 rfl).trans (ro2_8 k z)
              have ro3_41 : ∀ k, k ≠ (I a0 20).toInt.toNat → I41 ua3 k = I ua3 k := fun k z => (hf41.get kua3 rfl).trans (ro3_8 k z)
              have hv20 : I41 a0 20 = x23_ := (Eq.trans (hf41.get ka0 rfl) e23.symm)
              have hv20t : (I41 a0 20).toInt = x23_.toInt := congrArg Int32.toInt hv20
              exact r_iret hC hQ hlk hr rfl (by decide) (by decide) dX10_read_70 ⟨_, _, rfl, rfl, ⟨hs41, hF41, (by first | exact Or.inl ⟨hz, by omega, by omega⟩ | exact Or.inr ⟨hm, hbm, Or.inr ⟨by omega, by omega, by omega⟩⟩ | exact Or.inr ⟨hm, hbm, Or.inl ⟨by omega, by have h9 := congrArg Int32.toInt k41_0; omega, by omega⟩⟩), (by first | (intro E hA; exact ⟨fun ⟨hm9, z9, y9⟩ => (by rw [hz] at z9; cases z9), fun _ => RdA_sm (c := (I a0 20).toInt.toNat) (by omega) hua0 hua1 hua2 hua3 ro0_41 ro1_41 ro2_41 ro3_41 hA⟩) | (intro E hA; refine ⟨fun _ => ?_, fun h9 => (h9 ⟨hm, hbm, by omega⟩).elim⟩; have h8 : (((I a0 20).toInt.toNat : Nat) : Int) = (I a0 20).toInt := Int.toNat_of_nonneg (by omega); have h7 := RdA_add (c := (I a0 20).toInt.toNat) hua0 hua1 hua2 hua3 NOva NOva NOva NOva ro0_41 ro1_41 ro2_41 ro3_41 (by rw [h8]; exact hA); rw [h8] at h7; exact h7) | (intro E hA; exact ⟨fun ⟨hm9, z9, y9⟩ => (by exfalso; rw [hbm] at z9; cases z9; omega), fun _ => RdA_sm (c := (I a0 20).toInt.toNat) (by omega) hua0 hua1 hua2 hua3 ro0_41 ro1_41 ro2_41 ro3_41 hA⟩)), (by omega)⟩⟩
          · refine r_if_ne hC (tgt := 56) dX10_read_47 (by decide) (fun c42 => ?_) (fun c42 => ?_)
            · exfalso; omega
            refine r_aload_n hC dX10_read_50 0 rfl ?_
            refine r_iconst hC (v := (2)) dX10_read_51 (by decide) (by decide) (fun x43_ e43 t43 => ?_)
            refine r_callV hC (As := [.int x43_]) (rest := []) (ci := 10) (c_X10_refused g (xL X) K len I8 J R hs8 a0 ka0 x43_) mT_5_85 mT_1_10 mT_5_82 mT_5_84 mP_48 okX10_refused ⟨by decide, by decide⟩ rfl (by show kO (K a0) = _; rw [ka0]; rfl) rfl rfl (Nat.le_of_ble_eq_true rfl) ⟨by decide, by decide⟩ dX10_read_52 (aI1 (F := fun st M => P g X 5 55 [(0, .ref a0), (1, .int x1), (2, .int x2), (3, .int x3), (4, .int x4)] st _ _ M) (M := (K, len, I8, J, R)) fun x44_ I44 h44 => ?_)
            obtain ⟨hs44, hf44, k44_0, k44_1, k44_2⟩ := h44
            show P g X 5 55 [(0, .ref a0), (1, .int x1), (2, .int x2), (3, .int x3), (4, .int x4)] [.int x44_] _ _ (K, len, I44, J, R)
            have hF44 : Fr K [(11, 0), (11, 1), (11, 2), (11, 20), (89, 999), (90, 999), (91, 999), (92, 999)] I I44 := hF8.trans hf44 rfl rfl
            have ro0_44 : ∀ k, k ≠ (I a0 20).toInt.toNat → I44 ua0 k = I ua0 k := fun k z => (hf44.get kua0 rfl).trans (ro0_8 k z)
            have ro1_44 : ∀ k, k ≠ (I a0 20).toInt.toNat → I44 ua1 k = I ua1 k := fun k z => (hf44.get kua1 rfl).trans (ro1_8 k z)
            have ro2_44 : ∀ k, k ≠ (I a0 20).toInt.toNat → I44 ua2 k = I ua2 k := fun k z => (hf44.get kua2 rfl).trans (ro2_8 k z)
            have ro3_44 : ∀ k, k ≠ (I a0 20).toInt.toNat → I44 ua3 k = I ua3 k := fun k z => (hf44.get kua3 rfl).trans (ro3_8 k z)
            have hv20 : I44 a0 20 = C0 := (Eq.trans (hf44.get ka0 rfl) (Eq.trans (up2_at (Or.inr (by decide)) eI8) eC0.symm))
            have hv20t : (I44 a0 20).toInt = C0.toInt := congrArg Int32.toInt hv20
            exact r_iret hC hQ hlk hr rfl (by decide) (by decide) dX10_read_55 ⟨_, _, rfl, rfl, ⟨hs44, hF44, (by first | exact Or.inl ⟨hz, by omega, by omega⟩ | exact Or.inr ⟨hm, hbm, Or.inr ⟨by omega, by omega, by omega⟩⟩ | exact Or.inr ⟨hm, hbm, Or.inl ⟨by omega, by have h9 := congrArg Int32.toInt k44_0; omega, by omega⟩⟩), (by first | (intro E hA; exact ⟨fun ⟨hm9, z9, y9⟩ => (by rw [hz] at z9; cases z9), fun _ => RdA_sm (c := (I a0 20).toInt.toNat) (by omega) hua0 hua1 hua2 hua3 ro0_44 ro1_44 ro2_44 ro3_44 hA⟩) | (intro E hA; refine ⟨fun _ => ?_, fun h9 => (h9 ⟨hm, hbm, by omega⟩).elim⟩; have h8 : (((I a0 20).toInt.toNat : Nat) : Int) = (I a0 20).toInt := Int.toNat_of_nonneg (by omega); have h7 := RdA_add (c := (I a0 20).toInt.toNat) hua0 hua1 hua2 hua3 NOva NOva NOva NOva ro0_44 ro1_44 ro2_44 ro3_44 (by rw [h8]; exact hA); rw [h8] at h7; exact h7) | (intro E hA; exact ⟨fun ⟨hm9, z9, y9⟩ => (by exfalso; rw [hbm] at z9; cases z9; omega), fun _ => RdA_sm (c := (I a0 20).toInt.toNat) (by omega) hua0 hua1 hua2 hua3 ro0_44 ro1_44 ro2_44 ro3_44 hA⟩)), (by omega)⟩⟩
        · refine r_if_eq hC (tgt := 50) dX10_read_35 (by decide) (fun c45 => ?_) (fun c45 => ?_)
          rotate_left
          · exfalso; omega
          refine r_aload_n hC dX10_read_50 0 rfl ?_
          refine r_iconst hC (v := (2)) dX10_read_51 (by decide) (by decide) (fun x46_ e46 t46 => ?_)
          refine r_callV hC (As := [.int x46_]) (rest := []) (ci := 10) (c_X10_refused g (xL X) K len I8 J R hs8 a0 ka0 x46_) mT_5_85 mT_1_10 mT_5_82 mT_5_84 mP_48 okX10_refused ⟨by decide, by decide⟩ rfl (by show kO (K a0) = _; rw [ka0]; rfl) rfl rfl (Nat.le_of_ble_eq_true rfl) ⟨by decide, by decide⟩ dX10_read_52 (aI1 (F := fun st M => P g X 5 55 [(0, .ref a0), (1, .int x1), (2, .int x2), (3, .int x3), (4, .int x4)] st _ _ M) (M := (K, len, I8, J, R)) fun x47_ I47 h47 => ?_)
          obtain ⟨hs47, hf47, k47_0, k47_1, k47_2⟩ := h47
          show P g X 5 55 [(0, .ref a0), (1, .int x1), (2, .int x2), (3, .int x3), (4, .int x4)] [.int x47_] _ _ (K, len, I47, J, R)
          have hF47 : Fr K [(11, 0), (11, 1), (11, 2), (11, 20), (89, 999), (90, 999), (91, 999), (92, 999)] I I47 := hF8.trans hf47 rfl rfl
          have ro0_47 : ∀ k, k ≠ (I a0 20).toInt.toNat → I47 ua0 k = I ua0 k := fun k z => (hf47.get kua0 rfl).trans (ro0_8 k z)
          have ro1_47 : ∀ k, k ≠ (I a0 20).toInt.toNat → I47 ua1 k = I ua1 k := fun k z => (hf47.get kua1 rfl).trans (ro1_8 k z)
          have ro2_47 : ∀ k, k ≠ (I a0 20).toInt.toNat → I47 ua2 k = I ua2 k := fun k z => (hf47.get kua2 rfl).trans (ro2_8 k z)
          have ro3_47 : ∀ k, k ≠ (I a0 20).toInt.toNat → I47 ua3 k = I ua3 k := fun k z => (hf47.get kua3 rfl).trans (ro3_8 k z)
          have hv20 : I47 a0 20 = C0 := (Eq.trans (hf47.get ka0 rfl) (Eq.trans (up2_at (Or.inr (by decide)) eI8) eC0.symm))
          have hv20t : (I47 a0 20).toInt = C0.toInt := congrArg Int32.toInt hv20
          exact r_iret hC hQ hlk hr rfl (by decide) (by decide) dX10_read_55 ⟨_, _, rfl, rfl, ⟨hs47, hF47, (by first | exact Or.inl ⟨hz, by omega, by omega⟩ | exact Or.inr ⟨hm, hbm, Or.inr ⟨by omega, by omega, by omega⟩⟩ | exact Or.inr ⟨hm, hbm, Or.inl ⟨by omega, by have h9 := congrArg Int32.toInt k47_0; omega, by omega⟩⟩), (by first | (intro E hA; exact ⟨fun ⟨hm9, z9, y9⟩ => (by rw [hz] at z9; cases z9), fun _ => RdA_sm (c := (I a0 20).toInt.toNat) (by omega) hua0 hua1 hua2 hua3 ro0_47 ro1_47 ro2_47 ro3_47 hA⟩) | (intro E hA; refine ⟨fun _ => ?_, fun h9 => (h9 ⟨hm, hbm, by omega⟩).elim⟩; have h8 : (((I a0 20).toInt.toNat : Nat) : Int) = (I a0 20).toInt := Int.toNat_of_nonneg (by omega); have h7 := RdA_add (c := (I a0 20).toInt.toNat) hua0 hua1 hua2 hua3 NOva NOva NOva NOva ro0_47 ro1_47 ro2_47 ro3_47 (by rw [h8]; exact hA); rw [h8] at h7; exact h7) | (intro E hA; exact ⟨fun ⟨hm9, z9, y9⟩ => (by exfalso; rw [hbm] at z9; cases z9; omega), fun _ => RdA_sm (c := (I a0 20).toInt.toNat) (by omega) hua0 hua1 hua2 hua3 ro0_47 ro1_47 ro2_47 ro3_47 hA⟩)), (by omega)⟩⟩
      · refine r_aload_n hC dX10_read_21 0 rfl ?_
        refine r_iconst hC (v := (1)) dX10_read_22 (by decide) (by decide) (fun x48_ e48 t48 => ?_)
        refine r_callV hC (As := [.int x48_]) (rest := []) (ci := 10) (c_X10_refused g (xL X) K len I8 J R hs8 a0 ka0 x48_) mT_5_85 mT_1_10 mT_5_82 mT_5_84 mP_48 okX10_refused ⟨by decide, by decide⟩ rfl (by show kO (K a0) = _; rw [ka0]; rfl) rfl rfl (Nat.le_of_ble_eq_true rfl) ⟨by decide, by decide⟩ dX10_read_23 (aI1 (F := fun st M => P g X 5 26 [(0, .ref a0), (1, .int x1), (2, .int x2), (3, .int x3), (4, .int x4)] st _ _ M) (M := (K, len, I8, J, R)) fun x49_ I49 h49 => ?_)
        obtain ⟨hs49, hf49, k49_0, k49_1, k49_2⟩ := h49
        show P g X 5 26 [(0, .ref a0), (1, .int x1), (2, .int x2), (3, .int x3), (4, .int x4)] [.int x49_] _ _ (K, len, I49, J, R)
        have hF49 : Fr K [(11, 0), (11, 1), (11, 2), (11, 20), (89, 999), (90, 999), (91, 999), (92, 999)] I I49 := hF8.trans hf49 rfl rfl
        have ro0_49 : ∀ k, k ≠ (I a0 20).toInt.toNat → I49 ua0 k = I ua0 k := fun k z => (hf49.get kua0 rfl).trans (ro0_8 k z)
        have ro1_49 : ∀ k, k ≠ (I a0 20).toInt.toNat → I49 ua1 k = I ua1 k := fun k z => (hf49.get kua1 rfl).trans (ro1_8 k z)
        have ro2_49 : ∀ k, k ≠ (I a0 20).toInt.toNat → I49 ua2 k = I ua2 k := fun k z => (hf49.get kua2 rfl).trans (ro2_8 k z)
        have ro3_49 : ∀ k, k ≠ (I a0 20).toInt.toNat → I49 ua3 k = I ua3 k := fun k z => (hf49.get kua3 rfl).trans (ro3_8 k z)
        have hv20 : I49 a0 20 = C0 := (Eq.trans (hf49.get ka0 rfl) (Eq.trans (up2_at (Or.inr (by decide)) eI8) eC0.symm))
        have hv20t : (I49 a0 20).toInt = C0.toInt := congrArg Int32.toInt hv20
        exact r_iret hC hQ hlk hr rfl (by decide) (by decide) dX10_read_26 ⟨_, _, rfl, rfl, ⟨hs49, hF49, (by first | exact Or.inl ⟨hz, by omega, by omega⟩ | exact Or.inr ⟨hm, hbm, Or.inr ⟨by omega, by omega, by omega⟩⟩ | exact Or.inr ⟨hm, hbm, Or.inl ⟨by omega, by have h9 := congrArg Int32.toInt k49_0; omega, by omega⟩⟩), (by first | (intro E hA; exact ⟨fun ⟨hm9, z9, y9⟩ => (by rw [hz] at z9; cases z9), fun _ => RdA_sm (c := (I a0 20).toInt.toNat) (by omega) hua0 hua1 hua2 hua3 ro0_49 ro1_49 ro2_49 ro3_49 hA⟩) | (intro E hA; refine ⟨fun _ => ?_, fun h9 => (h9 ⟨hm, hbm, by omega⟩).elim⟩; have h8 : (((I a0 20).toInt.toNat : Nat) : Int) = (I a0 20).toInt := Int.toNat_of_nonneg (by omega); have h7 := RdA_add (c := (I a0 20).toInt.toNat) hua0 hua1 hua2 hua3 NOva NOva NOva NOva ro0_49 ro1_49 ro2_49 ro3_49 (by rw [h8]; exact hA); rw [h8] at h7; exact h7) | (intro E hA; exact ⟨fun ⟨hm9, z9, y9⟩ => (by exfalso; rw [hbm] at z9; cases z9; omega), fun _ => RdA_sm (c := (I a0 20).toInt.toNat) (by omega) hua0 hua1 hua2 hua3 ro0_49 ro1_49 ro2_49 ro3_49 hA⟩)), (by omega)⟩⟩

