set_option maxHeartbeats 4000000 in
set_option maxRecDepth 100000 in
theorem f_X7_takeLetters (g : GG) (l : Launch) (K len : Nat → Nat) (I : Nat → Nat → Int32) (J : Nat → Nat → Int64) (R : Nat → Nat → Option Nat) (hs : Sf K len I R) (a0 : Nat) (ka0 : K a0 = 8) (tp : Nat) (bt : Nat) (hbt : R a0 0 = some tp) (hkt : K tp = 6) (hbb : R tp 0 = some bt) (hkb : K bt = 40) (nbt : len bt = 900) (B : Nat → Int) (n : Nat) (hB : BT B n bt I) (hn : n ≤ 900) (q : Nat) (p0 : (I a0 4).toInt = q) (p1 : (I a0 2).toInt = q) (p2 : (I a0 1).toInt = n) (p3 : q < n) (p4 : (J a0 5).toInt = 0) : Ct g l yX7_takeLetters cX7_takeLetters 2 (Option.none : Option Jvm.ClassFile.FieldType) rmX7_takeLetters [.ref a0] (K, len, I, J, R) (pV2 (K, len, I, J, R) (fun I' J' => Sf K len I' R ∧ Fr K [(8, 2), (8, 3)] I I' ∧ Fr K [(8, 5)] J J' ∧ ((I' a0 2).toInt = rn (fL B) n q) ∧ ((I' a0 3).toInt = (if rn (fL B) n q ≤ q + 8 then 1 else 4)) ∧ (rn (fL B) n q ≤ q + 8 → (J' a0 5).toInt = wv B q (rn (fL B) n q - q)))) := by
  refine Ct_intro (by decide +kernel) (Nat.le_of_ble_eq_true rfl) (fun X hC hL hKK hNm hr hlk hQ => ?_)
  subst hL
  have hC : Cx g X cX7_takeLetters "HillTap$Tokens" 2 rmX7_takeLetters := hC
  show P g X 2 0 [(0, .ref a0)] [] 0 0 (K, len, I, J, R)
  have hF : Fr K [(8, 2), (8, 3)] I I := Fr.refl
  have hFJ : Fr K [(8, 5)] J J := Fr.refl
  obtain ⟨N0, eN0⟩ : ∃ z : Int32, z = I a0 1 := ⟨_, rfl⟩
  have fN0 : N0.toInt = (I a0 1).toInt := by rw [eN0]
  have rN0 := hs.rng ka0 rfl eN0
  obtain ⟨P0, eP0⟩ : ∃ z : Int32, z = I a0 4 := ⟨_, rfl⟩
  have fP0 : P0.toInt = (I a0 4).toInt := by rw [eP0]
  have rP0 := hs.rng ka0 rfl eP0
  refine r_aload_n hC dX7_takeLetters_0 0 rfl ?_
  refine r_geti hC 4 (ci := 7) rfl u7_in (by decide) mT_1_63 dX7_takeLetters_1 ka0 rfl rfl (fun x1_ e1 => ?_)
  have r1 := hs.rng ka0 rfl e1
  have f1 : x1_.toInt = (I a0 4).toInt := by rw [e1]
  have w1 : x1_ = P0 := by rw [e1]; exact eP0.symm
  have wt1 : x1_.toInt = P0.toInt := by rw [w1]
  refine r_istore_n hC (lv' := [(1, .int x1_), (0, .ref a0)]) dX7_takeLetters_4 (by decide) rfl ?_
  have LP2 : ∀ (mu : Nat) (x2_1 : Int32) (I2 : Nat → Nat → Int32) (J2 : Nat → Nat → Int64) (hs2 : Sf K len I2 R) (hF2 : Fr K [(8, 2), (8, 3)] I I2) (hFJ2 : Fr K [(8, 5)] J J2) (v2_0 : q ≤ x2_1.toInt) (v2_1 : x2_1.toInt ≤ n) (v2_2 : (I2 a0 2).toInt = x2_1.toInt) (v2_3 : ∀ j : Nat, q ≤ j → (j : Int) < x2_1.toInt → fL B j = true) (v2_4 : x2_1.toInt ≤ q + 8 → (J2 a0 5).toInt = wv B q (x2_1.toInt - q).toNat), (n - x2_1.toInt).toNat = mu → P g X 2 5 [(0, .ref a0), (1, .int x2_1)] [] 0 0 (K, len, I2, J2, R) := by
    intro mu; induction mu using Nat.strongRecOn with | ind mu ih => ?_
    intro x2_1 I2 J2 hs2 hF2 hFJ2 v2_0 v2_1 v2_2 v2_3 v2_4 hmu
    have ih2 := ih
    clear ih
    have hmu2 := hmu
    clear hmu
    refine r_iload_n hC dX7_takeLetters_5 1 rfl ?_
    refine r_aload_n hC dX7_takeLetters_6 0 rfl ?_
    refine r_geti hC 1 (ci := 7) rfl u7_in (by decide) mT_1_60 dX7_takeLetters_7 ka0 rfl rfl (fun x3_ e3 => ?_)
    have r3 := hs2.rng ka0 rfl e3
    have f3 : x3_.toInt = (I2 a0 1).toInt := by rw [e3]
    have w3 : x3_ = N0 := by rw [e3]; exact (Eq.trans (hF2.get ka0 rfl) eN0.symm)
    have wt3 : x3_.toInt = N0.toInt := by rw [w3]
    refine r_icmp_ge hC (tgt := 80) dX7_takeLetters_10 (by decide) (fun c4 => ?_) (fun c4 => ?_)
    · have hrn : (rn (fL B) n q : Int) = x2_1.toInt := rn_at (by omega) (by omega) v2_3 (fun h9 => fL_f.mpr (by omega))
      refine r_aload_n hC dX7_takeLetters_80 0 rfl ?_
      refine r_aload_n hC dX7_takeLetters_81 0 rfl ?_
      refine r_geti hC 2 (ci := 7) rfl u7_in (by decide) mT_1_61 dX7_takeLetters_82 ka0 rfl rfl (fun x5_ e5 => ?_)
      have r5 := hs2.rng ka0 rfl e5
      have f5 : x5_.toInt = (I2 a0 2).toInt := by rw [e5]
      refine r_aload_n hC dX7_takeLetters_85 0 rfl ?_
      refine r_geti hC 4 (ci := 7) rfl u7_in (by decide) mT_1_63 dX7_takeLetters_86 ka0 rfl rfl (fun x6_ e6 => ?_)
      have r6 := hs2.rng ka0 rfl e6
      have f6 : x6_.toInt = (I2 a0 4).toInt := by rw [e6]
      have w6 : x6_ = x1_ := by rw [e6]; exact (Eq.trans (hF2.get ka0 rfl) e1.symm)
      have wt6 : x6_.toInt = x1_.toInt := by rw [w6]
      refine r_isub hC dX7_takeLetters_89 (fun x7_ e7 => ?_)
      try have t7 : x7_.toInt = x5_.toInt - x6_.toInt := by rw [e7]; exact ti_sub (by omega) (by omega)
      refine r_bipush hC (v := (8)) dX7_takeLetters_90 (by decide) (by decide) (fun x8_ e8 t8 => ?_)
      refine r_icmp_gt hC (tgt := 99) dX7_takeLetters_92 (by decide) (fun c9 => ?_) (fun c9 => ?_)
      · refine r_iconst hC (v := (4)) dX7_takeLetters_99 (by decide) (by decide) (fun x10_ e10 t10 => ?_)
        refine r_puti hC 3 (ci := 7) rfl u7_in tyX7_ok nmX7 (by decide) mT_1_62 rfl rfl rfl dX7_takeLetters_100 ka0 rfl rfl (fun I11 eI11 => ?_)
        have hs11 := hs2.put0 eI11 ka0 rfl rfl rfl (by decide)
        have hF11 := hF2.put eI11 ka0 rfl
        have hv2 : I11 a0 2 = x5_ := (Eq.trans (up2_at (Or.inr (by decide)) eI11) e5.symm)
        have hv2t : (I11 a0 2).toInt = x5_.toInt := congrArg Int32.toInt hv2
        have hv3 : I11 a0 3 = x10_ := (by rw [eI11]; exact up2_self _ _ _ _)
        have hv3t : (I11 a0 3).toInt = x10_.toInt := congrArg Int32.toInt hv3
        exact r_vret hC hQ hlk hr (by decide) (by decide) dX7_takeLetters_103 ⟨_, _, rfl, rfl, ⟨hs11, hF11, hFJ2, (by omega), (by split <;> omega), (by intro h9; rw [show rn (fL B) n q - q = (x2_1.toInt - q).toNat by omega]; exact v2_4 (by omega))⟩⟩
      · refine r_iconst hC (v := (1)) dX7_takeLetters_95 (by decide) (by decide) (fun x12_ e12 t12 => ?_)
        refine r_goto hC (tgt := 100) dX7_takeLetters_96 (by decide) ?_
        refine r_puti hC 3 (ci := 7) rfl u7_in tyX7_ok nmX7 (by decide) mT_1_62 rfl rfl rfl dX7_takeLetters_100 ka0 rfl rfl (fun I13 eI13 => ?_)
        have hs13 := hs2.put0 eI13 ka0 rfl rfl rfl (by decide)
        have hF13 := hF2.put eI13 ka0 rfl
        have hv2 : I13 a0 2 = x5_ := (Eq.trans (up2_at (Or.inr (by decide)) eI13) e5.symm)
        have hv2t : (I13 a0 2).toInt = x5_.toInt := congrArg Int32.toInt hv2
        have hv3 : I13 a0 3 = x12_ := (by rw [eI13]; exact up2_self _ _ _ _)
        have hv3t : (I13 a0 3).toInt = x12_.toInt := congrArg Int32.toInt hv3
        exact r_vret hC hQ hlk hr (by decide) (by decide) dX7_takeLetters_103 ⟨_, _, rfl, rfl, ⟨hs13, hF13, hFJ2, (by omega), (by split <;> omega), (by intro h9; rw [show rn (fL B) n q - q = (x2_1.toInt - q).toNat by omega]; exact v2_4 (by omega))⟩⟩
    · refine r_aload_n hC dX7_takeLetters_13 0 rfl ?_
      refine r_getr hC 0 (ci := 7) rfl u7_in (by decide) mT_1_59 dX7_takeLetters_14 ka0 rfl rfl hbt ?_
      refine r_getr hC 0 (ci := 5) rfl u5_in (by decide) mT_1_37 dX7_takeLetters_17 hkt rfl rfl hbb ?_
      refine r_iload_n hC dX7_takeLetters_20 1 rfl ?_
      refine x_baload hC hkb nbt (by decide) rfl rfl dX7_takeLetters_21 (by omega) (by omega) (fun x14_ e14 => ?_)
      have B14 := (hB.mv hF2 hkb (fun _ => rfl)).at e14 (by omega) (by omega)
      refine r_bipush hC (v := (97)) dX7_takeLetters_22 (by decide) (by decide) (fun x15_ e15 t15 => ?_)
      refine r_icmp_lt hC (tgt := 80) dX7_takeLetters_24 (by decide) (fun c16 => ?_) (fun c16 => ?_)
      · have hrn : (rn (fL B) n q : Int) = x2_1.toInt := rn_at (by omega) (by omega) v2_3 (fun h9 => fL_f.mpr (by omega))
        refine r_aload_n hC dX7_takeLetters_80 0 rfl ?_
        refine r_aload_n hC dX7_takeLetters_81 0 rfl ?_
        refine r_geti hC 2 (ci := 7) rfl u7_in (by decide) mT_1_61 dX7_takeLetters_82 ka0 rfl rfl (fun x17_ e17 => ?_)
        have r17 := hs2.rng ka0 rfl e17
        have f17 : x17_.toInt = (I2 a0 2).toInt := by rw [e17]
        refine r_aload_n hC dX7_takeLetters_85 0 rfl ?_
        refine r_geti hC 4 (ci := 7) rfl u7_in (by decide) mT_1_63 dX7_takeLetters_86 ka0 rfl rfl (fun x18_ e18 => ?_)
        have r18 := hs2.rng ka0 rfl e18
        have f18 : x18_.toInt = (I2 a0 4).toInt := by rw [e18]
        have w18 : x18_ = x1_ := by rw [e18]; exact (Eq.trans (hF2.get ka0 rfl) e1.symm)
        have wt18 : x18_.toInt = x1_.toInt := by rw [w18]
        refine r_isub hC dX7_takeLetters_89 (fun x19_ e19 => ?_)
        try have t19 : x19_.toInt = x17_.toInt - x18_.toInt := by rw [e19]; exact ti_sub (by omega) (by omega)
        refine r_bipush hC (v := (8)) dX7_takeLetters_90 (by decide) (by decide) (fun x20_ e20 t20 => ?_)
        refine r_icmp_gt hC (tgt := 99) dX7_takeLetters_92 (by decide) (fun c21 => ?_) (fun c21 => ?_)
        · refine r_iconst hC (v := (4)) dX7_takeLetters_99 (by decide) (by decide) (fun x22_ e22 t22 => ?_)
          refine r_puti hC 3 (ci := 7) rfl u7_in tyX7_ok nmX7 (by decide) mT_1_62 rfl rfl rfl dX7_takeLetters_100 ka0 rfl rfl (fun I23 eI23 => ?_)
          have hs23 := hs2.put0 eI23 ka0 rfl rfl rfl (by decide)
          have hF23 := hF2.put eI23 ka0 rfl
          have hv2 : I23 a0 2 = x17_ := (Eq.trans (up2_at (Or.inr (by decide)) eI23) e17.symm)
          have hv2t : (I23 a0 2).toInt = x17_.toInt := congrArg Int32.toInt hv2
          have hv3 : I23 a0 3 = x22_ := (by rw [eI23]; exact up2_self _ _ _ _)
          have hv3t : (I23 a0 3).toInt = x22_.toInt := congrArg Int32.toInt hv3
          exact r_vret hC hQ hlk hr (by decide) (by decide) dX7_takeLetters_103 ⟨_, _, rfl, rfl, ⟨hs23, hF23, hFJ2, (by omega), (by split <;> omega), (by intro h9; rw [show rn (fL B) n q - q = (x2_1.toInt - q).toNat by omega]; exact v2_4 (by omega))⟩⟩
        · refine r_iconst hC (v := (1)) dX7_takeLetters_95 (by decide) (by decide) (fun x24_ e24 t24 => ?_)
          refine r_goto hC (tgt := 100) dX7_takeLetters_96 (by decide) ?_
          refine r_puti hC 3 (ci := 7) rfl u7_in tyX7_ok nmX7 (by decide) mT_1_62 rfl rfl rfl dX7_takeLetters_100 ka0 rfl rfl (fun I25 eI25 => ?_)
          have hs25 := hs2.put0 eI25 ka0 rfl rfl rfl (by decide)
          have hF25 := hF2.put eI25 ka0 rfl
          have hv2 : I25 a0 2 = x17_ := (Eq.trans (up2_at (Or.inr (by decide)) eI25) e17.symm)
          have hv2t : (I25 a0 2).toInt = x17_.toInt := congrArg Int32.toInt hv2
          have hv3 : I25 a0 3 = x24_ := (by rw [eI25]; exact up2_self _ _ _ _)
          have hv3t : (I25 a0 3).toInt = x24_.toInt := congrArg Int32.toInt hv3
          exact r_vret hC hQ hlk hr (by decide) (by decide) dX7_takeLetters_103 ⟨_, _, rfl, rfl, ⟨hs25, hF25, hFJ2, (by omega), (by split <;> omega), (by intro h9; rw [show rn (fL B) n q - q = (x2_1.toInt - q).toNat by omega]; exact v2_4 (by omega))⟩⟩
      · refine r_aload_n hC dX7_takeLetters_27 0 rfl ?_
        refine r_getr hC 0 (ci := 7) rfl u7_in (by decide) mT_1_59 dX7_takeLetters_28 ka0 rfl rfl hbt ?_
        refine r_getr hC 0 (ci := 5) rfl u5_in (by decide) mT_1_37 dX7_takeLetters_31 hkt rfl rfl hbb ?_
        refine r_iload_n hC dX7_takeLetters_34 1 rfl ?_
        refine x_baload hC hkb nbt (by decide) rfl rfl dX7_takeLetters_35 (by omega) (by omega) (fun x26_ e26 => ?_)
        have B26 := (hB.mv hF2 hkb (fun _ => rfl)).at e26 (by omega) (by omega)
        refine r_bipush hC (v := (122)) dX7_takeLetters_36 (by decide) (by decide) (fun x27_ e27 t27 => ?_)
        refine r_icmp_gt hC (tgt := 80) dX7_takeLetters_38 (by decide) (fun c28 => ?_) (fun c28 => ?_)
        · have hrn : (rn (fL B) n q : Int) = x2_1.toInt := rn_at (by omega) (by omega) v2_3 (fun h9 => fL_f.mpr (by omega))
          refine r_aload_n hC dX7_takeLetters_80 0 rfl ?_
          refine r_aload_n hC dX7_takeLetters_81 0 rfl ?_
          refine r_geti hC 2 (ci := 7) rfl u7_in (by decide) mT_1_61 dX7_takeLetters_82 ka0 rfl rfl (fun x29_ e29 => ?_)
          have r29 := hs2.rng ka0 rfl e29
          have f29 : x29_.toInt = (I2 a0 2).toInt := by rw [e29]
          refine r_aload_n hC dX7_takeLetters_85 0 rfl ?_
          refine r_geti hC 4 (ci := 7) rfl u7_in (by decide) mT_1_63 dX7_takeLetters_86 ka0 rfl rfl (fun x30_ e30 => ?_)
          have r30 := hs2.rng ka0 rfl e30
          have f30 : x30_.toInt = (I2 a0 4).toInt := by rw [e30]
          have w30 : x30_ = x1_ := by rw [e30]; exact (Eq.trans (hF2.get ka0 rfl) e1.symm)
          have wt30 : x30_.toInt = x1_.toInt := by rw [w30]
          refine r_isub hC dX7_takeLetters_89 (fun x31_ e31 => ?_)
          try have t31 : x31_.toInt = x29_.toInt - x30_.toInt := by rw [e31]; exact ti_sub (by omega) (by omega)
          refine r_bipush hC (v := (8)) dX7_takeLetters_90 (by decide) (by decide) (fun x32_ e32 t32 => ?_)
          refine r_icmp_gt hC (tgt := 99) dX7_takeLetters_92 (by decide) (fun c33 => ?_) (fun c33 => ?_)
          · refine r_iconst hC (v := (4)) dX7_takeLetters_99 (by decide) (by decide) (fun x34_ e34 t34 => ?_)
            refine r_puti hC 3 (ci := 7) rfl u7_in tyX7_ok nmX7 (by decide) mT_1_62 rfl rfl rfl dX7_takeLetters_100 ka0 rfl rfl (fun I35 eI35 => ?_)
            have hs35 := hs2.put0 eI35 ka0 rfl rfl rfl (by decide)
            have hF35 := hF2.put eI35 ka0 rfl
            have hv2 : I35 a0 2 = x29_ := (Eq.trans (up2_at (Or.inr (by decide)) eI35) e29.symm)
            have hv2t : (I35 a0 2).toInt = x29_.toInt := congrArg Int32.toInt hv2
            have hv3 : I35 a0 3 = x34_ := (by rw [eI35]; exact up2_self _ _ _ _)
            have hv3t : (I35 a0 3).toInt = x34_.toInt := congrArg Int32.toInt hv3
            exact r_vret hC hQ hlk hr (by decide) (by decide) dX7_takeLetters_103 ⟨_, _, rfl, rfl, ⟨hs35, hF35, hFJ2, (by omega), (by split <;> omega), (by intro h9; rw [show rn (fL B) n q - q = (x2_1.toInt - q).toNat by omega]; exact v2_4 (by omega))⟩⟩
          · refine r_iconst hC (v := (1)) dX7_takeLetters_95 (by decide) (by decide) (fun x36_ e36 t36 => ?_)
            refine r_goto hC (tgt := 100) dX7_takeLetters_96 (by decide) ?_
            refine r_puti hC 3 (ci := 7) rfl u7_in tyX7_ok nmX7 (by decide) mT_1_62 rfl rfl rfl dX7_takeLetters_100 ka0 rfl rfl (fun I37 eI37 => ?_)
            have hs37 := hs2.put0 eI37 ka0 rfl rfl rfl (by decide)
            have hF37 := hF2.put eI37 ka0 rfl
            have hv2 : I37 a0 2 = x29_ := (Eq.trans (up2_at (Or.inr (by decide)) eI37) e29.symm)
            have hv2t : (I37 a0 2).toInt = x29_.toInt := congrArg Int32.toInt hv2
            have hv3 : I37 a0 3 = x36_ := (by rw [eI37]; exact up2_self _ _ _ _)
            have hv3t : (I37 a0 3).toInt = x36_.toInt := congrArg Int32.toInt hv3
            exact r_vret hC hQ hlk hr (by decide) (by decide) dX7_takeLetters_103 ⟨_, _, rfl, rfl, ⟨hs37, hF37, hFJ2, (by omega), (by split <;> omega), (by intro h9; rw [show rn (fL B) n q - q = (x2_1.toInt - q).toNat by omega]; exact v2_4 (by omega))⟩⟩
        · refine r_aload_n hC dX7_takeLetters_41 0 rfl ?_
          refine r_aload_n hC dX7_takeLetters_42 0 rfl ?_
          refine r_getj hC 5 (ci := 7) rfl u7_in (by decide) mT_1_65 dX7_takeLetters_43 ka0 rfl rfl (fun y38_ e38 => ?_)
          have fj38 : y38_.toInt = (J2 a0 5).toInt := by rw [e38]
          refine r_iconst hC (v := (5)) dX7_takeLetters_46 (by decide) (by decide) (fun x39_ e39 t39 => ?_)
          refine r_lshl hC dX7_takeLetters_47 (fun y40_ e40 => ?_)
          refine r_aload_n hC dX7_takeLetters_48 0 rfl ?_
          refine r_getr hC 0 (ci := 7) rfl u7_in (by decide) mT_1_59 dX7_takeLetters_49 ka0 rfl rfl hbt ?_
          refine r_getr hC 0 (ci := 5) rfl u5_in (by decide) mT_1_37 dX7_takeLetters_52 hkt rfl rfl hbb ?_
          refine r_iload_n hC dX7_takeLetters_55 1 rfl ?_
          refine x_baload hC hkb nbt (by decide) rfl rfl dX7_takeLetters_56 (by omega) (by omega) (fun x41_ e41 => ?_)
          have B41 := (hB.mv hF2 hkb (fun _ => rfl)).at e41 (by omega) (by omega)
          refine r_bipush hC (v := (97)) dX7_takeLetters_57 (by decide) (by decide) (fun x42_ e42 t42 => ?_)
          refine r_isub hC dX7_takeLetters_59 (fun x43_ e43 => ?_)
          try have t43 : x43_.toInt = x41_.toInt - x42_.toInt := by rw [e43]; exact ti_sub (by omega) (by omega)
          refine r_iconst hC (v := (1)) dX7_takeLetters_60 (by decide) (by decide) (fun x44_ e44 t44 => ?_)
          refine r_iadd hC dX7_takeLetters_61 (fun x45_ e45 => ?_)
          try have t45 : x45_.toInt = x43_.toInt + x44_.toInt := by rw [e45]; exact ti_add (by omega) (by omega)
          refine r_i2l hC dX7_takeLetters_62 (fun y46_ e46 => ?_)
          refine r_lor hC dX7_takeLetters_63 (fun y47_ e47 => ?_)
          have sj := let_s (B := B) (q := q) (i := x2_1.toInt) (v := y38_) (by omega) v2_3 (by omega) (hs := by rw [e39]) e40 e46 e47 (by omega) (fL_t.mpr (by omega))
          refine r_putj hC 5 (ci := 7) rfl u7_in tyX7_ok nmX7 (by decide) mT_1_65 rfl rfl rfl dX7_takeLetters_64 ka0 rfl rfl (fun J48 eJ48 => ?_)
          have hFJ48 := hFJ2.put eJ48 ka0 rfl
          have hj48 : (J48 a0 5).toInt = y47_.toInt := by rw [eJ48, up2_self]
          refine r_aload_n hC dX7_takeLetters_67 0 rfl ?_
          refine r_iload_n hC dX7_takeLetters_68 1 rfl ?_
          refine r_iconst hC (v := (1)) dX7_takeLetters_69 (by decide) (by decide) (fun x49_ e49 t49 => ?_)
          refine r_iadd hC dX7_takeLetters_70 (fun x50_ e50 => ?_)
          try have t50 : x50_.toInt = x2_1.toInt + x49_.toInt := by rw [e50]; exact ti_add (by omega) (by omega)
          refine r_puti hC 2 (ci := 7) rfl u7_in tyX7_ok nmX7 (by decide) mT_1_61 rfl rfl rfl dX7_takeLetters_71 ka0 rfl rfl (fun I51 eI51 => ?_)
          have hs51 := hs2.put1 eI51 ka0 rfl (by omega) (by omega) rfl rfl (by decide)
          have hF51 := hF2.put eI51 ka0 rfl
          obtain ⟨x52_, e52⟩ : ∃ z : Int32, z = x2_1 + Int32.ofInt (1) := ⟨_, rfl⟩
          refine r_iinc hC (j := 1) (v := x52_) (lv' := [(1, .int x52_), (0, .ref a0)]) dX7_takeLetters_74 rfl (by rw [e52]) (by decide) rfl ?_
          try have t52 : x52_.toInt = x2_1.toInt + (1) := by rw [e52]; exact (ti_add (b := Int32.ofInt (1)) (by show _ ≤ _ + (1 : Int); omega) (by show _ + (1 : Int) ≤ _; omega))
          refine r_goto hC (tgt := 5) dX7_takeLetters_77 (by decide) ?_
          have hb2 : I51 a0 2 = x50_ := (by rw [eI51]; exact up2_self _ _ _ _)
          have hb2t : (I51 a0 2).toInt = x50_.toInt := congrArg Int32.toInt hb2
          refine r_sub [1, 0] rfl ?_
          exact ih2 ((n - x52_.toInt).toNat) (by omega) x52_ I51 J48 hs51 hF51 hFJ48 (by omega) (by omega) (by omega) (by first | exact all_0 (by omega) | exact all_s v2_3 (by omega) (by omega) (fL_t.mpr (by omega))) (by first | (intro h9; rw [show (x52_.toInt - q).toNat = 0 by omega]; simp only [wv]; omega) | (intro h9; rw [show x52_.toInt = _ from (by assumption)] at h9 ⊢; omega)) rfl
  refine r_sub [1, 0] rfl ?_
  exact LP2 _ x1_ I J hs hF hFJ (by omega) (by omega) (by omega) (by first | exact all_0 (by omega) | exact all_s v2_3 (by omega) (by omega) (fL_t.mpr (by omega))) (by first | (intro h9; rw [show (x1_.toInt - q).toNat = 0 by omega]; simp only [wv]; omega) | (intro h9; rw [show x1_.toInt = _ from (by assumption)] at h9 ⊢; omega)) rfl
set_option maxHeartbeats 4000000 in
set_option maxRecDepth 100000 in
theorem f_X7_takeDigits (g : GG) (l : Launch) (K len : Nat → Nat) (I : Nat → Nat → Int32) (J : Nat → Nat → Int64) (R : Nat → Nat → Option Nat) (hs : Sf K len I R) (a0 : Nat) (ka0 : K a0 = 8) (tp : Nat) (bt : Nat) (hbt : R a0 0 = some tp) (hkt : K tp = 6) (hbb : R tp 0 = some bt) (hkb : K bt = 40) (nbt : len bt = 900) (B : Nat → Int) (n : Nat) (hB : BT B n bt I) (hn : n ≤ 900) (q : Nat) (p0 : (I a0 4).toInt = q) (p1 : (I a0 2).toInt = q) (p2 : (I a0 1).toInt = n) (p3 : q < n) (p4 : (J a0 5).toInt = 0) : Ct g l yX7_takeDigits cX7_takeDigits 2 (Option.none : Option Jvm.ClassFile.FieldType) rmX7_takeDigits [.ref a0] (K, len, I, J, R) (pV2 (K, len, I, J, R) (fun I' J' => Sf K len I' R ∧ Fr K [(8, 2), (8, 3)] I I' ∧ Fr K [(8, 5)] J J' ∧ ((I' a0 2).toInt = rn (fD B) n q) ∧ ((I' a0 3).toInt = (if rn (fD B) n q ≤ q + 3 then 2 else 4)) ∧ (rn (fD B) n q ≤ q + 3 → (J' a0 5).toInt = nv B q (rn (fD B) n q - q)))) := by
  refine Ct_intro (by decide +kernel) (Nat.le_of_ble_eq_true rfl) (fun X hC hL hKK hNm hr hlk hQ => ?_)
  subst hL
  have hC : Cx g X cX7_takeDigits "HillTap$Tokens" 2 rmX7_takeDigits := hC
  show P g X 2 0 [(0, .ref a0)] [] 0 0 (K, len, I, J, R)
  have hF : Fr K [(8, 2), (8, 3)] I I := Fr.refl
  have hFJ : Fr K [(8, 5)] J J := Fr.refl
  obtain ⟨N0, eN0⟩ : ∃ z : Int32, z = I a0 1 := ⟨_, rfl⟩
  have fN0 : N0.toInt = (I a0 1).toInt := by rw [eN0]
  have rN0 := hs.rng ka0 rfl eN0
  obtain ⟨P0, eP0⟩ : ∃ z : Int32, z = I a0 4 := ⟨_, rfl⟩
  have fP0 : P0.toInt = (I a0 4).toInt := by rw [eP0]
  have rP0 := hs.rng ka0 rfl eP0
  refine r_aload_n hC dX7_takeDigits_0 0 rfl ?_
  refine r_geti hC 4 (ci := 7) rfl u7_in (by decide) mT_1_63 dX7_takeDigits_1 ka0 rfl rfl (fun x1_ e1 => ?_)
  have r1 := hs.rng ka0 rfl e1
  have f1 : x1_.toInt = (I a0 4).toInt := by rw [e1]
  have w1 : x1_ = P0 := by rw [e1]; exact eP0.symm
  have wt1 : x1_.toInt = P0.toInt := by rw [w1]
  refine r_istore_n hC (lv' := [(1, .int x1_), (0, .ref a0)]) dX7_takeDigits_4 (by decide) rfl ?_
  have LP2 : ∀ (mu : Nat) (x2_1 : Int32) (I2 : Nat → Nat → Int32) (J2 : Nat → Nat → Int64) (hs2 : Sf K len I2 R) (hF2 : Fr K [(8, 2), (8, 3)] I I2) (hFJ2 : Fr K [(8, 5)] J J2) (v2_0 : q ≤ x2_1.toInt) (v2_1 : x2_1.toInt ≤ n) (v2_2 : (I2 a0 2).toInt = x2_1.toInt) (v2_3 : ∀ j : Nat, q ≤ j → (j : Int) < x2_1.toInt → fD B j = true) (v2_4 : x2_1.toInt ≤ q + 3 → (J2 a0 5).toInt = nv B q (x2_1.toInt - q).toNat), (n - x2_1.toInt).toNat = mu → P g X 2 5 [(0, .ref a0), (1, .int x2_1)] [] 0 0 (K, len, I2, J2, R) := by
    intro mu; induction mu using Nat.strongRecOn with | ind mu ih => ?_
    intro x2_1 I2 J2 hs2 hF2 hFJ2 v2_0 v2_1 v2_2 v2_3 v2_4 hmu
    have ih2 := ih
    clear ih
    have hmu2 := hmu
    clear hmu
    refine r_iload_n hC dX7_takeDigits_5 1 rfl ?_
    refine r_aload_n hC dX7_takeDigits_6 0 rfl ?_
    refine r_geti hC 1 (ci := 7) rfl u7_in (by decide) mT_1_60 dX7_takeDigits_7 ka0 rfl rfl (fun x3_ e3 => ?_)
    have r3 := hs2.rng ka0 rfl e3
    have f3 : x3_.toInt = (I2 a0 1).toInt := by rw [e3]
    have w3 : x3_ = N0 := by rw [e3]; exact (Eq.trans (hF2.get ka0 rfl) eN0.symm)
    have wt3 : x3_.toInt = N0.toInt := by rw [w3]
    refine r_icmp_ge hC (tgt := 80) dX7_takeDigits_10 (by decide) (fun c4 => ?_) (fun c4 => ?_)
    · have hrn : (rn (fD B) n q : Int) = x2_1.toInt := rn_at (by omega) (by omega) v2_3 (fun h9 => fD_f.mpr (by omega))
      refine r_aload_n hC dX7_takeDigits_80 0 rfl ?_
      refine r_aload_n hC dX7_takeDigits_81 0 rfl ?_
      refine r_geti hC 2 (ci := 7) rfl u7_in (by decide) mT_1_61 dX7_takeDigits_82 ka0 rfl rfl (fun x5_ e5 => ?_)
      have r5 := hs2.rng ka0 rfl e5
      have f5 : x5_.toInt = (I2 a0 2).toInt := by rw [e5]
      refine r_aload_n hC dX7_takeDigits_85 0 rfl ?_
      refine r_geti hC 4 (ci := 7) rfl u7_in (by decide) mT_1_63 dX7_takeDigits_86 ka0 rfl rfl (fun x6_ e6 => ?_)
      have r6 := hs2.rng ka0 rfl e6
      have f6 : x6_.toInt = (I2 a0 4).toInt := by rw [e6]
      have w6 : x6_ = x1_ := by rw [e6]; exact (Eq.trans (hF2.get ka0 rfl) e1.symm)
      have wt6 : x6_.toInt = x1_.toInt := by rw [w6]
      refine r_isub hC dX7_takeDigits_89 (fun x7_ e7 => ?_)
      try have t7 : x7_.toInt = x5_.toInt - x6_.toInt := by rw [e7]; exact ti_sub (by omega) (by omega)
      refine r_iconst hC (v := (3)) dX7_takeDigits_90 (by decide) (by decide) (fun x8_ e8 t8 => ?_)
      refine r_icmp_gt hC (tgt := 98) dX7_takeDigits_91 (by decide) (fun c9 => ?_) (fun c9 => ?_)
      · refine r_iconst hC (v := (4)) dX7_takeDigits_98 (by decide) (by decide) (fun x10_ e10 t10 => ?_)
        refine r_puti hC 3 (ci := 7) rfl u7_in tyX7_ok nmX7 (by decide) mT_1_62 rfl rfl rfl dX7_takeDigits_99 ka0 rfl rfl (fun I11 eI11 => ?_)
        have hs11 := hs2.put0 eI11 ka0 rfl rfl rfl (by decide)
        have hF11 := hF2.put eI11 ka0 rfl
        have hv2 : I11 a0 2 = x5_ := (Eq.trans (up2_at (Or.inr (by decide)) eI11) e5.symm)
        have hv2t : (I11 a0 2).toInt = x5_.toInt := congrArg Int32.toInt hv2
        have hv3 : I11 a0 3 = x10_ := (by rw [eI11]; exact up2_self _ _ _ _)
        have hv3t : (I11 a0 3).toInt = x10_.toInt := congrArg Int32.toInt hv3
        exact r_vret hC hQ hlk hr (by decide) (by decide) dX7_takeDigits_102 ⟨_, _, rfl, rfl, ⟨hs11, hF11, hFJ2, (by omega), (by split <;> omega), (by intro h9; rw [show rn (fD B) n q - q = (x2_1.toInt - q).toNat by omega]; exact v2_4 (by omega))⟩⟩
      · refine r_iconst hC (v := (2)) dX7_takeDigits_94 (by decide) (by decide) (fun x12_ e12 t12 => ?_)
        refine r_goto hC (tgt := 99) dX7_takeDigits_95 (by decide) ?_
        refine r_puti hC 3 (ci := 7) rfl u7_in tyX7_ok nmX7 (by decide) mT_1_62 rfl rfl rfl dX7_takeDigits_99 ka0 rfl rfl (fun I13 eI13 => ?_)
        have hs13 := hs2.put0 eI13 ka0 rfl rfl rfl (by decide)
        have hF13 := hF2.put eI13 ka0 rfl
        have hv2 : I13 a0 2 = x5_ := (Eq.trans (up2_at (Or.inr (by decide)) eI13) e5.symm)
        have hv2t : (I13 a0 2).toInt = x5_.toInt := congrArg Int32.toInt hv2
        have hv3 : I13 a0 3 = x12_ := (by rw [eI13]; exact up2_self _ _ _ _)
        have hv3t : (I13 a0 3).toInt = x12_.toInt := congrArg Int32.toInt hv3
        exact r_vret hC hQ hlk hr (by decide) (by decide) dX7_takeDigits_102 ⟨_, _, rfl, rfl, ⟨hs13, hF13, hFJ2, (by omega), (by split <;> omega), (by intro h9; rw [show rn (fD B) n q - q = (x2_1.toInt - q).toNat by omega]; exact v2_4 (by omega))⟩⟩
    · refine r_aload_n hC dX7_takeDigits_13 0 rfl ?_
      refine r_getr hC 0 (ci := 7) rfl u7_in (by decide) mT_1_59 dX7_takeDigits_14 ka0 rfl rfl hbt ?_
      refine r_getr hC 0 (ci := 5) rfl u5_in (by decide) mT_1_37 dX7_takeDigits_17 hkt rfl rfl hbb ?_
      refine r_iload_n hC dX7_takeDigits_20 1 rfl ?_
      refine x_baload hC hkb nbt (by decide) rfl rfl dX7_takeDigits_21 (by omega) (by omega) (fun x14_ e14 => ?_)
      have B14 := (hB.mv hF2 hkb (fun _ => rfl)).at e14 (by omega) (by omega)
      refine r_bipush hC (v := (48)) dX7_takeDigits_22 (by decide) (by decide) (fun x15_ e15 t15 => ?_)
      refine r_icmp_lt hC (tgt := 80) dX7_takeDigits_24 (by decide) (fun c16 => ?_) (fun c16 => ?_)
      · have hrn : (rn (fD B) n q : Int) = x2_1.toInt := rn_at (by omega) (by omega) v2_3 (fun h9 => fD_f.mpr (by omega))
        refine r_aload_n hC dX7_takeDigits_80 0 rfl ?_
        refine r_aload_n hC dX7_takeDigits_81 0 rfl ?_
        refine r_geti hC 2 (ci := 7) rfl u7_in (by decide) mT_1_61 dX7_takeDigits_82 ka0 rfl rfl (fun x17_ e17 => ?_)
        have r17 := hs2.rng ka0 rfl e17
        have f17 : x17_.toInt = (I2 a0 2).toInt := by rw [e17]
        refine r_aload_n hC dX7_takeDigits_85 0 rfl ?_
        refine r_geti hC 4 (ci := 7) rfl u7_in (by decide) mT_1_63 dX7_takeDigits_86 ka0 rfl rfl (fun x18_ e18 => ?_)
        have r18 := hs2.rng ka0 rfl e18
        have f18 : x18_.toInt = (I2 a0 4).toInt := by rw [e18]
        have w18 : x18_ = x1_ := by rw [e18]; exact (Eq.trans (hF2.get ka0 rfl) e1.symm)
        have wt18 : x18_.toInt = x1_.toInt := by rw [w18]
        refine r_isub hC dX7_takeDigits_89 (fun x19_ e19 => ?_)
        try have t19 : x19_.toInt = x17_.toInt - x18_.toInt := by rw [e19]; exact ti_sub (by omega) (by omega)
        refine r_iconst hC (v := (3)) dX7_takeDigits_90 (by decide) (by decide) (fun x20_ e20 t20 => ?_)
        refine r_icmp_gt hC (tgt := 98) dX7_takeDigits_91 (by decide) (fun c21 => ?_) (fun c21 => ?_)
        · refine r_iconst hC (v := (4)) dX7_takeDigits_98 (by decide) (by decide) (fun x22_ e22 t22 => ?_)
          refine r_puti hC 3 (ci := 7) rfl u7_in tyX7_ok nmX7 (by decide) mT_1_62 rfl rfl rfl dX7_takeDigits_99 ka0 rfl rfl (fun I23 eI23 => ?_)
          have hs23 := hs2.put0 eI23 ka0 rfl rfl rfl (by decide)
          have hF23 := hF2.put eI23 ka0 rfl
          have hv2 : I23 a0 2 = x17_ := (Eq.trans (up2_at (Or.inr (by decide)) eI23) e17.symm)
          have hv2t : (I23 a0 2).toInt = x17_.toInt := congrArg Int32.toInt hv2
          have hv3 : I23 a0 3 = x22_ := (by rw [eI23]; exact up2_self _ _ _ _)
          have hv3t : (I23 a0 3).toInt = x22_.toInt := congrArg Int32.toInt hv3
          exact r_vret hC hQ hlk hr (by decide) (by decide) dX7_takeDigits_102 ⟨_, _, rfl, rfl, ⟨hs23, hF23, hFJ2, (by omega), (by split <;> omega), (by intro h9; rw [show rn (fD B) n q - q = (x2_1.toInt - q).toNat by omega]; exact v2_4 (by omega))⟩⟩
        · refine r_iconst hC (v := (2)) dX7_takeDigits_94 (by decide) (by decide) (fun x24_ e24 t24 => ?_)
          refine r_goto hC (tgt := 99) dX7_takeDigits_95 (by decide) ?_
          refine r_puti hC 3 (ci := 7) rfl u7_in tyX7_ok nmX7 (by decide) mT_1_62 rfl rfl rfl dX7_takeDigits_99 ka0 rfl rfl (fun I25 eI25 => ?_)
          have hs25 := hs2.put0 eI25 ka0 rfl rfl rfl (by decide)
          have hF25 := hF2.put eI25 ka0 rfl
          have hv2 : I25 a0 2 = x17_ := (Eq.trans (up2_at (Or.inr (by decide)) eI25) e17.symm)
          have hv2t : (I25 a0 2).toInt = x17_.toInt := congrArg Int32.toInt hv2
          have hv3 : I25 a0 3 = x24_ := (by rw [eI25]; exact up2_self _ _ _ _)
          have hv3t : (I25 a0 3).toInt = x24_.toInt := congrArg Int32.toInt hv3
          exact r_vret hC hQ hlk hr (by decide) (by decide) dX7_takeDigits_102 ⟨_, _, rfl, rfl, ⟨hs25, hF25, hFJ2, (by omega), (by split <;> omega), (by intro h9; rw [show rn (fD B) n q - q = (x2_1.toInt - q).toNat by omega]; exact v2_4 (by omega))⟩⟩
      · refine r_aload_n hC dX7_takeDigits_27 0 rfl ?_
        refine r_getr hC 0 (ci := 7) rfl u7_in (by decide) mT_1_59 dX7_takeDigits_28 ka0 rfl rfl hbt ?_
        refine r_getr hC 0 (ci := 5) rfl u5_in (by decide) mT_1_37 dX7_takeDigits_31 hkt rfl rfl hbb ?_
        refine r_iload_n hC dX7_takeDigits_34 1 rfl ?_
        refine x_baload hC hkb nbt (by decide) rfl rfl dX7_takeDigits_35 (by omega) (by omega) (fun x26_ e26 => ?_)
        have B26 := (hB.mv hF2 hkb (fun _ => rfl)).at e26 (by omega) (by omega)
        refine r_bipush hC (v := (57)) dX7_takeDigits_36 (by decide) (by decide) (fun x27_ e27 t27 => ?_)
        refine r_icmp_gt hC (tgt := 80) dX7_takeDigits_38 (by decide) (fun c28 => ?_) (fun c28 => ?_)
        · have hrn : (rn (fD B) n q : Int) = x2_1.toInt := rn_at (by omega) (by omega) v2_3 (fun h9 => fD_f.mpr (by omega))
          refine r_aload_n hC dX7_takeDigits_80 0 rfl ?_
          refine r_aload_n hC dX7_takeDigits_81 0 rfl ?_
          refine r_geti hC 2 (ci := 7) rfl u7_in (by decide) mT_1_61 dX7_takeDigits_82 ka0 rfl rfl (fun x29_ e29 => ?_)
          have r29 := hs2.rng ka0 rfl e29
          have f29 : x29_.toInt = (I2 a0 2).toInt := by rw [e29]
          refine r_aload_n hC dX7_takeDigits_85 0 rfl ?_
          refine r_geti hC 4 (ci := 7) rfl u7_in (by decide) mT_1_63 dX7_takeDigits_86 ka0 rfl rfl (fun x30_ e30 => ?_)
          have r30 := hs2.rng ka0 rfl e30
          have f30 : x30_.toInt = (I2 a0 4).toInt := by rw [e30]
          have w30 : x30_ = x1_ := by rw [e30]; exact (Eq.trans (hF2.get ka0 rfl) e1.symm)
          have wt30 : x30_.toInt = x1_.toInt := by rw [w30]
          refine r_isub hC dX7_takeDigits_89 (fun x31_ e31 => ?_)
          try have t31 : x31_.toInt = x29_.toInt - x30_.toInt := by rw [e31]; exact ti_sub (by omega) (by omega)
          refine r_iconst hC (v := (3)) dX7_takeDigits_90 (by decide) (by decide) (fun x32_ e32 t32 => ?_)
          refine r_icmp_gt hC (tgt := 98) dX7_takeDigits_91 (by decide) (fun c33 => ?_) (fun c33 => ?_)
          · refine r_iconst hC (v := (4)) dX7_takeDigits_98 (by decide) (by decide) (fun x34_ e34 t34 => ?_)
            refine r_puti hC 3 (ci := 7) rfl u7_in tyX7_ok nmX7 (by decide) mT_1_62 rfl rfl rfl dX7_takeDigits_99 ka0 rfl rfl (fun I35 eI35 => ?_)
            have hs35 := hs2.put0 eI35 ka0 rfl rfl rfl (by decide)
            have hF35 := hF2.put eI35 ka0 rfl
            have hv2 : I35 a0 2 = x29_ := (Eq.trans (up2_at (Or.inr (by decide)) eI35) e29.symm)
            have hv2t : (I35 a0 2).toInt = x29_.toInt := congrArg Int32.toInt hv2
            have hv3 : I35 a0 3 = x34_ := (by rw [eI35]; exact up2_self _ _ _ _)
            have hv3t : (I35 a0 3).toInt = x34_.toInt := congrArg Int32.toInt hv3
            exact r_vret hC hQ hlk hr (by decide) (by decide) dX7_takeDigits_102 ⟨_, _, rfl, rfl, ⟨hs35, hF35, hFJ2, (by omega), (by split <;> omega), (by intro h9; rw [show rn (fD B) n q - q = (x2_1.toInt - q).toNat by omega]; exact v2_4 (by omega))⟩⟩
          · refine r_iconst hC (v := (2)) dX7_takeDigits_94 (by decide) (by decide) (fun x36_ e36 t36 => ?_)
            refine r_goto hC (tgt := 99) dX7_takeDigits_95 (by decide) ?_
            refine r_puti hC 3 (ci := 7) rfl u7_in tyX7_ok nmX7 (by decide) mT_1_62 rfl rfl rfl dX7_takeDigits_99 ka0 rfl rfl (fun I37 eI37 => ?_)
            have hs37 := hs2.put0 eI37 ka0 rfl rfl rfl (by decide)
            have hF37 := hF2.put eI37 ka0 rfl
            have hv2 : I37 a0 2 = x29_ := (Eq.trans (up2_at (Or.inr (by decide)) eI37) e29.symm)
            have hv2t : (I37 a0 2).toInt = x29_.toInt := congrArg Int32.toInt hv2
            have hv3 : I37 a0 3 = x36_ := (by rw [eI37]; exact up2_self _ _ _ _)
            have hv3t : (I37 a0 3).toInt = x36_.toInt := congrArg Int32.toInt hv3
            exact r_vret hC hQ hlk hr (by decide) (by decide) dX7_takeDigits_102 ⟨_, _, rfl, rfl, ⟨hs37, hF37, hFJ2, (by omega), (by split <;> omega), (by intro h9; rw [show rn (fD B) n q - q = (x2_1.toInt - q).toNat by omega]; exact v2_4 (by omega))⟩⟩
        · refine r_aload_n hC dX7_takeDigits_41 0 rfl ?_
          refine r_aload_n hC dX7_takeDigits_42 0 rfl ?_
          refine r_getj hC 5 (ci := 7) rfl u7_in (by decide) mT_1_65 dX7_takeDigits_43 ka0 rfl rfl (fun y38_ e38 => ?_)
          have fj38 : y38_.toInt = (J2 a0 5).toInt := by rw [e38]
          refine r_ldc2 hC mT_2_168 dX7_takeDigits_46 (fun y39_ e39 => ?_)
          refine r_lmul hC dX7_takeDigits_49 (fun y40_ e40 => ?_)
          refine r_aload_n hC dX7_takeDigits_50 0 rfl ?_
          refine r_getr hC 0 (ci := 7) rfl u7_in (by decide) mT_1_59 dX7_takeDigits_51 ka0 rfl rfl hbt ?_
          refine r_getr hC 0 (ci := 5) rfl u5_in (by decide) mT_1_37 dX7_takeDigits_54 hkt rfl rfl hbb ?_
          refine r_iload_n hC dX7_takeDigits_57 1 rfl ?_
          refine x_baload hC hkb nbt (by decide) rfl rfl dX7_takeDigits_58 (by omega) (by omega) (fun x41_ e41 => ?_)
          have B41 := (hB.mv hF2 hkb (fun _ => rfl)).at e41 (by omega) (by omega)
          refine r_bipush hC (v := (48)) dX7_takeDigits_59 (by decide) (by decide) (fun x42_ e42 t42 => ?_)
          refine r_isub hC dX7_takeDigits_61 (fun x43_ e43 => ?_)
          try have t43 : x43_.toInt = x41_.toInt - x42_.toInt := by rw [e43]; exact ti_sub (by omega) (by omega)
          refine r_i2l hC dX7_takeDigits_62 (fun y44_ e44 => ?_)
          refine r_ladd hC dX7_takeDigits_63 (fun y45_ e45 => ?_)
          have sj := dig_s (B := B) (q := q) (i := x2_1.toInt) (v := y38_) (by omega) v2_3 (by omega) e39 e40 e44 e45 (by omega) (fD_t.mpr (by omega))
          refine r_putj hC 5 (ci := 7) rfl u7_in tyX7_ok nmX7 (by decide) mT_1_65 rfl rfl rfl dX7_takeDigits_64 ka0 rfl rfl (fun J46 eJ46 => ?_)
          have hFJ46 := hFJ2.put eJ46 ka0 rfl
          have hj46 : (J46 a0 5).toInt = y45_.toInt := by rw [eJ46, up2_self]
          refine r_aload_n hC dX7_takeDigits_67 0 rfl ?_
          refine r_iload_n hC dX7_takeDigits_68 1 rfl ?_
          refine r_iconst hC (v := (1)) dX7_takeDigits_69 (by decide) (by decide) (fun x47_ e47 t47 => ?_)
          refine r_iadd hC dX7_takeDigits_70 (fun x48_ e48 => ?_)
          try have t48 : x48_.toInt = x2_1.toInt + x47_.toInt := by rw [e48]; exact ti_add (by omega) (by omega)
          refine r_puti hC 2 (ci := 7) rfl u7_in tyX7_ok nmX7 (by decide) mT_1_61 rfl rfl rfl dX7_takeDigits_71 ka0 rfl rfl (fun I49 eI49 => ?_)
          have hs49 := hs2.put1 eI49 ka0 rfl (by omega) (by omega) rfl rfl (by decide)
          have hF49 := hF2.put eI49 ka0 rfl
          obtain ⟨x50_, e50⟩ : ∃ z : Int32, z = x2_1 + Int32.ofInt (1) := ⟨_, rfl⟩
          refine r_iinc hC (j := 1) (v := x50_) (lv' := [(1, .int x50_), (0, .ref a0)]) dX7_takeDigits_74 rfl (by rw [e50]) (by decide) rfl ?_
          try have t50 : x50_.toInt = x2_1.toInt + (1) := by rw [e50]; exact (ti_add (b := Int32.ofInt (1)) (by show _ ≤ _ + (1 : Int); omega) (by show _ + (1 : Int) ≤ _; omega))
          refine r_goto hC (tgt := 5) dX7_takeDigits_77 (by decide) ?_
          have hb2 : I49 a0 2 = x48_ := (by rw [eI49]; exact up2_self _ _ _ _)
          have hb2t : (I49 a0 2).toInt = x48_.toInt := congrArg Int32.toInt hb2
          refine r_sub [1, 0] rfl ?_
          exact ih2 ((n - x50_.toInt).toNat) (by omega) x50_ I49 J46 hs49 hF49 hFJ46 (by omega) (by omega) (by omega) (by first | exact all_0 (by omega) | exact all_s v2_3 (by omega) (by omega) (fD_t.mpr (by omega))) (by first | (intro h9; rw [show (x50_.toInt - q).toNat = 0 by omega]; simp only [nv]; omega) | (intro h9; rw [show x50_.toInt = _ from (by assumption)] at h9 ⊢; omega)) rfl
  refine r_sub [1, 0] rfl ?_
  exact LP2 _ x1_ I J hs hF hFJ (by omega) (by omega) (by omega) (by first | exact all_0 (by omega) | exact all_s v2_3 (by omega) (by omega) (fD_t.mpr (by omega))) (by first | (intro h9; rw [show (x1_.toInt - q).toNat = 0 by omega]; simp only [nv]; omega) | (intro h9; rw [show x1_.toInt = _ from (by assumption)] at h9 ⊢; omega)) rfl
set_option maxHeartbeats 4000000 in
set_option maxRecDepth 100000 in
theorem f_X7_next (g : GG) (l : Launch) (K len : Nat → Nat) (I : Nat → Nat → Int32) (J : Nat → Nat → Int64) (R : Nat → Nat → Option Nat) (hs : Sf K len I R) (a0 : Nat) (ka0 : K a0 = 8) (tp : Nat) (bt : Nat) (hbt : R a0 0 = some tp) (hkt : K tp = 6) (hbb : R tp 0 = some bt) (hkb : K bt = 40) (nbt : len bt = 900) (B : Nat → Int) (n : Nat) (hB : BT B n bt I) (hn : n ≤ 900) (p : Nat) (hp : p ≤ n) (p0 : (I a0 2).toInt = p) (p1 : (I a0 1).toInt = n) : Ct g l yX7_next cX7_next 2 (Option.none : Option Jvm.ClassFile.FieldType) rmX7_next [.ref a0] (K, len, I, J, R) (pV2 (K, len, I, J, R) (fun I' J' => Sf K len I' R ∧ Fr K [(8, 2), (8, 3), (8, 4)] I I' ∧ Fr K [(8, 5)] J J' ∧ (TkC B n a0 p I' J'))) := by
  refine Ct_intro (by decide +kernel) (Nat.le_of_ble_eq_true rfl) (fun X hC hL hKK hNm hr hlk hQ => ?_)
  subst hL
  have hC : Cx g X cX7_next "HillTap$Tokens" 2 rmX7_next := hC
  show P g X 2 0 [(0, .ref a0)] [] 0 0 (K, len, I, J, R)
  have hF : Fr K [(8, 2), (8, 3), (8, 4)] I I := Fr.refl
  have hFJ : Fr K [(8, 5)] J J := Fr.refl
  obtain ⟨N0, eN0⟩ : ∃ z : Int32, z = I a0 1 := ⟨_, rfl⟩
  have fN0 : N0.toInt = (I a0 1).toInt := by rw [eN0]
  have rN0 := hs.rng ka0 rfl eN0
  obtain ⟨Q0, eQ0⟩ : ∃ z : Int32, z = I a0 2 := ⟨_, rfl⟩
  have fQ0 : Q0.toInt = (I a0 2).toInt := by rw [eQ0]
  have rQ0 := hs.rng ka0 rfl eQ0
  refine r_aload_n hC dX7_next_0 0 rfl ?_
  refine r_aload_n hC dX7_next_1 0 rfl ?_
  refine r_geti hC 1 (ci := 7) rfl u7_in (by decide) mT_1_60 dX7_next_2 ka0 rfl rfl (fun x1_ e1 => ?_)
  have r1 := hs.rng ka0 rfl e1
  have f1 : x1_.toInt = (I a0 1).toInt := by rw [e1]
  have w1 : x1_ = N0 := by rw [e1]; exact eN0.symm
  have wt1 : x1_.toInt = N0.toInt := by rw [w1]
  refine r_puti hC 4 (ci := 7) rfl u7_in tyX7_ok nmX7 (by decide) mT_1_63 rfl rfl rfl dX7_next_5 ka0 rfl rfl (fun I2 eI2 => ?_)
  have hs2 := hs.put1 eI2 ka0 rfl (by omega) (by omega) rfl rfl (by decide)
  have hF2 := hF.put eI2 ka0 rfl
  refine r_aload_n hC dX7_next_8 0 rfl ?_
  refine r_geti hC 2 (ci := 7) rfl u7_in (by decide) mT_1_61 dX7_next_9 ka0 rfl rfl (fun x3_ e3 => ?_)
  have r3 := hs2.rng ka0 rfl e3
  have f3 : x3_.toInt = (I2 a0 2).toInt := by rw [e3]
  have w3 : x3_ = Q0 := by rw [e3]; exact (Eq.trans (up2_at (Or.inr (by decide)) eI2) eQ0.symm)
  have wt3 : x3_.toInt = Q0.toInt := by rw [w3]
  refine r_istore_n hC (lv' := [(1, .int x3_), (0, .ref a0)]) dX7_next_12 (by decide) rfl ?_
  have LP4 : ∀ (mu : Nat) (x4_1 : Int32) (I4 : Nat → Nat → Int32) (hs4 : Sf K len I4 R) (hF4 : Fr K [(8, 2), (8, 3), (8, 4)] I I4) (v4_0 : p ≤ x4_1.toInt) (v4_1 : x4_1.toInt ≤ n) (v4_2 : ∀ j : Nat, p ≤ j → (j : Int) < x4_1.toInt → (j : Int) < (I4 a0 4).toInt → fS B j = true) (v4_3 : (I4 a0 4).toInt = n ∨ ((I4 a0 4).toInt = x4_1.toInt - 1 ∧ fS B (I4 a0 4).toInt.toNat = false ∧ p ≤ (I4 a0 4).toInt)), (n - x4_1.toInt).toNat = mu → P g X 2 13 [(0, .ref a0), (1, .int x4_1)] [] 0 0 (K, len, I4, J, R) := by
    intro mu; induction mu using Nat.strongRecOn with | ind mu ih => ?_
    intro x4_1 I4 hs4 hF4 v4_0 v4_1 v4_2 v4_3 hmu
    have ih4 := ih
    clear ih
    have hmu4 := hmu
    clear hmu
    refine r_iload_n hC dX7_next_13 1 rfl ?_
    refine r_aload_n hC dX7_next_14 0 rfl ?_
    refine r_geti hC 1 (ci := 7) rfl u7_in (by decide) mT_1_60 dX7_next_15 ka0 rfl rfl (fun x5_ e5 => ?_)
    have r5 := hs4.rng ka0 rfl e5
    have f5 : x5_.toInt = (I4 a0 1).toInt := by rw [e5]
    have w5 : x5_ = x1_ := by rw [e5]; exact (Eq.trans (hF4.get ka0 rfl) e1.symm)
    have wt5 : x5_.toInt = x1_.toInt := by rw [w5]
    refine r_icmp_ge hC (tgt := 57) dX7_next_18 (by decide) (fun c6 => ?_) (fun c6 => ?_)
    · have hpl : (pl B n p : Int) = (I4 a0 4).toInt := rn_at (by omega) (by omega) (fun j h1 h2 => v4_2 j h1 (by omega) (by omega)) (fun h9 => by rcases v4_3 with h8 | ⟨h8, h7, h6⟩ <;> first | exact h7 | (exfalso; omega))
      refine r_aload_n hC dX7_next_57 0 rfl ?_
      refine r_aload_n hC dX7_next_58 0 rfl ?_
      refine r_geti hC 4 (ci := 7) rfl u7_in (by decide) mT_1_63 dX7_next_59 ka0 rfl rfl (fun x7_ e7 => ?_)
      have r7 := hs4.rng ka0 rfl e7
      have f7 : x7_.toInt = (I4 a0 4).toInt := by rw [e7]
      refine r_puti hC 2 (ci := 7) rfl u7_in tyX7_ok nmX7 (by decide) mT_1_61 rfl rfl rfl dX7_next_62 ka0 rfl rfl (fun I8 eI8 => ?_)
      have hs8 := hs4.put1 eI8 ka0 rfl (by omega) (by omega) rfl rfl (by decide)
      have hF8 := hF4.put eI8 ka0 rfl
      refine r_aload_n hC dX7_next_65 0 rfl ?_
      refine r_lconst hC (v := 0) dX7_next_66 (by decide) (fun y9_ e9 => ?_)
      have tj9 : y9_.toInt = 0 := by rw [e9]; rfl
      refine r_putj hC 5 (ci := 7) rfl u7_in tyX7_ok nmX7 (by decide) mT_1_65 rfl rfl rfl dX7_next_67 ka0 rfl rfl (fun J10 eJ10 => ?_)
      have hFJ10 := hFJ.put eJ10 ka0 rfl
      have hj10 : (J10 a0 5).toInt = y9_.toInt := by rw [eJ10, up2_self]
      refine r_aload_n hC dX7_next_70 0 rfl ?_
      refine r_geti hC 4 (ci := 7) rfl u7_in (by decide) mT_1_63 dX7_next_71 ka0 rfl rfl (fun x11_ e11 => ?_)
      have r11 := hs8.rng ka0 rfl e11
      have f11 : x11_.toInt = (I8 a0 4).toInt := by rw [e11]
      have w11 : x11_ = x7_ := by rw [e11]; exact (Eq.trans (up2_at (Or.inr (by decide)) eI8) e7.symm)
      have wt11 : x11_.toInt = x7_.toInt := by rw [w11]
      refine r_aload_n hC dX7_next_74 0 rfl ?_
      refine r_geti hC 1 (ci := 7) rfl u7_in (by decide) mT_1_60 dX7_next_75 ka0 rfl rfl (fun x12_ e12 => ?_)
      have r12 := hs8.rng ka0 rfl e12
      have f12 : x12_.toInt = (I8 a0 1).toInt := by rw [e12]
      have w12 : x12_ = x5_ := by rw [e12]; exact (Eq.trans (up2_at (Or.inr (by decide)) eI8) e5.symm)
      have wt12 : x12_.toInt = x5_.toInt := by rw [w12]
      refine r_icmp_ge hC (tgt := 96) dX7_next_78 (by decide) (fun c13 => ?_) (fun c13 => ?_)
      · refine r_iconst hC (v := (-1)) dX7_next_96 (by decide) (by decide) (fun x14_ e14 t14 => ?_)
        have hfst : pl B n p < n → x14_.toInt = B (pl B n p) := fun h9 => by first | (exfalso; omega) | exact (by assumption : x14_.toInt = B _).trans (congrArg B (by omega))
        refine r_istore_n hC (lv' := [(1, .int x14_), (0, .ref a0)]) dX7_next_97 (by decide) rfl ?_
        refine r_aload_n hC dX7_next_98 1 rfl ?_
        refine r_geti hC 4 (ci := 7) rfl u7_in (by decide) mT_1_63 dX7_next_99 ka0 rfl rfl (fun x15_ e15 => ?_)
        have r15 := hs8.rng ka0 rfl e15
        have f15 : x15_.toInt = (I8 a0 4).toInt := by rw [e15]
        have w15 : x15_ = x11_ := by rw [e15]; exact e11.symm
        have wt15 : x15_.toInt = x11_.toInt := by rw [w15]
        refine r_aload_n hC dX7_next_102 1 rfl ?_
        refine r_geti hC 1 (ci := 7) rfl u7_in (by decide) mT_1_60 dX7_next_103 ka0 rfl rfl (fun x16_ e16 => ?_)
        have r16 := hs8.rng ka0 rfl e16
        have f16 : x16_.toInt = (I8 a0 1).toInt := by rw [e16]
        have w16 : x16_ = x12_ := by rw [e16]; exact e12.symm
        have wt16 : x16_.toInt = x12_.toInt := by rw [w16]
        refine r_icmp_lt hC (tgt := 117) dX7_next_106 (by decide) (fun c17 => ?_) (fun c17 => ?_)
        · refine r_iload_n hC dX7_next_117 0 rfl ?_
          refine r_bipush hC (v := (97)) dX7_next_118 (by decide) (by decide) (fun x18_ e18 t18 => ?_)
          refine r_icmp_lt hC (tgt := 136) dX7_next_120 (by decide) (fun c19 => ?_) (fun c19 => ?_)
          rotate_left
          · exfalso; omega
          refine r_iload_n hC dX7_next_136 0 rfl ?_
          refine r_bipush hC (v := (48)) dX7_next_137 (by decide) (by decide) (fun x20_ e20 t20 => ?_)
          refine r_icmp_lt hC (tgt := 155) dX7_next_139 (by decide) (fun c21 => ?_) (fun c21 => ?_)
          rotate_left
          · exfalso; omega
          refine r_aload_n hC dX7_next_155 1 rfl ?_
          refine r_iload_n hC dX7_next_156 0 rfl ?_
          refine r_bipush hC (v := (59)) dX7_next_157 (by decide) (by decide) (fun x22_ e22 t22 => ?_)
          refine r_icmp_ne hC (tgt := 166) dX7_next_159 (by decide) (fun c23 => ?_) (fun c23 => ?_)
          rotate_left
          · exfalso; omega
          refine r_iconst hC (v := (4)) dX7_next_166 (by decide) (by decide) (fun x24_ e24 t24 => ?_)
          refine r_puti hC 3 (ci := 7) rfl u7_in tyX7_ok nmX7 (by decide) mT_1_62 rfl rfl rfl dX7_next_167 ka0 rfl rfl (fun I25 eI25 => ?_)
          have hs25 := hs8.put0 eI25 ka0 rfl rfl rfl (by decide)
          have hF25 := hF8.put eI25 ka0 rfl
          refine r_aload_n hC dX7_next_170 1 rfl ?_
          refine r_aload_n hC dX7_next_171 1 rfl ?_
          refine r_geti hC 4 (ci := 7) rfl u7_in (by decide) mT_1_63 dX7_next_172 ka0 rfl rfl (fun x26_ e26 => ?_)
          have r26 := hs25.rng ka0 rfl e26
          have f26 : x26_.toInt = (I25 a0 4).toInt := by rw [e26]
          have w26 : x26_ = x15_ := by rw [e26]; exact (Eq.trans (up2_at (Or.inr (by decide)) eI25) e15.symm)
          have wt26 : x26_.toInt = x15_.toInt := by rw [w26]
          refine r_iconst hC (v := (1)) dX7_next_175 (by decide) (by decide) (fun x27_ e27 t27 => ?_)
          refine r_iadd hC dX7_next_176 (fun x28_ e28 => ?_)
          try have t28 : x28_.toInt = x26_.toInt + x27_.toInt := by rw [e28]; exact ti_add (by omega) (by omega)
          refine r_puti hC 2 (ci := 7) rfl u7_in tyX7_ok nmX7 (by decide) mT_1_61 rfl rfl rfl dX7_next_177 ka0 rfl rfl (fun I29 eI29 => ?_)
          have hs29 := hs25.put1 eI29 ka0 rfl (by omega) (by omega) rfl rfl (by decide)
          have hF29 := hF25.put eI29 ka0 rfl
          have hv1 : I29 a0 1 = x16_ := (Eq.trans (up2_at (Or.inr (by decide)) eI29) (Eq.trans (up2_at (Or.inr (by decide)) eI25) e16.symm))
          have hv1t : (I29 a0 1).toInt = x16_.toInt := congrArg Int32.toInt hv1
          have hv2 : I29 a0 2 = x28_ := (by rw [eI29]; exact up2_self _ _ _ _)
          have hv2t : (I29 a0 2).toInt = x28_.toInt := congrArg Int32.toInt hv2
          have hv3 : I29 a0 3 = x24_ := (Eq.trans (up2_at (Or.inr (by decide)) eI29) (by rw [eI25]; exact up2_self _ _ _ _))
          have hv3t : (I29 a0 3).toInt = x24_.toInt := congrArg Int32.toInt hv3
          have hv4 : I29 a0 4 = x26_ := (Eq.trans (up2_at (Or.inr (by decide)) eI29) e26.symm)
          have hv4t : (I29 a0 4).toInt = x26_.toInt := congrArg Int32.toInt hv4
          exact r_vret hC hQ hlk hr (by decide) (by decide) dX7_next_180 ⟨_, _, rfl, rfl, ⟨hs29, hF29, hFJ10, (by first | exact TkC_end (by omega) (by omega) (by omega) (by omega) (by omega) | exact TkC_let (by assumption) (by omega) (by assumption) (by omega) (by omega) (fL_t.mpr (by omega)) (by assumption) | exact TkC_dig (by assumption) (by omega) (by assumption) (by omega) (by omega) (fD_t.mpr (by omega)) (by assumption) | exact TkC_oth (by split <;> omega) (by omega) (by omega) (by omega) (by omega) (by omega) (by omega))⟩⟩
        · refine r_aload_n hC dX7_next_109 1 rfl ?_
          refine r_iconst hC (v := (0)) dX7_next_110 (by decide) (by decide) (fun x30_ e30 t30 => ?_)
          refine r_puti hC 3 (ci := 7) rfl u7_in tyX7_ok nmX7 (by decide) mT_1_62 rfl rfl rfl dX7_next_111 ka0 rfl rfl (fun I31 eI31 => ?_)
          have hs31 := hs8.put0 eI31 ka0 rfl rfl rfl (by decide)
          have hF31 := hF8.put eI31 ka0 rfl
          refine r_goto hC (tgt := 180) dX7_next_114 (by decide) ?_
          have hv1 : I31 a0 1 = x16_ := (Eq.trans (up2_at (Or.inr (by decide)) eI31) e16.symm)
          have hv1t : (I31 a0 1).toInt = x16_.toInt := congrArg Int32.toInt hv1
          have hv2 : I31 a0 2 = x7_ := (Eq.trans (up2_at (Or.inr (by decide)) eI31) (by rw [eI8]; exact up2_self _ _ _ _))
          have hv2t : (I31 a0 2).toInt = x7_.toInt := congrArg Int32.toInt hv2
          have hv3 : I31 a0 3 = x30_ := (by rw [eI31]; exact up2_self _ _ _ _)
          have hv3t : (I31 a0 3).toInt = x30_.toInt := congrArg Int32.toInt hv3
          have hv4 : I31 a0 4 = x15_ := (Eq.trans (up2_at (Or.inr (by decide)) eI31) e15.symm)
          have hv4t : (I31 a0 4).toInt = x15_.toInt := congrArg Int32.toInt hv4
          exact r_vret hC hQ hlk hr (by decide) (by decide) dX7_next_180 ⟨_, _, rfl, rfl, ⟨hs31, hF31, hFJ10, (by first | exact TkC_end (by omega) (by omega) (by omega) (by omega) (by omega) | exact TkC_let (by assumption) (by omega) (by assumption) (by omega) (by omega) (fL_t.mpr (by omega)) (by assumption) | exact TkC_dig (by assumption) (by omega) (by assumption) (by omega) (by omega) (fD_t.mpr (by omega)) (by assumption) | exact TkC_oth (by split <;> omega) (by omega) (by omega) (by omega) (by omega) (by omega) (by omega))⟩⟩
      · refine r_aload_n hC dX7_next_81 0 rfl ?_
        refine r_getr hC 0 (ci := 7) rfl u7_in (by decide) mT_1_59 dX7_next_82 ka0 rfl rfl hbt ?_
        refine r_getr hC 0 (ci := 5) rfl u5_in (by decide) mT_1_37 dX7_next_85 hkt rfl rfl hbb ?_
        refine r_aload_n hC dX7_next_88 0 rfl ?_
        refine r_geti hC 4 (ci := 7) rfl u7_in (by decide) mT_1_63 dX7_next_89 ka0 rfl rfl (fun x32_ e32 => ?_)
        have r32 := hs8.rng ka0 rfl e32
        have f32 : x32_.toInt = (I8 a0 4).toInt := by rw [e32]
        have w32 : x32_ = x11_ := by rw [e32]; exact e11.symm
        have wt32 : x32_.toInt = x11_.toInt := by rw [w32]
        refine x_baload hC hkb nbt (by decide) rfl rfl dX7_next_92 (by omega) (by omega) (fun x33_ e33 => ?_)
        have B33 := (hB.mv hF8 hkb (fun _ => rfl)).at e33 (by omega) (by omega)
        refine r_goto hC (tgt := 97) dX7_next_93 (by decide) ?_
        have hfst : pl B n p < n → x33_.toInt = B (pl B n p) := fun h9 => by first | (exfalso; omega) | exact (by assumption : x33_.toInt = B _).trans (congrArg B (by omega))
        refine r_istore_n hC (lv' := [(1, .int x33_), (0, .ref a0)]) dX7_next_97 (by decide) rfl ?_
        refine r_aload_n hC dX7_next_98 1 rfl ?_
        refine r_geti hC 4 (ci := 7) rfl u7_in (by decide) mT_1_63 dX7_next_99 ka0 rfl rfl (fun x34_ e34 => ?_)
        have r34 := hs8.rng ka0 rfl e34
        have f34 : x34_.toInt = (I8 a0 4).toInt := by rw [e34]
        have w34 : x34_ = x32_ := by rw [e34]; exact e32.symm
        have wt34 : x34_.toInt = x32_.toInt := by rw [w34]
        refine r_aload_n hC dX7_next_102 1 rfl ?_
        refine r_geti hC 1 (ci := 7) rfl u7_in (by decide) mT_1_60 dX7_next_103 ka0 rfl rfl (fun x35_ e35 => ?_)
        have r35 := hs8.rng ka0 rfl e35
        have f35 : x35_.toInt = (I8 a0 1).toInt := by rw [e35]
        have w35 : x35_ = x12_ := by rw [e35]; exact e12.symm
        have wt35 : x35_.toInt = x12_.toInt := by rw [w35]
        refine r_icmp_lt hC (tgt := 117) dX7_next_106 (by decide) (fun c36 => ?_) (fun c36 => ?_)
        · refine r_iload_n hC dX7_next_117 0 rfl ?_
          refine r_bipush hC (v := (97)) dX7_next_118 (by decide) (by decide) (fun x37_ e37 t37 => ?_)
          refine r_icmp_lt hC (tgt := 136) dX7_next_120 (by decide) (fun c38 => ?_) (fun c38 => ?_)
          · refine r_iload_n hC dX7_next_136 0 rfl ?_
            refine r_bipush hC (v := (48)) dX7_next_137 (by decide) (by decide) (fun x39_ e39 t39 => ?_)
            refine r_icmp_lt hC (tgt := 155) dX7_next_139 (by decide) (fun c40 => ?_) (fun c40 => ?_)
            · refine r_aload_n hC dX7_next_155 1 rfl ?_
              refine r_iload_n hC dX7_next_156 0 rfl ?_
              refine r_bipush hC (v := (59)) dX7_next_157 (by decide) (by decide) (fun x41_ e41 t41 => ?_)
              refine r_icmp_ne hC (tgt := 166) dX7_next_159 (by decide) (fun c42 => ?_) (fun c42 => ?_)
              · refine r_iconst hC (v := (4)) dX7_next_166 (by decide) (by decide) (fun x43_ e43 t43 => ?_)
                refine r_puti hC 3 (ci := 7) rfl u7_in tyX7_ok nmX7 (by decide) mT_1_62 rfl rfl rfl dX7_next_167 ka0 rfl rfl (fun I44 eI44 => ?_)
                have hs44 := hs8.put0 eI44 ka0 rfl rfl rfl (by decide)
                have hF44 := hF8.put eI44 ka0 rfl
                refine r_aload_n hC dX7_next_170 1 rfl ?_
                refine r_aload_n hC dX7_next_171 1 rfl ?_
                refine r_geti hC 4 (ci := 7) rfl u7_in (by decide) mT_1_63 dX7_next_172 ka0 rfl rfl (fun x45_ e45 => ?_)
                have r45 := hs44.rng ka0 rfl e45
                have f45 : x45_.toInt = (I44 a0 4).toInt := by rw [e45]
                have w45 : x45_ = x34_ := by rw [e45]; exact (Eq.trans (up2_at (Or.inr (by decide)) eI44) e34.symm)
                have wt45 : x45_.toInt = x34_.toInt := by rw [w45]
                refine r_iconst hC (v := (1)) dX7_next_175 (by decide) (by decide) (fun x46_ e46 t46 => ?_)
                refine r_iadd hC dX7_next_176 (fun x47_ e47 => ?_)
                try have t47 : x47_.toInt = x45_.toInt + x46_.toInt := by rw [e47]; exact ti_add (by omega) (by omega)
                refine r_puti hC 2 (ci := 7) rfl u7_in tyX7_ok nmX7 (by decide) mT_1_61 rfl rfl rfl dX7_next_177 ka0 rfl rfl (fun I48 eI48 => ?_)
                have hs48 := hs44.put1 eI48 ka0 rfl (by omega) (by omega) rfl rfl (by decide)
                have hF48 := hF44.put eI48 ka0 rfl
                have hv1 : I48 a0 1 = x35_ := (Eq.trans (up2_at (Or.inr (by decide)) eI48) (Eq.trans (up2_at (Or.inr (by decide)) eI44) e35.symm))
                have hv1t : (I48 a0 1).toInt = x35_.toInt := congrArg Int32.toInt hv1
                have hv2 : I48 a0 2 = x47_ := (by rw [eI48]; exact up2_self _ _ _ _)
                have hv2t : (I48 a0 2).toInt = x47_.toInt := congrArg Int32.toInt hv2
                have hv3 : I48 a0 3 = x43_ := (Eq.trans (up2_at (Or.inr (by decide)) eI48) (by rw [eI44]; exact up2_self _ _ _ _))
                have hv3t : (I48 a0 3).toInt = x43_.toInt := congrArg Int32.toInt hv3
                have hv4 : I48 a0 4 = x45_ := (Eq.trans (up2_at (Or.inr (by decide)) eI48) e45.symm)
                have hv4t : (I48 a0 4).toInt = x45_.toInt := congrArg Int32.toInt hv4
                exact r_vret hC hQ hlk hr (by decide) (by decide) dX7_next_180 ⟨_, _, rfl, rfl, ⟨hs48, hF48, hFJ10, (by first | exact TkC_end (by omega) (by omega) (by omega) (by omega) (by omega) | exact TkC_let (by assumption) (by omega) (by assumption) (by omega) (by omega) (fL_t.mpr (by omega)) (by assumption) | exact TkC_dig (by assumption) (by omega) (by assumption) (by omega) (by omega) (fD_t.mpr (by omega)) (by assumption) | exact TkC_oth (by split <;> omega) (by omega) (by omega) (by omega) (by omega) (by omega) (by omega))⟩⟩
              · refine r_iconst hC (v := (3)) dX7_next_162 (by decide) (by decide) (fun x49_ e49 t49 => ?_)
                refine r_goto hC (tgt := 167) dX7_next_163 (by decide) ?_
                refine r_puti hC 3 (ci := 7) rfl u7_in tyX7_ok nmX7 (by decide) mT_1_62 rfl rfl rfl dX7_next_167 ka0 rfl rfl (fun I50 eI50 => ?_)
                have hs50 := hs8.put0 eI50 ka0 rfl rfl rfl (by decide)
                have hF50 := hF8.put eI50 ka0 rfl
                refine r_aload_n hC dX7_next_170 1 rfl ?_
                refine r_aload_n hC dX7_next_171 1 rfl ?_
                refine r_geti hC 4 (ci := 7) rfl u7_in (by decide) mT_1_63 dX7_next_172 ka0 rfl rfl (fun x51_ e51 => ?_)
                have r51 := hs50.rng ka0 rfl e51
                have f51 : x51_.toInt = (I50 a0 4).toInt := by rw [e51]
                have w51 : x51_ = x34_ := by rw [e51]; exact (Eq.trans (up2_at (Or.inr (by decide)) eI50) e34.symm)
                have wt51 : x51_.toInt = x34_.toInt := by rw [w51]
                refine r_iconst hC (v := (1)) dX7_next_175 (by decide) (by decide) (fun x52_ e52 t52 => ?_)
                refine r_iadd hC dX7_next_176 (fun x53_ e53 => ?_)
                try have t53 : x53_.toInt = x51_.toInt + x52_.toInt := by rw [e53]; exact ti_add (by omega) (by omega)
                refine r_puti hC 2 (ci := 7) rfl u7_in tyX7_ok nmX7 (by decide) mT_1_61 rfl rfl rfl dX7_next_177 ka0 rfl rfl (fun I54 eI54 => ?_)
                have hs54 := hs50.put1 eI54 ka0 rfl (by omega) (by omega) rfl rfl (by decide)
                have hF54 := hF50.put eI54 ka0 rfl
                have hv1 : I54 a0 1 = x35_ := (Eq.trans (up2_at (Or.inr (by decide)) eI54) (Eq.trans (up2_at (Or.inr (by decide)) eI50) e35.symm))
                have hv1t : (I54 a0 1).toInt = x35_.toInt := congrArg Int32.toInt hv1
                have hv2 : I54 a0 2 = x53_ := (by rw [eI54]; exact up2_self _ _ _ _)
                have hv2t : (I54 a0 2).toInt = x53_.toInt := congrArg Int32.toInt hv2
                have hv3 : I54 a0 3 = x49_ := (Eq.trans (up2_at (Or.inr (by decide)) eI54) (by rw [eI50]; exact up2_self _ _ _ _))
                have hv3t : (I54 a0 3).toInt = x49_.toInt := congrArg Int32.toInt hv3
                have hv4 : I54 a0 4 = x51_ := (Eq.trans (up2_at (Or.inr (by decide)) eI54) e51.symm)
                have hv4t : (I54 a0 4).toInt = x51_.toInt := congrArg Int32.toInt hv4
                exact r_vret hC hQ hlk hr (by decide) (by decide) dX7_next_180 ⟨_, _, rfl, rfl, ⟨hs54, hF54, hFJ10, (by first | exact TkC_end (by omega) (by omega) (by omega) (by omega) (by omega) | exact TkC_let (by assumption) (by omega) (by assumption) (by omega) (by omega) (fL_t.mpr (by omega)) (by assumption) | exact TkC_dig (by assumption) (by omega) (by assumption) (by omega) (by omega) (fD_t.mpr (by omega)) (by assumption) | exact TkC_oth (by split <;> omega) (by omega) (by omega) (by omega) (by omega) (by omega) (by omega))⟩⟩
            · refine r_iload_n hC dX7_next_142 0 rfl ?_
              refine r_bipush hC (v := (57)) dX7_next_143 (by decide) (by decide) (fun x55_ e55 t55 => ?_)
              refine r_icmp_gt hC (tgt := 155) dX7_next_145 (by decide) (fun c56 => ?_) (fun c56 => ?_)
              · refine r_aload_n hC dX7_next_155 1 rfl ?_
                refine r_iload_n hC dX7_next_156 0 rfl ?_
                refine r_bipush hC (v := (59)) dX7_next_157 (by decide) (by decide) (fun x57_ e57 t57 => ?_)
                refine r_icmp_ne hC (tgt := 166) dX7_next_159 (by decide) (fun c58 => ?_) (fun c58 => ?_)
                · refine r_iconst hC (v := (4)) dX7_next_166 (by decide) (by decide) (fun x59_ e59 t59 => ?_)
                  refine r_puti hC 3 (ci := 7) rfl u7_in tyX7_ok nmX7 (by decide) mT_1_62 rfl rfl rfl dX7_next_167 ka0 rfl rfl (fun I60 eI60 => ?_)
                  have hs60 := hs8.put0 eI60 ka0 rfl rfl rfl (by decide)
                  have hF60 := hF8.put eI60 ka0 rfl
                  refine r_aload_n hC dX7_next_170 1 rfl ?_
                  refine r_aload_n hC dX7_next_171 1 rfl ?_
                  refine r_geti hC 4 (ci := 7) rfl u7_in (by decide) mT_1_63 dX7_next_172 ka0 rfl rfl (fun x61_ e61 => ?_)
                  have r61 := hs60.rng ka0 rfl e61
                  have f61 : x61_.toInt = (I60 a0 4).toInt := by rw [e61]
                  have w61 : x61_ = x34_ := by rw [e61]; exact (Eq.trans (up2_at (Or.inr (by decide)) eI60) e34.symm)
                  have wt61 : x61_.toInt = x34_.toInt := by rw [w61]
                  refine r_iconst hC (v := (1)) dX7_next_175 (by decide) (by decide) (fun x62_ e62 t62 => ?_)
                  refine r_iadd hC dX7_next_176 (fun x63_ e63 => ?_)
                  try have t63 : x63_.toInt = x61_.toInt + x62_.toInt := by rw [e63]; exact ti_add (by omega) (by omega)
                  refine r_puti hC 2 (ci := 7) rfl u7_in tyX7_ok nmX7 (by decide) mT_1_61 rfl rfl rfl dX7_next_177 ka0 rfl rfl (fun I64 eI64 => ?_)
                  have hs64 := hs60.put1 eI64 ka0 rfl (by omega) (by omega) rfl rfl (by decide)
                  have hF64 := hF60.put eI64 ka0 rfl
                  have hv1 : I64 a0 1 = x35_ := (Eq.trans (up2_at (Or.inr (by decide)) eI64) (Eq.trans (up2_at (Or.inr (by decide)) eI60) e35.symm))
                  have hv1t : (I64 a0 1).toInt = x35_.toInt := congrArg Int32.toInt hv1
                  have hv2 : I64 a0 2 = x63_ := (by rw [eI64]; exact up2_self _ _ _ _)
                  have hv2t : (I64 a0 2).toInt = x63_.toInt := congrArg Int32.toInt hv2
                  have hv3 : I64 a0 3 = x59_ := (Eq.trans (up2_at (Or.inr (by decide)) eI64) (by rw [eI60]; exact up2_self _ _ _ _))
                  have hv3t : (I64 a0 3).toInt = x59_.toInt := congrArg Int32.toInt hv3
                  have hv4 : I64 a0 4 = x61_ := (Eq.trans (up2_at (Or.inr (by decide)) eI64) e61.symm)
                  have hv4t : (I64 a0 4).toInt = x61_.toInt := congrArg Int32.toInt hv4
                  exact r_vret hC hQ hlk hr (by decide) (by decide) dX7_next_180 ⟨_, _, rfl, rfl, ⟨hs64, hF64, hFJ10, (by first | exact TkC_end (by omega) (by omega) (by omega) (by omega) (by omega) | exact TkC_let (by assumption) (by omega) (by assumption) (by omega) (by omega) (fL_t.mpr (by omega)) (by assumption) | exact TkC_dig (by assumption) (by omega) (by assumption) (by omega) (by omega) (fD_t.mpr (by omega)) (by assumption) | exact TkC_oth (by split <;> omega) (by omega) (by omega) (by omega) (by omega) (by omega) (by omega))⟩⟩
                · refine r_iconst hC (v := (3)) dX7_next_162 (by decide) (by decide) (fun x65_ e65 t65 => ?_)
                  refine r_goto hC (tgt := 167) dX7_next_163 (by decide) ?_
                  refine r_puti hC 3 (ci := 7) rfl u7_in tyX7_ok nmX7 (by decide) mT_1_62 rfl rfl rfl dX7_next_167 ka0 rfl rfl (fun I66 eI66 => ?_)
                  have hs66 := hs8.put0 eI66 ka0 rfl rfl rfl (by decide)
                  have hF66 := hF8.put eI66 ka0 rfl
                  refine r_aload_n hC dX7_next_170 1 rfl ?_
                  refine r_aload_n hC dX7_next_171 1 rfl ?_
                  refine r_geti hC 4 (ci := 7) rfl u7_in (by decide) mT_1_63 dX7_next_172 ka0 rfl rfl (fun x67_ e67 => ?_)
                  have r67 := hs66.rng ka0 rfl e67
                  have f67 : x67_.toInt = (I66 a0 4).toInt := by rw [e67]
                  have w67 : x67_ = x34_ := by rw [e67]; exact (Eq.trans (up2_at (Or.inr (by decide)) eI66) e34.symm)
                  have wt67 : x67_.toInt = x34_.toInt := by rw [w67]
                  refine r_iconst hC (v := (1)) dX7_next_175 (by decide) (by decide) (fun x68_ e68 t68 => ?_)
                  refine r_iadd hC dX7_next_176 (fun x69_ e69 => ?_)
                  try have t69 : x69_.toInt = x67_.toInt + x68_.toInt := by rw [e69]; exact ti_add (by omega) (by omega)
                  refine r_puti hC 2 (ci := 7) rfl u7_in tyX7_ok nmX7 (by decide) mT_1_61 rfl rfl rfl dX7_next_177 ka0 rfl rfl (fun I70 eI70 => ?_)
                  have hs70 := hs66.put1 eI70 ka0 rfl (by omega) (by omega) rfl rfl (by decide)
                  have hF70 := hF66.put eI70 ka0 rfl
                  have hv1 : I70 a0 1 = x35_ := (Eq.trans (up2_at (Or.inr (by decide)) eI70) (Eq.trans (up2_at (Or.inr (by decide)) eI66) e35.symm))
                  have hv1t : (I70 a0 1).toInt = x35_.toInt := congrArg Int32.toInt hv1
                  have hv2 : I70 a0 2 = x69_ := (by rw [eI70]; exact up2_self _ _ _ _)
                  have hv2t : (I70 a0 2).toInt = x69_.toInt := congrArg Int32.toInt hv2
                  have hv3 : I70 a0 3 = x65_ := (Eq.trans (up2_at (Or.inr (by decide)) eI70) (by rw [eI66]; exact up2_self _ _ _ _))
                  have hv3t : (I70 a0 3).toInt = x65_.toInt := congrArg Int32.toInt hv3
                  have hv4 : I70 a0 4 = x67_ := (Eq.trans (up2_at (Or.inr (by decide)) eI70) e67.symm)
                  have hv4t : (I70 a0 4).toInt = x67_.toInt := congrArg Int32.toInt hv4
                  exact r_vret hC hQ hlk hr (by decide) (by decide) dX7_next_180 ⟨_, _, rfl, rfl, ⟨hs70, hF70, hFJ10, (by first | exact TkC_end (by omega) (by omega) (by omega) (by omega) (by omega) | exact TkC_let (by assumption) (by omega) (by assumption) (by omega) (by omega) (fL_t.mpr (by omega)) (by assumption) | exact TkC_dig (by assumption) (by omega) (by assumption) (by omega) (by omega) (fD_t.mpr (by omega)) (by assumption) | exact TkC_oth (by split <;> omega) (by omega) (by omega) (by omega) (by omega) (by omega) (by omega))⟩⟩
              · refine r_aload_n hC dX7_next_148 1 rfl ?_
                have hq2 : I8 a0 2 = x7_ := (by rw [eI8]; exact up2_self _ _ _ _)
                have hq2t : (I8 a0 2).toInt = x7_.toInt := congrArg Int32.toInt hq2
                have hq4 : I8 a0 4 = x34_ := e34.symm
                have hq4t : (I8 a0 4).toInt = x34_.toInt := congrArg Int32.toInt hq4
                have hq1 : I8 a0 1 = x35_ := e35.symm
                have hq1t : (I8 a0 1).toInt = x35_.toInt := congrArg Int32.toInt hq1
                refine r_callV hC (As := []) (rest := []) (ci := 7) (f_X7_takeDigits g (xL X) K len I8 J10 R hs8 a0 ka0 tp bt hbt hkt hbb hkb nbt B n (hB.mv hF8 hkb (fun _ => rfl)) hn (pl B n p) (by omega) (by omega) (by omega) (by omega) (by omega)) mT_2_167 mT_1_4 mT_2_164 mT_2_166 mP_2 okX7_takeDigits ⟨by decide, by decide⟩ rfl (by show kO (K a0) = _; rw [ka0]; rfl) rfl rfl (Nat.le_of_ble_eq_true rfl) ⟨by decide, by decide⟩ dX7_next_149 (aV2 (F := fun st M => P g X 2 152 [(1, .int x33_), (0, .ref a0)] st _ _ M) (M := (K, len, I8, J10, R)) fun I71 J71 h71 => ?_)
                obtain ⟨hs71, hf71, hfj71, k71_0, k71_1, k71_2⟩ := h71
                show P g X 2 152 [(1, .int x33_), (0, .ref a0)] [] _ _ (K, len, I71, J71, R)
                have hF71 : Fr K [(8, 2), (8, 3), (8, 4)] I I71 := hF8.trans hf71 rfl rfl
                have hFJ71 : Fr K [(8, 5)] J J71 := hFJ10.trans hfj71 rfl rfl
                refine r_goto hC (tgt := 180) dX7_next_152 (by decide) ?_
                have hv1 : I71 a0 1 = x35_ := (Eq.trans (hf71.get ka0 rfl) e35.symm)
                have hv1t : (I71 a0 1).toInt = x35_.toInt := congrArg Int32.toInt hv1
                have hv4 : I71 a0 4 = x34_ := (Eq.trans (hf71.get ka0 rfl) e34.symm)
                have hv4t : (I71 a0 4).toInt = x34_.toInt := congrArg Int32.toInt hv4
                exact r_vret hC hQ hlk hr (by decide) (by decide) dX7_next_180 ⟨_, _, rfl, rfl, ⟨hs71, hF71, hFJ71, (by first | exact TkC_end (by omega) (by omega) (by omega) (by omega) (by omega) | exact TkC_let (by assumption) (by omega) (by assumption) (by omega) (by omega) (fL_t.mpr (by omega)) (by assumption) | exact TkC_dig (by assumption) (by omega) (by assumption) (by omega) (by omega) (fD_t.mpr (by omega)) (by assumption) | exact TkC_oth (by split <;> omega) (by omega) (by omega) (by omega) (by omega) (by omega) (by omega))⟩⟩
          · refine r_iload_n hC dX7_next_123 0 rfl ?_
            refine r_bipush hC (v := (122)) dX7_next_124 (by decide) (by decide) (fun x72_ e72 t72 => ?_)
            refine r_icmp_gt hC (tgt := 136) dX7_next_126 (by decide) (fun c73 => ?_) (fun c73 => ?_)
            · refine r_iload_n hC dX7_next_136 0 rfl ?_
              refine r_bipush hC (v := (48)) dX7_next_137 (by decide) (by decide) (fun x74_ e74 t74 => ?_)
              refine r_icmp_lt hC (tgt := 155) dX7_next_139 (by decide) (fun c75 => ?_) (fun c75 => ?_)
              · refine r_aload_n hC dX7_next_155 1 rfl ?_
                refine r_iload_n hC dX7_next_156 0 rfl ?_
                refine r_bipush hC (v := (59)) dX7_next_157 (by decide) (by decide) (fun x76_ e76 t76 => ?_)
                refine r_icmp_ne hC (tgt := 166) dX7_next_159 (by decide) (fun c77 => ?_) (fun c77 => ?_)
                · refine r_iconst hC (v := (4)) dX7_next_166 (by decide) (by decide) (fun x78_ e78 t78 => ?_)
                  refine r_puti hC 3 (ci := 7) rfl u7_in tyX7_ok nmX7 (by decide) mT_1_62 rfl rfl rfl dX7_next_167 ka0 rfl rfl (fun I79 eI79 => ?_)
                  have hs79 := hs8.put0 eI79 ka0 rfl rfl rfl (by decide)
                  have hF79 := hF8.put eI79 ka0 rfl
                  refine r_aload_n hC dX7_next_170 1 rfl ?_
                  refine r_aload_n hC dX7_next_171 1 rfl ?_
                  refine r_geti hC 4 (ci := 7) rfl u7_in (by decide) mT_1_63 dX7_next_172 ka0 rfl rfl (fun x80_ e80 => ?_)
                  have r80 := hs79.rng ka0 rfl e80
                  have f80 : x80_.toInt = (I79 a0 4).toInt := by rw [e80]
                  have w80 : x80_ = x34_ := by rw [e80]; exact (Eq.trans (up2_at (Or.inr (by decide)) eI79) e34.symm)
                  have wt80 : x80_.toInt = x34_.toInt := by rw [w80]
                  refine r_iconst hC (v := (1)) dX7_next_175 (by decide) (by decide) (fun x81_ e81 t81 => ?_)
                  refine r_iadd hC dX7_next_176 (fun x82_ e82 => ?_)
                  try have t82 : x82_.toInt = x80_.toInt + x81_.toInt := by rw [e82]; exact ti_add (by omega) (by omega)
                  refine r_puti hC 2 (ci := 7) rfl u7_in tyX7_ok nmX7 (by decide) mT_1_61 rfl rfl rfl dX7_next_177 ka0 rfl rfl (fun I83 eI83 => ?_)
                  have hs83 := hs79.put1 eI83 ka0 rfl (by omega) (by omega) rfl rfl (by decide)
                  have hF83 := hF79.put eI83 ka0 rfl
                  have hv1 : I83 a0 1 = x35_ := (Eq.trans (up2_at (Or.inr (by decide)) eI83) (Eq.trans (up2_at (Or.inr (by decide)) eI79) e35.symm))
                  have hv1t : (I83 a0 1).toInt = x35_.toInt := congrArg Int32.toInt hv1
                  have hv2 : I83 a0 2 = x82_ := (by rw [eI83]; exact up2_self _ _ _ _)
                  have hv2t : (I83 a0 2).toInt = x82_.toInt := congrArg Int32.toInt hv2
                  have hv3 : I83 a0 3 = x78_ := (Eq.trans (up2_at (Or.inr (by decide)) eI83) (by rw [eI79]; exact up2_self _ _ _ _))
                  have hv3t : (I83 a0 3).toInt = x78_.toInt := congrArg Int32.toInt hv3
                  have hv4 : I83 a0 4 = x80_ := (Eq.trans (up2_at (Or.inr (by decide)) eI83) e80.symm)
                  have hv4t : (I83 a0 4).toInt = x80_.toInt := congrArg Int32.toInt hv4
                  exact r_vret hC hQ hlk hr (by decide) (by decide) dX7_next_180 ⟨_, _, rfl, rfl, ⟨hs83, hF83, hFJ10, (by first | exact TkC_end (by omega) (by omega) (by omega) (by omega) (by omega) | exact TkC_let (by assumption) (by omega) (by assumption) (by omega) (by omega) (fL_t.mpr (by omega)) (by assumption) | exact TkC_dig (by assumption) (by omega) (by assumption) (by omega) (by omega) (fD_t.mpr (by omega)) (by assumption) | exact TkC_oth (by split <;> omega) (by omega) (by omega) (by omega) (by omega) (by omega) (by omega))⟩⟩
                · refine r_iconst hC (v := (3)) dX7_next_162 (by decide) (by decide) (fun x84_ e84 t84 => ?_)
                  refine r_goto hC (tgt := 167) dX7_next_163 (by decide) ?_
                  refine r_puti hC 3 (ci := 7) rfl u7_in tyX7_ok nmX7 (by decide) mT_1_62 rfl rfl rfl dX7_next_167 ka0 rfl rfl (fun I85 eI85 => ?_)
                  have hs85 := hs8.put0 eI85 ka0 rfl rfl rfl (by decide)
                  have hF85 := hF8.put eI85 ka0 rfl
                  refine r_aload_n hC dX7_next_170 1 rfl ?_
                  refine r_aload_n hC dX7_next_171 1 rfl ?_
                  refine r_geti hC 4 (ci := 7) rfl u7_in (by decide) mT_1_63 dX7_next_172 ka0 rfl rfl (fun x86_ e86 => ?_)
                  have r86 := hs85.rng ka0 rfl e86
                  have f86 : x86_.toInt = (I85 a0 4).toInt := by rw [e86]
                  have w86 : x86_ = x34_ := by rw [e86]; exact (Eq.trans (up2_at (Or.inr (by decide)) eI85) e34.symm)
                  have wt86 : x86_.toInt = x34_.toInt := by rw [w86]
                  refine r_iconst hC (v := (1)) dX7_next_175 (by decide) (by decide) (fun x87_ e87 t87 => ?_)
                  refine r_iadd hC dX7_next_176 (fun x88_ e88 => ?_)
                  try have t88 : x88_.toInt = x86_.toInt + x87_.toInt := by rw [e88]; exact ti_add (by omega) (by omega)
                  refine r_puti hC 2 (ci := 7) rfl u7_in tyX7_ok nmX7 (by decide) mT_1_61 rfl rfl rfl dX7_next_177 ka0 rfl rfl (fun I89 eI89 => ?_)
                  have hs89 := hs85.put1 eI89 ka0 rfl (by omega) (by omega) rfl rfl (by decide)
                  have hF89 := hF85.put eI89 ka0 rfl
                  have hv1 : I89 a0 1 = x35_ := (Eq.trans (up2_at (Or.inr (by decide)) eI89) (Eq.trans (up2_at (Or.inr (by decide)) eI85) e35.symm))
                  have hv1t : (I89 a0 1).toInt = x35_.toInt := congrArg Int32.toInt hv1
                  have hv2 : I89 a0 2 = x88_ := (by rw [eI89]; exact up2_self _ _ _ _)
                  have hv2t : (I89 a0 2).toInt = x88_.toInt := congrArg Int32.toInt hv2
                  have hv3 : I89 a0 3 = x84_ := (Eq.trans (up2_at (Or.inr (by decide)) eI89) (by rw [eI85]; exact up2_self _ _ _ _))
                  have hv3t : (I89 a0 3).toInt = x84_.toInt := congrArg Int32.toInt hv3
                  have hv4 : I89 a0 4 = x86_ := (Eq.trans (up2_at (Or.inr (by decide)) eI89) e86.symm)
                  have hv4t : (I89 a0 4).toInt = x86_.toInt := congrArg Int32.toInt hv4
                  exact r_vret hC hQ hlk hr (by decide) (by decide) dX7_next_180 ⟨_, _, rfl, rfl, ⟨hs89, hF89, hFJ10, (by first | exact TkC_end (by omega) (by omega) (by omega) (by omega) (by omega) | exact TkC_let (by assumption) (by omega) (by assumption) (by omega) (by omega) (fL_t.mpr (by omega)) (by assumption) | exact TkC_dig (by assumption) (by omega) (by assumption) (by omega) (by omega) (fD_t.mpr (by omega)) (by assumption) | exact TkC_oth (by split <;> omega) (by omega) (by omega) (by omega) (by omega) (by omega) (by omega))⟩⟩
              · refine r_iload_n hC dX7_next_142 0 rfl ?_
                refine r_bipush hC (v := (57)) dX7_next_143 (by decide) (by decide) (fun x90_ e90 t90 => ?_)
                refine r_icmp_gt hC (tgt := 155) dX7_next_145 (by decide) (fun c91 => ?_) (fun c91 => ?_)
                · refine r_aload_n hC dX7_next_155 1 rfl ?_
                  refine r_iload_n hC dX7_next_156 0 rfl ?_
                  refine r_bipush hC (v := (59)) dX7_next_157 (by decide) (by decide) (fun x92_ e92 t92 => ?_)
                  refine r_icmp_ne hC (tgt := 166) dX7_next_159 (by decide) (fun c93 => ?_) (fun c93 => ?_)
                  · refine r_iconst hC (v := (4)) dX7_next_166 (by decide) (by decide) (fun x94_ e94 t94 => ?_)
                    refine r_puti hC 3 (ci := 7) rfl u7_in tyX7_ok nmX7 (by decide) mT_1_62 rfl rfl rfl dX7_next_167 ka0 rfl rfl (fun I95 eI95 => ?_)
                    have hs95 := hs8.put0 eI95 ka0 rfl rfl rfl (by decide)
                    have hF95 := hF8.put eI95 ka0 rfl
                    refine r_aload_n hC dX7_next_170 1 rfl ?_
                    refine r_aload_n hC dX7_next_171 1 rfl ?_
                    refine r_geti hC 4 (ci := 7) rfl u7_in (by decide) mT_1_63 dX7_next_172 ka0 rfl rfl (fun x96_ e96 => ?_)
                    have r96 := hs95.rng ka0 rfl e96
                    have f96 : x96_.toInt = (I95 a0 4).toInt := by rw [e96]
                    have w96 : x96_ = x34_ := by rw [e96]; exact (Eq.trans (up2_at (Or.inr (by decide)) eI95) e34.symm)
                    have wt96 : x96_.toInt = x34_.toInt := by rw [w96]
                    refine r_iconst hC (v := (1)) dX7_next_175 (by decide) (by decide) (fun x97_ e97 t97 => ?_)
                    refine r_iadd hC dX7_next_176 (fun x98_ e98 => ?_)
                    try have t98 : x98_.toInt = x96_.toInt + x97_.toInt := by rw [e98]; exact ti_add (by omega) (by omega)
                    refine r_puti hC 2 (ci := 7) rfl u7_in tyX7_ok nmX7 (by decide) mT_1_61 rfl rfl rfl dX7_next_177 ka0 rfl rfl (fun I99 eI99 => ?_)
                    have hs99 := hs95.put1 eI99 ka0 rfl (by omega) (by omega) rfl rfl (by decide)
                    have hF99 := hF95.put eI99 ka0 rfl
                    have hv1 : I99 a0 1 = x35_ := (Eq.trans (up2_at (Or.inr (by decide)) eI99) (Eq.trans (up2_at (Or.inr (by decide)) eI95) e35.symm))
                    have hv1t : (I99 a0 1).toInt = x35_.toInt := congrArg Int32.toInt hv1
                    have hv2 : I99 a0 2 = x98_ := (by rw [eI99]; exact up2_self _ _ _ _)
                    have hv2t : (I99 a0 2).toInt = x98_.toInt := congrArg Int32.toInt hv2
                    have hv3 : I99 a0 3 = x94_ := (Eq.trans (up2_at (Or.inr (by decide)) eI99) (by rw [eI95]; exact up2_self _ _ _ _))
                    have hv3t : (I99 a0 3).toInt = x94_.toInt := congrArg Int32.toInt hv3
                    have hv4 : I99 a0 4 = x96_ := (Eq.trans (up2_at (Or.inr (by decide)) eI99) e96.symm)
                    have hv4t : (I99 a0 4).toInt = x96_.toInt := congrArg Int32.toInt hv4
                    exact r_vret hC hQ hlk hr (by decide) (by decide) dX7_next_180 ⟨_, _, rfl, rfl, ⟨hs99, hF99, hFJ10, (by first | exact TkC_end (by omega) (by omega) (by omega) (by omega) (by omega) | exact TkC_let (by assumption) (by omega) (by assumption) (by omega) (by omega) (fL_t.mpr (by omega)) (by assumption) | exact TkC_dig (by assumption) (by omega) (by assumption) (by omega) (by omega) (fD_t.mpr (by omega)) (by assumption) | exact TkC_oth (by split <;> omega) (by omega) (by omega) (by omega) (by omega) (by omega) (by omega))⟩⟩
                  · refine r_iconst hC (v := (3)) dX7_next_162 (by decide) (by decide) (fun x100_ e100 t100 => ?_)
                    refine r_goto hC (tgt := 167) dX7_next_163 (by decide) ?_
                    refine r_puti hC 3 (ci := 7) rfl u7_in tyX7_ok nmX7 (by decide) mT_1_62 rfl rfl rfl dX7_next_167 ka0 rfl rfl (fun I101 eI101 => ?_)
                    have hs101 := hs8.put0 eI101 ka0 rfl rfl rfl (by decide)
                    have hF101 := hF8.put eI101 ka0 rfl
                    refine r_aload_n hC dX7_next_170 1 rfl ?_
                    refine r_aload_n hC dX7_next_171 1 rfl ?_
                    refine r_geti hC 4 (ci := 7) rfl u7_in (by decide) mT_1_63 dX7_next_172 ka0 rfl rfl (fun x102_ e102 => ?_)
                    have r102 := hs101.rng ka0 rfl e102
                    have f102 : x102_.toInt = (I101 a0 4).toInt := by rw [e102]
                    have w102 : x102_ = x34_ := by rw [e102]; exact (Eq.trans (up2_at (Or.inr (by decide)) eI101) e34.symm)
                    have wt102 : x102_.toInt = x34_.toInt := by rw [w102]
                    refine r_iconst hC (v := (1)) dX7_next_175 (by decide) (by decide) (fun x103_ e103 t103 => ?_)
                    refine r_iadd hC dX7_next_176 (fun x104_ e104 => ?_)
                    try have t104 : x104_.toInt = x102_.toInt + x103_.toInt := by rw [e104]; exact ti_add (by omega) (by omega)
                    refine r_puti hC 2 (ci := 7) rfl u7_in tyX7_ok nmX7 (by decide) mT_1_61 rfl rfl rfl dX7_next_177 ka0 rfl rfl (fun I105 eI105 => ?_)
                    have hs105 := hs101.put1 eI105 ka0 rfl (by omega) (by omega) rfl rfl (by decide)
                    have hF105 := hF101.put eI105 ka0 rfl
                    have hv1 : I105 a0 1 = x35_ := (Eq.trans (up2_at (Or.inr (by decide)) eI105) (Eq.trans (up2_at (Or.inr (by decide)) eI101) e35.symm))
                    have hv1t : (I105 a0 1).toInt = x35_.toInt := congrArg Int32.toInt hv1
                    have hv2 : I105 a0 2 = x104_ := (by rw [eI105]; exact up2_self _ _ _ _)
                    have hv2t : (I105 a0 2).toInt = x104_.toInt := congrArg Int32.toInt hv2
                    have hv3 : I105 a0 3 = x100_ := (Eq.trans (up2_at (Or.inr (by decide)) eI105) (by rw [eI101]; exact up2_self _ _ _ _))
                    have hv3t : (I105 a0 3).toInt = x100_.toInt := congrArg Int32.toInt hv3
                    have hv4 : I105 a0 4 = x102_ := (Eq.trans (up2_at (Or.inr (by decide)) eI105) e102.symm)
                    have hv4t : (I105 a0 4).toInt = x102_.toInt := congrArg Int32.toInt hv4
                    exact r_vret hC hQ hlk hr (by decide) (by decide) dX7_next_180 ⟨_, _, rfl, rfl, ⟨hs105, hF105, hFJ10, (by first | exact TkC_end (by omega) (by omega) (by omega) (by omega) (by omega) | exact TkC_let (by assumption) (by omega) (by assumption) (by omega) (by omega) (fL_t.mpr (by omega)) (by assumption) | exact TkC_dig (by assumption) (by omega) (by assumption) (by omega) (by omega) (fD_t.mpr (by omega)) (by assumption) | exact TkC_oth (by split <;> omega) (by omega) (by omega) (by omega) (by omega) (by omega) (by omega))⟩⟩
                · refine r_aload_n hC dX7_next_148 1 rfl ?_
                  have hq2 : I8 a0 2 = x7_ := (by rw [eI8]; exact up2_self _ _ _ _)
                  have hq2t : (I8 a0 2).toInt = x7_.toInt := congrArg Int32.toInt hq2
                  have hq4 : I8 a0 4 = x34_ := e34.symm
                  have hq4t : (I8 a0 4).toInt = x34_.toInt := congrArg Int32.toInt hq4
                  have hq1 : I8 a0 1 = x35_ := e35.symm
                  have hq1t : (I8 a0 1).toInt = x35_.toInt := congrArg Int32.toInt hq1
                  refine r_callV hC (As := []) (rest := []) (ci := 7) (f_X7_takeDigits g (xL X) K len I8 J10 R hs8 a0 ka0 tp bt hbt hkt hbb hkb nbt B n (hB.mv hF8 hkb (fun _ => rfl)) hn (pl B n p) (by omega) (by omega) (by omega) (by omega) (by omega)) mT_2_167 mT_1_4 mT_2_164 mT_2_166 mP_2 okX7_takeDigits ⟨by decide, by decide⟩ rfl (by show kO (K a0) = _; rw [ka0]; rfl) rfl rfl (Nat.le_of_ble_eq_true rfl) ⟨by decide, by decide⟩ dX7_next_149 (aV2 (F := fun st M => P g X 2 152 [(1, .int x33_), (0, .ref a0)] st _ _ M) (M := (K, len, I8, J10, R)) fun I106 J106 h106 => ?_)
                  obtain ⟨hs106, hf106, hfj106, k106_0, k106_1, k106_2⟩ := h106
                  show P g X 2 152 [(1, .int x33_), (0, .ref a0)] [] _ _ (K, len, I106, J106, R)
                  have hF106 : Fr K [(8, 2), (8, 3), (8, 4)] I I106 := hF8.trans hf106 rfl rfl
                  have hFJ106 : Fr K [(8, 5)] J J106 := hFJ10.trans hfj106 rfl rfl
                  refine r_goto hC (tgt := 180) dX7_next_152 (by decide) ?_
                  have hv1 : I106 a0 1 = x35_ := (Eq.trans (hf106.get ka0 rfl) e35.symm)
                  have hv1t : (I106 a0 1).toInt = x35_.toInt := congrArg Int32.toInt hv1
                  have hv4 : I106 a0 4 = x34_ := (Eq.trans (hf106.get ka0 rfl) e34.symm)
                  have hv4t : (I106 a0 4).toInt = x34_.toInt := congrArg Int32.toInt hv4
                  exact r_vret hC hQ hlk hr (by decide) (by decide) dX7_next_180 ⟨_, _, rfl, rfl, ⟨hs106, hF106, hFJ106, (by first | exact TkC_end (by omega) (by omega) (by omega) (by omega) (by omega) | exact TkC_let (by assumption) (by omega) (by assumption) (by omega) (by omega) (fL_t.mpr (by omega)) (by assumption) | exact TkC_dig (by assumption) (by omega) (by assumption) (by omega) (by omega) (fD_t.mpr (by omega)) (by assumption) | exact TkC_oth (by split <;> omega) (by omega) (by omega) (by omega) (by omega) (by omega) (by omega))⟩⟩
            · refine r_aload_n hC dX7_next_129 1 rfl ?_
              have hq2 : I8 a0 2 = x7_ := (by rw [eI8]; exact up2_self _ _ _ _)
              have hq2t : (I8 a0 2).toInt = x7_.toInt := congrArg Int32.toInt hq2
              have hq4 : I8 a0 4 = x34_ := e34.symm
              have hq4t : (I8 a0 4).toInt = x34_.toInt := congrArg Int32.toInt hq4
              have hq1 : I8 a0 1 = x35_ := e35.symm
              have hq1t : (I8 a0 1).toInt = x35_.toInt := congrArg Int32.toInt hq1
              refine r_callV hC (As := []) (rest := []) (ci := 7) (f_X7_takeLetters g (xL X) K len I8 J10 R hs8 a0 ka0 tp bt hbt hkt hbb hkb nbt B n (hB.mv hF8 hkb (fun _ => rfl)) hn (pl B n p) (by omega) (by omega) (by omega) (by omega) (by omega)) mT_2_163 mT_1_4 mT_2_160 mT_2_162 mP_1 okX7_takeLetters ⟨by decide, by decide⟩ rfl (by show kO (K a0) = _; rw [ka0]; rfl) rfl rfl (Nat.le_of_ble_eq_true rfl) ⟨by decide, by decide⟩ dX7_next_130 (aV2 (F := fun st M => P g X 2 133 [(1, .int x33_), (0, .ref a0)] st _ _ M) (M := (K, len, I8, J10, R)) fun I107 J107 h107 => ?_)
              obtain ⟨hs107, hf107, hfj107, k107_0, k107_1, k107_2⟩ := h107
              show P g X 2 133 [(1, .int x33_), (0, .ref a0)] [] _ _ (K, len, I107, J107, R)
              have hF107 : Fr K [(8, 2), (8, 3), (8, 4)] I I107 := hF8.trans hf107 rfl rfl
              have hFJ107 : Fr K [(8, 5)] J J107 := hFJ10.trans hfj107 rfl rfl
              refine r_goto hC (tgt := 180) dX7_next_133 (by decide) ?_
              have hv1 : I107 a0 1 = x35_ := (Eq.trans (hf107.get ka0 rfl) e35.symm)
              have hv1t : (I107 a0 1).toInt = x35_.toInt := congrArg Int32.toInt hv1
              have hv4 : I107 a0 4 = x34_ := (Eq.trans (hf107.get ka0 rfl) e34.symm)
              have hv4t : (I107 a0 4).toInt = x34_.toInt := congrArg Int32.toInt hv4
              exact r_vret hC hQ hlk hr (by decide) (by decide) dX7_next_180 ⟨_, _, rfl, rfl, ⟨hs107, hF107, hFJ107, (by first | exact TkC_end (by omega) (by omega) (by omega) (by omega) (by omega) | exact TkC_let (by assumption) (by omega) (by assumption) (by omega) (by omega) (fL_t.mpr (by omega)) (by assumption) | exact TkC_dig (by assumption) (by omega) (by assumption) (by omega) (by omega) (fD_t.mpr (by omega)) (by assumption) | exact TkC_oth (by split <;> omega) (by omega) (by omega) (by omega) (by omega) (by omega) (by omega))⟩⟩
        · refine r_aload_n hC dX7_next_109 1 rfl ?_
          refine r_iconst hC (v := (0)) dX7_next_110 (by decide) (by decide) (fun x108_ e108 t108 => ?_)
          refine r_puti hC 3 (ci := 7) rfl u7_in tyX7_ok nmX7 (by decide) mT_1_62 rfl rfl rfl dX7_next_111 ka0 rfl rfl (fun I109 eI109 => ?_)
          have hs109 := hs8.put0 eI109 ka0 rfl rfl rfl (by decide)
          have hF109 := hF8.put eI109 ka0 rfl
          refine r_goto hC (tgt := 180) dX7_next_114 (by decide) ?_
          have hv1 : I109 a0 1 = x35_ := (Eq.trans (up2_at (Or.inr (by decide)) eI109) e35.symm)
          have hv1t : (I109 a0 1).toInt = x35_.toInt := congrArg Int32.toInt hv1
          have hv2 : I109 a0 2 = x7_ := (Eq.trans (up2_at (Or.inr (by decide)) eI109) (by rw [eI8]; exact up2_self _ _ _ _))
          have hv2t : (I109 a0 2).toInt = x7_.toInt := congrArg Int32.toInt hv2
          have hv3 : I109 a0 3 = x108_ := (by rw [eI109]; exact up2_self _ _ _ _)
          have hv3t : (I109 a0 3).toInt = x108_.toInt := congrArg Int32.toInt hv3
          have hv4 : I109 a0 4 = x34_ := (Eq.trans (up2_at (Or.inr (by decide)) eI109) e34.symm)
          have hv4t : (I109 a0 4).toInt = x34_.toInt := congrArg Int32.toInt hv4
          exact r_vret hC hQ hlk hr (by decide) (by decide) dX7_next_180 ⟨_, _, rfl, rfl, ⟨hs109, hF109, hFJ10, (by first | exact TkC_end (by omega) (by omega) (by omega) (by omega) (by omega) | exact TkC_let (by assumption) (by omega) (by assumption) (by omega) (by omega) (fL_t.mpr (by omega)) (by assumption) | exact TkC_dig (by assumption) (by omega) (by assumption) (by omega) (by omega) (fD_t.mpr (by omega)) (by assumption) | exact TkC_oth (by split <;> omega) (by omega) (by omega) (by omega) (by omega) (by omega) (by omega))⟩⟩
    · refine r_aload_n hC dX7_next_21 0 rfl ?_
      refine r_geti hC 4 (ci := 7) rfl u7_in (by decide) mT_1_63 dX7_next_22 ka0 rfl rfl (fun x110_ e110 => ?_)
      have r110 := hs4.rng ka0 rfl e110
      have f110 : x110_.toInt = (I4 a0 4).toInt := by rw [e110]
      refine r_aload_n hC dX7_next_25 0 rfl ?_
      refine r_geti hC 1 (ci := 7) rfl u7_in (by decide) mT_1_60 dX7_next_26 ka0 rfl rfl (fun x111_ e111 => ?_)
      have r111 := hs4.rng ka0 rfl e111
      have f111 : x111_.toInt = (I4 a0 1).toInt := by rw [e111]
      have w111 : x111_ = x5_ := by rw [e111]; exact e5.symm
      have wt111 : x111_.toInt = x5_.toInt := by rw [w111]
      refine r_icmp_ne hC (tgt := 57) dX7_next_29 (by decide) (fun c112 => ?_) (fun c112 => ?_)
      · have hpl : (pl B n p : Int) = (I4 a0 4).toInt := rn_at (by omega) (by omega) (fun j h1 h2 => v4_2 j h1 (by omega) (by omega)) (fun h9 => by rcases v4_3 with h8 | ⟨h8, h7, h6⟩ <;> first | exact h7 | (exfalso; omega))
        refine r_aload_n hC dX7_next_57 0 rfl ?_
        refine r_aload_n hC dX7_next_58 0 rfl ?_
        refine r_geti hC 4 (ci := 7) rfl u7_in (by decide) mT_1_63 dX7_next_59 ka0 rfl rfl (fun x113_ e113 => ?_)
        have r113 := hs4.rng ka0 rfl e113
        have f113 : x113_.toInt = (I4 a0 4).toInt := by rw [e113]
        have w113 : x113_ = x110_ := by rw [e113]; exact e110.symm
        have wt113 : x113_.toInt = x110_.toInt := by rw [w113]
        refine r_puti hC 2 (ci := 7) rfl u7_in tyX7_ok nmX7 (by decide) mT_1_61 rfl rfl rfl dX7_next_62 ka0 rfl rfl (fun I114 eI114 => ?_)
        have hs114 := hs4.put1 eI114 ka0 rfl (by omega) (by omega) rfl rfl (by decide)
        have hF114 := hF4.put eI114 ka0 rfl
        refine r_aload_n hC dX7_next_65 0 rfl ?_
        refine r_lconst hC (v := 0) dX7_next_66 (by decide) (fun y115_ e115 => ?_)
        have tj115 : y115_.toInt = 0 := by rw [e115]; rfl
        refine r_putj hC 5 (ci := 7) rfl u7_in tyX7_ok nmX7 (by decide) mT_1_65 rfl rfl rfl dX7_next_67 ka0 rfl rfl (fun J116 eJ116 => ?_)
        have hFJ116 := hFJ.put eJ116 ka0 rfl
        have hj116 : (J116 a0 5).toInt = y115_.toInt := by rw [eJ116, up2_self]
        refine r_aload_n hC dX7_next_70 0 rfl ?_
        refine r_geti hC 4 (ci := 7) rfl u7_in (by decide) mT_1_63 dX7_next_71 ka0 rfl rfl (fun x117_ e117 => ?_)
        have r117 := hs114.rng ka0 rfl e117
        have f117 : x117_.toInt = (I114 a0 4).toInt := by rw [e117]
        have w117 : x117_ = x113_ := by rw [e117]; exact (Eq.trans (up2_at (Or.inr (by decide)) eI114) e113.symm)
        have wt117 : x117_.toInt = x113_.toInt := by rw [w117]
        refine r_aload_n hC dX7_next_74 0 rfl ?_
        refine r_geti hC 1 (ci := 7) rfl u7_in (by decide) mT_1_60 dX7_next_75 ka0 rfl rfl (fun x118_ e118 => ?_)
        have r118 := hs114.rng ka0 rfl e118
        have f118 : x118_.toInt = (I114 a0 1).toInt := by rw [e118]
        have w118 : x118_ = x111_ := by rw [e118]; exact (Eq.trans (up2_at (Or.inr (by decide)) eI114) e111.symm)
        have wt118 : x118_.toInt = x111_.toInt := by rw [w118]
        refine r_icmp_ge hC (tgt := 96) dX7_next_78 (by decide) (fun c119 => ?_) (fun c119 => ?_)
        · refine r_iconst hC (v := (-1)) dX7_next_96 (by decide) (by decide) (fun x120_ e120 t120 => ?_)
          have hfst : pl B n p < n → x120_.toInt = B (pl B n p) := fun h9 => by first | (exfalso; omega) | exact (by assumption : x120_.toInt = B _).trans (congrArg B (by omega))
          refine r_istore_n hC (lv' := [(1, .int x120_), (0, .ref a0)]) dX7_next_97 (by decide) rfl ?_
          refine r_aload_n hC dX7_next_98 1 rfl ?_
          refine r_geti hC 4 (ci := 7) rfl u7_in (by decide) mT_1_63 dX7_next_99 ka0 rfl rfl (fun x121_ e121 => ?_)
          have r121 := hs114.rng ka0 rfl e121
          have f121 : x121_.toInt = (I114 a0 4).toInt := by rw [e121]
          have w121 : x121_ = x117_ := by rw [e121]; exact e117.symm
          have wt121 : x121_.toInt = x117_.toInt := by rw [w121]
          refine r_aload_n hC dX7_next_102 1 rfl ?_
          refine r_geti hC 1 (ci := 7) rfl u7_in (by decide) mT_1_60 dX7_next_103 ka0 rfl rfl (fun x122_ e122 => ?_)
          have r122 := hs114.rng ka0 rfl e122
          have f122 : x122_.toInt = (I114 a0 1).toInt := by rw [e122]
          have w122 : x122_ = x118_ := by rw [e122]; exact e118.symm
          have wt122 : x122_.toInt = x118_.toInt := by rw [w122]
          refine r_icmp_lt hC (tgt := 117) dX7_next_106 (by decide) (fun c123 => ?_) (fun c123 => ?_)
          · refine r_iload_n hC dX7_next_117 0 rfl ?_
            refine r_bipush hC (v := (97)) dX7_next_118 (by decide) (by decide) (fun x124_ e124 t124 => ?_)
            refine r_icmp_lt hC (tgt := 136) dX7_next_120 (by decide) (fun c125 => ?_) (fun c125 => ?_)
            rotate_left
            · exfalso; omega
            refine r_iload_n hC dX7_next_136 0 rfl ?_
            refine r_bipush hC (v := (48)) dX7_next_137 (by decide) (by decide) (fun x126_ e126 t126 => ?_)
            refine r_icmp_lt hC (tgt := 155) dX7_next_139 (by decide) (fun c127 => ?_) (fun c127 => ?_)
            rotate_left
            · exfalso; omega
            refine r_aload_n hC dX7_next_155 1 rfl ?_
            refine r_iload_n hC dX7_next_156 0 rfl ?_
            refine r_bipush hC (v := (59)) dX7_next_157 (by decide) (by decide) (fun x128_ e128 t128 => ?_)
            refine r_icmp_ne hC (tgt := 166) dX7_next_159 (by decide) (fun c129 => ?_) (fun c129 => ?_)
            rotate_left
            · exfalso; omega
            refine r_iconst hC (v := (4)) dX7_next_166 (by decide) (by decide) (fun x130_ e130 t130 => ?_)
            refine r_puti hC 3 (ci := 7) rfl u7_in tyX7_ok nmX7 (by decide) mT_1_62 rfl rfl rfl dX7_next_167 ka0 rfl rfl (fun I131 eI131 => ?_)
            have hs131 := hs114.put0 eI131 ka0 rfl rfl rfl (by decide)
            have hF131 := hF114.put eI131 ka0 rfl
            refine r_aload_n hC dX7_next_170 1 rfl ?_
            refine r_aload_n hC dX7_next_171 1 rfl ?_
            refine r_geti hC 4 (ci := 7) rfl u7_in (by decide) mT_1_63 dX7_next_172 ka0 rfl rfl (fun x132_ e132 => ?_)
            have r132 := hs131.rng ka0 rfl e132
            have f132 : x132_.toInt = (I131 a0 4).toInt := by rw [e132]
            have w132 : x132_ = x121_ := by rw [e132]; exact (Eq.trans (up2_at (Or.inr (by decide)) eI131) e121.symm)
            have wt132 : x132_.toInt = x121_.toInt := by rw [w132]
            refine r_iconst hC (v := (1)) dX7_next_175 (by decide) (by decide) (fun x133_ e133 t133 => ?_)
            refine r_iadd hC dX7_next_176 (fun x134_ e134 => ?_)
            try have t134 : x134_.toInt = x132_.toInt + x133_.toInt := by rw [e134]; exact ti_add (by omega) (by omega)
            refine r_puti hC 2 (ci := 7) rfl u7_in tyX7_ok nmX7 (by decide) mT_1_61 rfl rfl rfl dX7_next_177 ka0 rfl rfl (fun I135 eI135 => ?_)
            have hs135 := hs131.put1 eI135 ka0 rfl (by omega) (by omega) rfl rfl (by decide)
            have hF135 := hF131.put eI135 ka0 rfl
            have hv1 : I135 a0 1 = x122_ := (Eq.trans (up2_at (Or.inr (by decide)) eI135) (Eq.trans (up2_at (Or.inr (by decide)) eI131) e122.symm))
            have hv1t : (I135 a0 1).toInt = x122_.toInt := congrArg Int32.toInt hv1
            have hv2 : I135 a0 2 = x134_ := (by rw [eI135]; exact up2_self _ _ _ _)
            have hv2t : (I135 a0 2).toInt = x134_.toInt := congrArg Int32.toInt hv2
            have hv3 : I135 a0 3 = x130_ := (Eq.trans (up2_at (Or.inr (by decide)) eI135) (by rw [eI131]; exact up2_self _ _ _ _))
            have hv3t : (I135 a0 3).toInt = x130_.toInt := congrArg Int32.toInt hv3
            have hv4 : I135 a0 4 = x132_ := (Eq.trans (up2_at (Or.inr (by decide)) eI135) e132.symm)
            have hv4t : (I135 a0 4).toInt = x132_.toInt := congrArg Int32.toInt hv4
            exact r_vret hC hQ hlk hr (by decide) (by decide) dX7_next_180 ⟨_, _, rfl, rfl, ⟨hs135, hF135, hFJ116, (by first | exact TkC_end (by omega) (by omega) (by omega) (by omega) (by omega) | exact TkC_let (by assumption) (by omega) (by assumption) (by omega) (by omega) (fL_t.mpr (by omega)) (by assumption) | exact TkC_dig (by assumption) (by omega) (by assumption) (by omega) (by omega) (fD_t.mpr (by omega)) (by assumption) | exact TkC_oth (by split <;> omega) (by omega) (by omega) (by omega) (by omega) (by omega) (by omega))⟩⟩
          · refine r_aload_n hC dX7_next_109 1 rfl ?_
            refine r_iconst hC (v := (0)) dX7_next_110 (by decide) (by decide) (fun x136_ e136 t136 => ?_)
            refine r_puti hC 3 (ci := 7) rfl u7_in tyX7_ok nmX7 (by decide) mT_1_62 rfl rfl rfl dX7_next_111 ka0 rfl rfl (fun I137 eI137 => ?_)
            have hs137 := hs114.put0 eI137 ka0 rfl rfl rfl (by decide)
            have hF137 := hF114.put eI137 ka0 rfl
            refine r_goto hC (tgt := 180) dX7_next_114 (by decide) ?_
            have hv1 : I137 a0 1 = x122_ := (Eq.trans (up2_at (Or.inr (by decide)) eI137) e122.symm)
            have hv1t : (I137 a0 1).toInt = x122_.toInt := congrArg Int32.toInt hv1
            have hv2 : I137 a0 2 = x113_ := (Eq.trans (up2_at (Or.inr (by decide)) eI137) (by rw [eI114]; exact up2_self _ _ _ _))
            have hv2t : (I137 a0 2).toInt = x113_.toInt := congrArg Int32.toInt hv2
            have hv3 : I137 a0 3 = x136_ := (by rw [eI137]; exact up2_self _ _ _ _)
            have hv3t : (I137 a0 3).toInt = x136_.toInt := congrArg Int32.toInt hv3
            have hv4 : I137 a0 4 = x121_ := (Eq.trans (up2_at (Or.inr (by decide)) eI137) e121.symm)
            have hv4t : (I137 a0 4).toInt = x121_.toInt := congrArg Int32.toInt hv4
            exact r_vret hC hQ hlk hr (by decide) (by decide) dX7_next_180 ⟨_, _, rfl, rfl, ⟨hs137, hF137, hFJ116, (by first | exact TkC_end (by omega) (by omega) (by omega) (by omega) (by omega) | exact TkC_let (by assumption) (by omega) (by assumption) (by omega) (by omega) (fL_t.mpr (by omega)) (by assumption) | exact TkC_dig (by assumption) (by omega) (by assumption) (by omega) (by omega) (fD_t.mpr (by omega)) (by assumption) | exact TkC_oth (by split <;> omega) (by omega) (by omega) (by omega) (by omega) (by omega) (by omega))⟩⟩
        · refine r_aload_n hC dX7_next_81 0 rfl ?_
          refine r_getr hC 0 (ci := 7) rfl u7_in (by decide) mT_1_59 dX7_next_82 ka0 rfl rfl hbt ?_
          refine r_getr hC 0 (ci := 5) rfl u5_in (by decide) mT_1_37 dX7_next_85 hkt rfl rfl hbb ?_
          refine r_aload_n hC dX7_next_88 0 rfl ?_
          refine r_geti hC 4 (ci := 7) rfl u7_in (by decide) mT_1_63 dX7_next_89 ka0 rfl rfl (fun x138_ e138 => ?_)
          have r138 := hs114.rng ka0 rfl e138
          have f138 : x138_.toInt = (I114 a0 4).toInt := by rw [e138]
          have w138 : x138_ = x117_ := by rw [e138]; exact e117.symm
          have wt138 : x138_.toInt = x117_.toInt := by rw [w138]
          refine x_baload hC hkb nbt (by decide) rfl rfl dX7_next_92 (by omega) (by omega) (fun x139_ e139 => ?_)
          have B139 := (hB.mv hF114 hkb (fun _ => rfl)).at e139 (by omega) (by omega)
          refine r_goto hC (tgt := 97) dX7_next_93 (by decide) ?_
          have hfst : pl B n p < n → x139_.toInt = B (pl B n p) := fun h9 => by first | (exfalso; omega) | exact (by assumption : x139_.toInt = B _).trans (congrArg B (by omega))
          refine r_istore_n hC (lv' := [(1, .int x139_), (0, .ref a0)]) dX7_next_97 (by decide) rfl ?_
          refine r_aload_n hC dX7_next_98 1 rfl ?_
          refine r_geti hC 4 (ci := 7) rfl u7_in (by decide) mT_1_63 dX7_next_99 ka0 rfl rfl (fun x140_ e140 => ?_)
          have r140 := hs114.rng ka0 rfl e140
          have f140 : x140_.toInt = (I114 a0 4).toInt := by rw [e140]
          have w140 : x140_ = x138_ := by rw [e140]; exact e138.symm
          have wt140 : x140_.toInt = x138_.toInt := by rw [w140]
          refine r_aload_n hC dX7_next_102 1 rfl ?_
          refine r_geti hC 1 (ci := 7) rfl u7_in (by decide) mT_1_60 dX7_next_103 ka0 rfl rfl (fun x141_ e141 => ?_)
          have r141 := hs114.rng ka0 rfl e141
          have f141 : x141_.toInt = (I114 a0 1).toInt := by rw [e141]
          have w141 : x141_ = x118_ := by rw [e141]; exact e118.symm
          have wt141 : x141_.toInt = x118_.toInt := by rw [w141]
          refine r_icmp_lt hC (tgt := 117) dX7_next_106 (by decide) (fun c142 => ?_) (fun c142 => ?_)
          · refine r_iload_n hC dX7_next_117 0 rfl ?_
            refine r_bipush hC (v := (97)) dX7_next_118 (by decide) (by decide) (fun x143_ e143 t143 => ?_)
            refine r_icmp_lt hC (tgt := 136) dX7_next_120 (by decide) (fun c144 => ?_) (fun c144 => ?_)
            · refine r_iload_n hC dX7_next_136 0 rfl ?_
              refine r_bipush hC (v := (48)) dX7_next_137 (by decide) (by decide) (fun x145_ e145 t145 => ?_)
              refine r_icmp_lt hC (tgt := 155) dX7_next_139 (by decide) (fun c146 => ?_) (fun c146 => ?_)
              · refine r_aload_n hC dX7_next_155 1 rfl ?_
                refine r_iload_n hC dX7_next_156 0 rfl ?_
                refine r_bipush hC (v := (59)) dX7_next_157 (by decide) (by decide) (fun x147_ e147 t147 => ?_)
                refine r_icmp_ne hC (tgt := 166) dX7_next_159 (by decide) (fun c148 => ?_) (fun c148 => ?_)
                · refine r_iconst hC (v := (4)) dX7_next_166 (by decide) (by decide) (fun x149_ e149 t149 => ?_)
                  refine r_puti hC 3 (ci := 7) rfl u7_in tyX7_ok nmX7 (by decide) mT_1_62 rfl rfl rfl dX7_next_167 ka0 rfl rfl (fun I150 eI150 => ?_)
                  have hs150 := hs114.put0 eI150 ka0 rfl rfl rfl (by decide)
                  have hF150 := hF114.put eI150 ka0 rfl
                  refine r_aload_n hC dX7_next_170 1 rfl ?_
                  refine r_aload_n hC dX7_next_171 1 rfl ?_
                  refine r_geti hC 4 (ci := 7) rfl u7_in (by decide) mT_1_63 dX7_next_172 ka0 rfl rfl (fun x151_ e151 => ?_)
                  have r151 := hs150.rng ka0 rfl e151
                  have f151 : x151_.toInt = (I150 a0 4).toInt := by rw [e151]
                  have w151 : x151_ = x140_ := by rw [e151]; exact (Eq.trans (up2_at (Or.inr (by decide)) eI150) e140.symm)
                  have wt151 : x151_.toInt = x140_.toInt := by rw [w151]
                  refine r_iconst hC (v := (1)) dX7_next_175 (by decide) (by decide) (fun x152_ e152 t152 => ?_)
                  refine r_iadd hC dX7_next_176 (fun x153_ e153 => ?_)
                  try have t153 : x153_.toInt = x151_.toInt + x152_.toInt := by rw [e153]; exact ti_add (by omega) (by omega)
                  refine r_puti hC 2 (ci := 7) rfl u7_in tyX7_ok nmX7 (by decide) mT_1_61 rfl rfl rfl dX7_next_177 ka0 rfl rfl (fun I154 eI154 => ?_)
                  have hs154 := hs150.put1 eI154 ka0 rfl (by omega) (by omega) rfl rfl (by decide)
                  have hF154 := hF150.put eI154 ka0 rfl
                  have hv1 : I154 a0 1 = x141_ := (Eq.trans (up2_at (Or.inr (by decide)) eI154) (Eq.trans (up2_at (Or.inr (by decide)) eI150) e141.symm))
                  have hv1t : (I154 a0 1).toInt = x141_.toInt := congrArg Int32.toInt hv1
                  have hv2 : I154 a0 2 = x153_ := (by rw [eI154]; exact up2_self _ _ _ _)
                  have hv2t : (I154 a0 2).toInt = x153_.toInt := congrArg Int32.toInt hv2
                  have hv3 : I154 a0 3 = x149_ := (Eq.trans (up2_at (Or.inr (by decide)) eI154) (by rw [eI150]; exact up2_self _ _ _ _))
                  have hv3t : (I154 a0 3).toInt = x149_.toInt := congrArg Int32.toInt hv3
                  have hv4 : I154 a0 4 = x151_ := (Eq.trans (up2_at (Or.inr (by decide)) eI154) e151.symm)
                  have hv4t : (I154 a0 4).toInt = x151_.toInt := congrArg Int32.toInt hv4
                  exact r_vret hC hQ hlk hr (by decide) (by decide) dX7_next_180 ⟨_, _, rfl, rfl, ⟨hs154, hF154, hFJ116, (by first | exact TkC_end (by omega) (by omega) (by omega) (by omega) (by omega) | exact TkC_let (by assumption) (by omega) (by assumption) (by omega) (by omega) (fL_t.mpr (by omega)) (by assumption) | exact TkC_dig (by assumption) (by omega) (by assumption) (by omega) (by omega) (fD_t.mpr (by omega)) (by assumption) | exact TkC_oth (by split <;> omega) (by omega) (by omega) (by omega) (by omega) (by omega) (by omega))⟩⟩
                · refine r_iconst hC (v := (3)) dX7_next_162 (by decide) (by decide) (fun x155_ e155 t155 => ?_)
                  refine r_goto hC (tgt := 167) dX7_next_163 (by decide) ?_
                  refine r_puti hC 3 (ci := 7) rfl u7_in tyX7_ok nmX7 (by decide) mT_1_62 rfl rfl rfl dX7_next_167 ka0 rfl rfl (fun I156 eI156 => ?_)
                  have hs156 := hs114.put0 eI156 ka0 rfl rfl rfl (by decide)
                  have hF156 := hF114.put eI156 ka0 rfl
                  refine r_aload_n hC dX7_next_170 1 rfl ?_
                  refine r_aload_n hC dX7_next_171 1 rfl ?_
                  refine r_geti hC 4 (ci := 7) rfl u7_in (by decide) mT_1_63 dX7_next_172 ka0 rfl rfl (fun x157_ e157 => ?_)
                  have r157 := hs156.rng ka0 rfl e157
                  have f157 : x157_.toInt = (I156 a0 4).toInt := by rw [e157]
                  have w157 : x157_ = x140_ := by rw [e157]; exact (Eq.trans (up2_at (Or.inr (by decide)) eI156) e140.symm)
                  have wt157 : x157_.toInt = x140_.toInt := by rw [w157]
                  refine r_iconst hC (v := (1)) dX7_next_175 (by decide) (by decide) (fun x158_ e158 t158 => ?_)
                  refine r_iadd hC dX7_next_176 (fun x159_ e159 => ?_)
                  try have t159 : x159_.toInt = x157_.toInt + x158_.toInt := by rw [e159]; exact ti_add (by omega) (by omega)
                  refine r_puti hC 2 (ci := 7) rfl u7_in tyX7_ok nmX7 (by decide) mT_1_61 rfl rfl rfl dX7_next_177 ka0 rfl rfl (fun I160 eI160 => ?_)
                  have hs160 := hs156.put1 eI160 ka0 rfl (by omega) (by omega) rfl rfl (by decide)
                  have hF160 := hF156.put eI160 ka0 rfl
                  have hv1 : I160 a0 1 = x141_ := (Eq.trans (up2_at (Or.inr (by decide)) eI160) (Eq.trans (up2_at (Or.inr (by decide)) eI156) e141.symm))
                  have hv1t : (I160 a0 1).toInt = x141_.toInt := congrArg Int32.toInt hv1
                  have hv2 : I160 a0 2 = x159_ := (by rw [eI160]; exact up2_self _ _ _ _)
                  have hv2t : (I160 a0 2).toInt = x159_.toInt := congrArg Int32.toInt hv2
                  have hv3 : I160 a0 3 = x155_ := (Eq.trans (up2_at (Or.inr (by decide)) eI160) (by rw [eI156]; exact up2_self _ _ _ _))
                  have hv3t : (I160 a0 3).toInt = x155_.toInt := congrArg Int32.toInt hv3
                  have hv4 : I160 a0 4 = x157_ := (Eq.trans (up2_at (Or.inr (by decide)) eI160) e157.symm)
                  have hv4t : (I160 a0 4).toInt = x157_.toInt := congrArg Int32.toInt hv4
                  exact r_vret hC hQ hlk hr (by decide) (by decide) dX7_next_180 ⟨_, _, rfl, rfl, ⟨hs160, hF160, hFJ116, (by first | exact TkC_end (by omega) (by omega) (by omega) (by omega) (by omega) | exact TkC_let (by assumption) (by omega) (by assumption) (by omega) (by omega) (fL_t.mpr (by omega)) (by assumption) | exact TkC_dig (by assumption) (by omega) (by assumption) (by omega) (by omega) (fD_t.mpr (by omega)) (by assumption) | exact TkC_oth (by split <;> omega) (by omega) (by omega) (by omega) (by omega) (by omega) (by omega))⟩⟩
              · refine r_iload_n hC dX7_next_142 0 rfl ?_
                refine r_bipush hC (v := (57)) dX7_next_143 (by decide) (by decide) (fun x161_ e161 t161 => ?_)
                refine r_icmp_gt hC (tgt := 155) dX7_next_145 (by decide) (fun c162 => ?_) (fun c162 => ?_)
                · refine r_aload_n hC dX7_next_155 1 rfl ?_
                  refine r_iload_n hC dX7_next_156 0 rfl ?_
                  refine r_bipush hC (v := (59)) dX7_next_157 (by decide) (by decide) (fun x163_ e163 t163 => ?_)
                  refine r_icmp_ne hC (tgt := 166) dX7_next_159 (by decide) (fun c164 => ?_) (fun c164 => ?_)
                  · refine r_iconst hC (v := (4)) dX7_next_166 (by decide) (by decide) (fun x165_ e165 t165 => ?_)
                    refine r_puti hC 3 (ci := 7) rfl u7_in tyX7_ok nmX7 (by decide) mT_1_62 rfl rfl rfl dX7_next_167 ka0 rfl rfl (fun I166 eI166 => ?_)
                    have hs166 := hs114.put0 eI166 ka0 rfl rfl rfl (by decide)
                    have hF166 := hF114.put eI166 ka0 rfl
                    refine r_aload_n hC dX7_next_170 1 rfl ?_
                    refine r_aload_n hC dX7_next_171 1 rfl ?_
                    refine r_geti hC 4 (ci := 7) rfl u7_in (by decide) mT_1_63 dX7_next_172 ka0 rfl rfl (fun x167_ e167 => ?_)
                    have r167 := hs166.rng ka0 rfl e167
                    have f167 : x167_.toInt = (I166 a0 4).toInt := by rw [e167]
                    have w167 : x167_ = x140_ := by rw [e167]; exact (Eq.trans (up2_at (Or.inr (by decide)) eI166) e140.symm)
                    have wt167 : x167_.toInt = x140_.toInt := by rw [w167]
                    refine r_iconst hC (v := (1)) dX7_next_175 (by decide) (by decide) (fun x168_ e168 t168 => ?_)
                    refine r_iadd hC dX7_next_176 (fun x169_ e169 => ?_)
                    try have t169 : x169_.toInt = x167_.toInt + x168_.toInt := by rw [e169]; exact ti_add (by omega) (by omega)
                    refine r_puti hC 2 (ci := 7) rfl u7_in tyX7_ok nmX7 (by decide) mT_1_61 rfl rfl rfl dX7_next_177 ka0 rfl rfl (fun I170 eI170 => ?_)
                    have hs170 := hs166.put1 eI170 ka0 rfl (by omega) (by omega) rfl rfl (by decide)
                    have hF170 := hF166.put eI170 ka0 rfl
                    have hv1 : I170 a0 1 = x141_ := (Eq.trans (up2_at (Or.inr (by decide)) eI170) (Eq.trans (up2_at (Or.inr (by decide)) eI166) e141.symm))
                    have hv1t : (I170 a0 1).toInt = x141_.toInt := congrArg Int32.toInt hv1
                    have hv2 : I170 a0 2 = x169_ := (by rw [eI170]; exact up2_self _ _ _ _)
                    have hv2t : (I170 a0 2).toInt = x169_.toInt := congrArg Int32.toInt hv2
                    have hv3 : I170 a0 3 = x165_ := (Eq.trans (up2_at (Or.inr (by decide)) eI170) (by rw [eI166]; exact up2_self _ _ _ _))
                    have hv3t : (I170 a0 3).toInt = x165_.toInt := congrArg Int32.toInt hv3
                    have hv4 : I170 a0 4 = x167_ := (Eq.trans (up2_at (Or.inr (by decide)) eI170) e167.symm)
                    have hv4t : (I170 a0 4).toInt = x167_.toInt := congrArg Int32.toInt hv4
                    exact r_vret hC hQ hlk hr (by decide) (by decide) dX7_next_180 ⟨_, _, rfl, rfl, ⟨hs170, hF170, hFJ116, (by first | exact TkC_end (by omega) (by omega) (by omega) (by omega) (by omega) | exact TkC_let (by assumption) (by omega) (by assumption) (by omega) (by omega) (fL_t.mpr (by omega)) (by assumption) | exact TkC_dig (by assumption) (by omega) (by assumption) (by omega) (by omega) (fD_t.mpr (by omega)) (by assumption) | exact TkC_oth (by split <;> omega) (by omega) (by omega) (by omega) (by omega) (by omega) (by omega))⟩⟩
                  · refine r_iconst hC (v := (3)) dX7_next_162 (by decide) (by decide) (fun x171_ e171 t171 => ?_)
                    refine r_goto hC (tgt := 167) dX7_next_163 (by decide) ?_
                    refine r_puti hC 3 (ci := 7) rfl u7_in tyX7_ok nmX7 (by decide) mT_1_62 rfl rfl rfl dX7_next_167 ka0 rfl rfl (fun I172 eI172 => ?_)
                    have hs172 := hs114.put0 eI172 ka0 rfl rfl rfl (by decide)
                    have hF172 := hF114.put eI172 ka0 rfl
                    refine r_aload_n hC dX7_next_170 1 rfl ?_
                    refine r_aload_n hC dX7_next_171 1 rfl ?_
                    refine r_geti hC 4 (ci := 7) rfl u7_in (by decide) mT_1_63 dX7_next_172 ka0 rfl rfl (fun x173_ e173 => ?_)
                    have r173 := hs172.rng ka0 rfl e173
                    have f173 : x173_.toInt = (I172 a0 4).toInt := by rw [e173]
                    have w173 : x173_ = x140_ := by rw [e173]; exact (Eq.trans (up2_at (Or.inr (by decide)) eI172) e140.symm)
                    have wt173 : x173_.toInt = x140_.toInt := by rw [w173]
                    refine r_iconst hC (v := (1)) dX7_next_175 (by decide) (by decide) (fun x174_ e174 t174 => ?_)
                    refine r_iadd hC dX7_next_176 (fun x175_ e175 => ?_)
                    try have t175 : x175_.toInt = x173_.toInt + x174_.toInt := by rw [e175]; exact ti_add (by omega) (by omega)
                    refine r_puti hC 2 (ci := 7) rfl u7_in tyX7_ok nmX7 (by decide) mT_1_61 rfl rfl rfl dX7_next_177 ka0 rfl rfl (fun I176 eI176 => ?_)
                    have hs176 := hs172.put1 eI176 ka0 rfl (by omega) (by omega) rfl rfl (by decide)
                    have hF176 := hF172.put eI176 ka0 rfl
                    have hv1 : I176 a0 1 = x141_ := (Eq.trans (up2_at (Or.inr (by decide)) eI176) (Eq.trans (up2_at (Or.inr (by decide)) eI172) e141.symm))
                    have hv1t : (I176 a0 1).toInt = x141_.toInt := congrArg Int32.toInt hv1
                    have hv2 : I176 a0 2 = x175_ := (by rw [eI176]; exact up2_self _ _ _ _)
                    have hv2t : (I176 a0 2).toInt = x175_.toInt := congrArg Int32.toInt hv2
                    have hv3 : I176 a0 3 = x171_ := (Eq.trans (up2_at (Or.inr (by decide)) eI176) (by rw [eI172]; exact up2_self _ _ _ _))
                    have hv3t : (I176 a0 3).toInt = x171_.toInt := congrArg Int32.toInt hv3
                    have hv4 : I176 a0 4 = x173_ := (Eq.trans (up2_at (Or.inr (by decide)) eI176) e173.symm)
                    have hv4t : (I176 a0 4).toInt = x173_.toInt := congrArg Int32.toInt hv4
                    exact r_vret hC hQ hlk hr (by decide) (by decide) dX7_next_180 ⟨_, _, rfl, rfl, ⟨hs176, hF176, hFJ116, (by first | exact TkC_end (by omega) (by omega) (by omega) (by omega) (by omega) | exact TkC_let (by assumption) (by omega) (by assumption) (by omega) (by omega) (fL_t.mpr (by omega)) (by assumption) | exact TkC_dig (by assumption) (by omega) (by assumption) (by omega) (by omega) (fD_t.mpr (by omega)) (by assumption) | exact TkC_oth (by split <;> omega) (by omega) (by omega) (by omega) (by omega) (by omega) (by omega))⟩⟩
                · refine r_aload_n hC dX7_next_148 1 rfl ?_
                  have hq2 : I114 a0 2 = x113_ := (by rw [eI114]; exact up2_self _ _ _ _)
                  have hq2t : (I114 a0 2).toInt = x113_.toInt := congrArg Int32.toInt hq2
                  have hq4 : I114 a0 4 = x140_ := e140.symm
                  have hq4t : (I114 a0 4).toInt = x140_.toInt := congrArg Int32.toInt hq4
                  have hq1 : I114 a0 1 = x141_ := e141.symm
                  have hq1t : (I114 a0 1).toInt = x141_.toInt := congrArg Int32.toInt hq1
                  refine r_callV hC (As := []) (rest := []) (ci := 7) (f_X7_takeDigits g (xL X) K len I114 J116 R hs114 a0 ka0 tp bt hbt hkt hbb hkb nbt B n (hB.mv hF114 hkb (fun _ => rfl)) hn (pl B n p) (by omega) (by omega) (by omega) (by omega) (by omega)) mT_2_167 mT_1_4 mT_2_164 mT_2_166 mP_2 okX7_takeDigits ⟨by decide, by decide⟩ rfl (by show kO (K a0) = _; rw [ka0]; rfl) rfl rfl (Nat.le_of_ble_eq_true rfl) ⟨by decide, by decide⟩ dX7_next_149 (aV2 (F := fun st M => P g X 2 152 [(1, .int x139_), (0, .ref a0)] st _ _ M) (M := (K, len, I114, J116, R)) fun I177 J177 h177 => ?_)
                  obtain ⟨hs177, hf177, hfj177, k177_0, k177_1, k177_2⟩ := h177
                  show P g X 2 152 [(1, .int x139_), (0, .ref a0)] [] _ _ (K, len, I177, J177, R)
                  have hF177 : Fr K [(8, 2), (8, 3), (8, 4)] I I177 := hF114.trans hf177 rfl rfl
                  have hFJ177 : Fr K [(8, 5)] J J177 := hFJ116.trans hfj177 rfl rfl
                  refine r_goto hC (tgt := 180) dX7_next_152 (by decide) ?_
                  have hv1 : I177 a0 1 = x141_ := (Eq.trans (hf177.get ka0 rfl) e141.symm)
                  have hv1t : (I177 a0 1).toInt = x141_.toInt := congrArg Int32.toInt hv1
                  have hv4 : I177 a0 4 = x140_ := (Eq.trans (hf177.get ka0 rfl) e140.symm)
                  have hv4t : (I177 a0 4).toInt = x140_.toInt := congrArg Int32.toInt hv4
                  exact r_vret hC hQ hlk hr (by decide) (by decide) dX7_next_180 ⟨_, _, rfl, rfl, ⟨hs177, hF177, hFJ177, (by first | exact TkC_end (by omega) (by omega) (by omega) (by omega) (by omega) | exact TkC_let (by assumption) (by omega) (by assumption) (by omega) (by omega) (fL_t.mpr (by omega)) (by assumption) | exact TkC_dig (by assumption) (by omega) (by assumption) (by omega) (by omega) (fD_t.mpr (by omega)) (by assumption) | exact TkC_oth (by split <;> omega) (by omega) (by omega) (by omega) (by omega) (by omega) (by omega))⟩⟩
            · refine r_iload_n hC dX7_next_123 0 rfl ?_
              refine r_bipush hC (v := (122)) dX7_next_124 (by decide) (by decide) (fun x178_ e178 t178 => ?_)
              refine r_icmp_gt hC (tgt := 136) dX7_next_126 (by decide) (fun c179 => ?_) (fun c179 => ?_)
              · refine r_iload_n hC dX7_next_136 0 rfl ?_
                refine r_bipush hC (v := (48)) dX7_next_137 (by decide) (by decide) (fun x180_ e180 t180 => ?_)
                refine r_icmp_lt hC (tgt := 155) dX7_next_139 (by decide) (fun c181 => ?_) (fun c181 => ?_)
                · refine r_aload_n hC dX7_next_155 1 rfl ?_
                  refine r_iload_n hC dX7_next_156 0 rfl ?_
                  refine r_bipush hC (v := (59)) dX7_next_157 (by decide) (by decide) (fun x182_ e182 t182 => ?_)
                  refine r_icmp_ne hC (tgt := 166) dX7_next_159 (by decide) (fun c183 => ?_) (fun c183 => ?_)
                  · refine r_iconst hC (v := (4)) dX7_next_166 (by decide) (by decide) (fun x184_ e184 t184 => ?_)
                    refine r_puti hC 3 (ci := 7) rfl u7_in tyX7_ok nmX7 (by decide) mT_1_62 rfl rfl rfl dX7_next_167 ka0 rfl rfl (fun I185 eI185 => ?_)
                    have hs185 := hs114.put0 eI185 ka0 rfl rfl rfl (by decide)
                    have hF185 := hF114.put eI185 ka0 rfl
                    refine r_aload_n hC dX7_next_170 1 rfl ?_
                    refine r_aload_n hC dX7_next_171 1 rfl ?_
                    refine r_geti hC 4 (ci := 7) rfl u7_in (by decide) mT_1_63 dX7_next_172 ka0 rfl rfl (fun x186_ e186 => ?_)
                    have r186 := hs185.rng ka0 rfl e186
                    have f186 : x186_.toInt = (I185 a0 4).toInt := by rw [e186]
                    have w186 : x186_ = x140_ := by rw [e186]; exact (Eq.trans (up2_at (Or.inr (by decide)) eI185) e140.symm)
                    have wt186 : x186_.toInt = x140_.toInt := by rw [w186]
                    refine r_iconst hC (v := (1)) dX7_next_175 (by decide) (by decide) (fun x187_ e187 t187 => ?_)
                    refine r_iadd hC dX7_next_176 (fun x188_ e188 => ?_)
                    try have t188 : x188_.toInt = x186_.toInt + x187_.toInt := by rw [e188]; exact ti_add (by omega) (by omega)
                    refine r_puti hC 2 (ci := 7) rfl u7_in tyX7_ok nmX7 (by decide) mT_1_61 rfl rfl rfl dX7_next_177 ka0 rfl rfl (fun I189 eI189 => ?_)
                    have hs189 := hs185.put1 eI189 ka0 rfl (by omega) (by omega) rfl rfl (by decide)
                    have hF189 := hF185.put eI189 ka0 rfl
                    have hv1 : I189 a0 1 = x141_ := (Eq.trans (up2_at (Or.inr (by decide)) eI189) (Eq.trans (up2_at (Or.inr (by decide)) eI185) e141.symm))
                    have hv1t : (I189 a0 1).toInt = x141_.toInt := congrArg Int32.toInt hv1
                    have hv2 : I189 a0 2 = x188_ := (by rw [eI189]; exact up2_self _ _ _ _)
                    have hv2t : (I189 a0 2).toInt = x188_.toInt := congrArg Int32.toInt hv2
                    have hv3 : I189 a0 3 = x184_ := (Eq.trans (up2_at (Or.inr (by decide)) eI189) (by rw [eI185]; exact up2_self _ _ _ _))
                    have hv3t : (I189 a0 3).toInt = x184_.toInt := congrArg Int32.toInt hv3
                    have hv4 : I189 a0 4 = x186_ := (Eq.trans (up2_at (Or.inr (by decide)) eI189) e186.symm)
                    have hv4t : (I189 a0 4).toInt = x186_.toInt := congrArg Int32.toInt hv4
                    exact r_vret hC hQ hlk hr (by decide) (by decide) dX7_next_180 ⟨_, _, rfl, rfl, ⟨hs189, hF189, hFJ116, (by first | exact TkC_end (by omega) (by omega) (by omega) (by omega) (by omega) | exact TkC_let (by assumption) (by omega) (by assumption) (by omega) (by omega) (fL_t.mpr (by omega)) (by assumption) | exact TkC_dig (by assumption) (by omega) (by assumption) (by omega) (by omega) (fD_t.mpr (by omega)) (by assumption) | exact TkC_oth (by split <;> omega) (by omega) (by omega) (by omega) (by omega) (by omega) (by omega))⟩⟩
                  · refine r_iconst hC (v := (3)) dX7_next_162 (by decide) (by decide) (fun x190_ e190 t190 => ?_)
                    refine r_goto hC (tgt := 167) dX7_next_163 (by decide) ?_
                    refine r_puti hC 3 (ci := 7) rfl u7_in tyX7_ok nmX7 (by decide) mT_1_62 rfl rfl rfl dX7_next_167 ka0 rfl rfl (fun I191 eI191 => ?_)
                    have hs191 := hs114.put0 eI191 ka0 rfl rfl rfl (by decide)
                    have hF191 := hF114.put eI191 ka0 rfl
                    refine r_aload_n hC dX7_next_170 1 rfl ?_
                    refine r_aload_n hC dX7_next_171 1 rfl ?_
                    refine r_geti hC 4 (ci := 7) rfl u7_in (by decide) mT_1_63 dX7_next_172 ka0 rfl rfl (fun x192_ e192 => ?_)
                    have r192 := hs191.rng ka0 rfl e192
                    have f192 : x192_.toInt = (I191 a0 4).toInt := by rw [e192]
                    have w192 : x192_ = x140_ := by rw [e192]; exact (Eq.trans (up2_at (Or.inr (by decide)) eI191) e140.symm)
                    have wt192 : x192_.toInt = x140_.toInt := by rw [w192]
                    refine r_iconst hC (v := (1)) dX7_next_175 (by decide) (by decide) (fun x193_ e193 t193 => ?_)
                    refine r_iadd hC dX7_next_176 (fun x194_ e194 => ?_)
                    try have t194 : x194_.toInt = x192_.toInt + x193_.toInt := by rw [e194]; exact ti_add (by omega) (by omega)
                    refine r_puti hC 2 (ci := 7) rfl u7_in tyX7_ok nmX7 (by decide) mT_1_61 rfl rfl rfl dX7_next_177 ka0 rfl rfl (fun I195 eI195 => ?_)
                    have hs195 := hs191.put1 eI195 ka0 rfl (by omega) (by omega) rfl rfl (by decide)
                    have hF195 := hF191.put eI195 ka0 rfl
                    have hv1 : I195 a0 1 = x141_ := (Eq.trans (up2_at (Or.inr (by decide)) eI195) (Eq.trans (up2_at (Or.inr (by decide)) eI191) e141.symm))
                    have hv1t : (I195 a0 1).toInt = x141_.toInt := congrArg Int32.toInt hv1
                    have hv2 : I195 a0 2 = x194_ := (by rw [eI195]; exact up2_self _ _ _ _)
                    have hv2t : (I195 a0 2).toInt = x194_.toInt := congrArg Int32.toInt hv2
                    have hv3 : I195 a0 3 = x190_ := (Eq.trans (up2_at (Or.inr (by decide)) eI195) (by rw [eI191]; exact up2_self _ _ _ _))
                    have hv3t : (I195 a0 3).toInt = x190_.toInt := congrArg Int32.toInt hv3
                    have hv4 : I195 a0 4 = x192_ := (Eq.trans (up2_at (Or.inr (by decide)) eI195) e192.symm)
                    have hv4t : (I195 a0 4).toInt = x192_.toInt := congrArg Int32.toInt hv4
                    exact r_vret hC hQ hlk hr (by decide) (by decide) dX7_next_180 ⟨_, _, rfl, rfl, ⟨hs195, hF195, hFJ116, (by first | exact TkC_end (by omega) (by omega) (by omega) (by omega) (by omega) | exact TkC_let (by assumption) (by omega) (by assumption) (by omega) (by omega) (fL_t.mpr (by omega)) (by assumption) | exact TkC_dig (by assumption) (by omega) (by assumption) (by omega) (by omega) (fD_t.mpr (by omega)) (by assumption) | exact TkC_oth (by split <;> omega) (by omega) (by omega) (by omega) (by omega) (by omega) (by omega))⟩⟩
                · refine r_iload_n hC dX7_next_142 0 rfl ?_
                  refine r_bipush hC (v := (57)) dX7_next_143 (by decide) (by decide) (fun x196_ e196 t196 => ?_)
                  refine r_icmp_gt hC (tgt := 155) dX7_next_145 (by decide) (fun c197 => ?_) (fun c197 => ?_)
                  · refine r_aload_n hC dX7_next_155 1 rfl ?_
                    refine r_iload_n hC dX7_next_156 0 rfl ?_
                    refine r_bipush hC (v := (59)) dX7_next_157 (by decide) (by decide) (fun x198_ e198 t198 => ?_)
                    refine r_icmp_ne hC (tgt := 166) dX7_next_159 (by decide) (fun c199 => ?_) (fun c199 => ?_)
                    · refine r_iconst hC (v := (4)) dX7_next_166 (by decide) (by decide) (fun x200_ e200 t200 => ?_)
                      refine r_puti hC 3 (ci := 7) rfl u7_in tyX7_ok nmX7 (by decide) mT_1_62 rfl rfl rfl dX7_next_167 ka0 rfl rfl (fun I201 eI201 => ?_)
                      have hs201 := hs114.put0 eI201 ka0 rfl rfl rfl (by decide)
                      have hF201 := hF114.put eI201 ka0 rfl
                      refine r_aload_n hC dX7_next_170 1 rfl ?_
                      refine r_aload_n hC dX7_next_171 1 rfl ?_
                      refine r_geti hC 4 (ci := 7) rfl u7_in (by decide) mT_1_63 dX7_next_172 ka0 rfl rfl (fun x202_ e202 => ?_)
                      have r202 := hs201.rng ka0 rfl e202
                      have f202 : x202_.toInt = (I201 a0 4).toInt := by rw [e202]
                      have w202 : x202_ = x140_ := by rw [e202]; exact (Eq.trans (up2_at (Or.inr (by decide)) eI201) e140.symm)
                      have wt202 : x202_.toInt = x140_.toInt := by rw [w202]
                      refine r_iconst hC (v := (1)) dX7_next_175 (by decide) (by decide) (fun x203_ e203 t203 => ?_)
                      refine r_iadd hC dX7_next_176 (fun x204_ e204 => ?_)
                      try have t204 : x204_.toInt = x202_.toInt + x203_.toInt := by rw [e204]; exact ti_add (by omega) (by omega)
                      refine r_puti hC 2 (ci := 7) rfl u7_in tyX7_ok nmX7 (by decide) mT_1_61 rfl rfl rfl dX7_next_177 ka0 rfl rfl (fun I205 eI205 => ?_)
                      have hs205 := hs201.put1 eI205 ka0 rfl (by omega) (by omega) rfl rfl (by decide)
                      have hF205 := hF201.put eI205 ka0 rfl
                      have hv1 : I205 a0 1 = x141_ := (Eq.trans (up2_at (Or.inr (by decide)) eI205) (Eq.trans (up2_at (Or.inr (by decide)) eI201) e141.symm))
                      have hv1t : (I205 a0 1).toInt = x141_.toInt := congrArg Int32.toInt hv1
                      have hv2 : I205 a0 2 = x204_ := (by rw [eI205]; exact up2_self _ _ _ _)
                      have hv2t : (I205 a0 2).toInt = x204_.toInt := congrArg Int32.toInt hv2
                      have hv3 : I205 a0 3 = x200_ := (Eq.trans (up2_at (Or.inr (by decide)) eI205) (by rw [eI201]; exact up2_self _ _ _ _))
                      have hv3t : (I205 a0 3).toInt = x200_.toInt := congrArg Int32.toInt hv3
                      have hv4 : I205 a0 4 = x202_ := (Eq.trans (up2_at (Or.inr (by decide)) eI205) e202.symm)
                      have hv4t : (I205 a0 4).toInt = x202_.toInt := congrArg Int32.toInt hv4
                      exact r_vret hC hQ hlk hr (by decide) (by decide) dX7_next_180 ⟨_, _, rfl, rfl, ⟨hs205, hF205, hFJ116, (by first | exact TkC_end (by omega) (by omega) (by omega) (by omega) (by omega) | exact TkC_let (by assumption) (by omega) (by assumption) (by omega) (by omega) (fL_t.mpr (by omega)) (by assumption) | exact TkC_dig (by assumption) (by omega) (by assumption) (by omega) (by omega) (fD_t.mpr (by omega)) (by assumption) | exact TkC_oth (by split <;> omega) (by omega) (by omega) (by omega) (by omega) (by omega) (by omega))⟩⟩
                    · refine r_iconst hC (v := (3)) dX7_next_162 (by decide) (by decide) (fun x206_ e206 t206 => ?_)
                      refine r_goto hC (tgt := 167) dX7_next_163 (by decide) ?_
                      refine r_puti hC 3 (ci := 7) rfl u7_in tyX7_ok nmX7 (by decide) mT_1_62 rfl rfl rfl dX7_next_167 ka0 rfl rfl (fun I207 eI207 => ?_)
                      have hs207 := hs114.put0 eI207 ka0 rfl rfl rfl (by decide)
                      have hF207 := hF114.put eI207 ka0 rfl
                      refine r_aload_n hC dX7_next_170 1 rfl ?_
                      refine r_aload_n hC dX7_next_171 1 rfl ?_
                      refine r_geti hC 4 (ci := 7) rfl u7_in (by decide) mT_1_63 dX7_next_172 ka0 rfl rfl (fun x208_ e208 => ?_)
                      have r208 := hs207.rng ka0 rfl e208
                      have f208 : x208_.toInt = (I207 a0 4).toInt := by rw [e208]
                      have w208 : x208_ = x140_ := by rw [e208]; exact (Eq.trans (up2_at (Or.inr (by decide)) eI207) e140.symm)
                      have wt208 : x208_.toInt = x140_.toInt := by rw [w208]
                      refine r_iconst hC (v := (1)) dX7_next_175 (by decide) (by decide) (fun x209_ e209 t209 => ?_)
                      refine r_iadd hC dX7_next_176 (fun x210_ e210 => ?_)
                      try have t210 : x210_.toInt = x208_.toInt + x209_.toInt := by rw [e210]; exact ti_add (by omega) (by omega)
                      refine r_puti hC 2 (ci := 7) rfl u7_in tyX7_ok nmX7 (by decide) mT_1_61 rfl rfl rfl dX7_next_177 ka0 rfl rfl (fun I211 eI211 => ?_)
                      have hs211 := hs207.put1 eI211 ka0 rfl (by omega) (by omega) rfl rfl (by decide)
                      have hF211 := hF207.put eI211 ka0 rfl
                      have hv1 : I211 a0 1 = x141_ := (Eq.trans (up2_at (Or.inr (by decide)) eI211) (Eq.trans (up2_at (Or.inr (by decide)) eI207) e141.symm))
                      have hv1t : (I211 a0 1).toInt = x141_.toInt := congrArg Int32.toInt hv1
                      have hv2 : I211 a0 2 = x210_ := (by rw [eI211]; exact up2_self _ _ _ _)
                      have hv2t : (I211 a0 2).toInt = x210_.toInt := congrArg Int32.toInt hv2
                      have hv3 : I211 a0 3 = x206_ := (Eq.trans (up2_at (Or.inr (by decide)) eI211) (by rw [eI207]; exact up2_self _ _ _ _))
                      have hv3t : (I211 a0 3).toInt = x206_.toInt := congrArg Int32.toInt hv3
                      have hv4 : I211 a0 4 = x208_ := (Eq.trans (up2_at (Or.inr (by decide)) eI211) e208.symm)
                      have hv4t : (I211 a0 4).toInt = x208_.toInt := congrArg Int32.toInt hv4
                      exact r_vret hC hQ hlk hr (by decide) (by decide) dX7_next_180 ⟨_, _, rfl, rfl, ⟨hs211, hF211, hFJ116, (by first | exact TkC_end (by omega) (by omega) (by omega) (by omega) (by omega) | exact TkC_let (by assumption) (by omega) (by assumption) (by omega) (by omega) (fL_t.mpr (by omega)) (by assumption) | exact TkC_dig (by assumption) (by omega) (by assumption) (by omega) (by omega) (fD_t.mpr (by omega)) (by assumption) | exact TkC_oth (by split <;> omega) (by omega) (by omega) (by omega) (by omega) (by omega) (by omega))⟩⟩
                  · refine r_aload_n hC dX7_next_148 1 rfl ?_
                    have hq2 : I114 a0 2 = x113_ := (by rw [eI114]; exact up2_self _ _ _ _)
                    have hq2t : (I114 a0 2).toInt = x113_.toInt := congrArg Int32.toInt hq2
                    have hq4 : I114 a0 4 = x140_ := e140.symm
                    have hq4t : (I114 a0 4).toInt = x140_.toInt := congrArg Int32.toInt hq4
                    have hq1 : I114 a0 1 = x141_ := e141.symm
                    have hq1t : (I114 a0 1).toInt = x141_.toInt := congrArg Int32.toInt hq1
                    refine r_callV hC (As := []) (rest := []) (ci := 7) (f_X7_takeDigits g (xL X) K len I114 J116 R hs114 a0 ka0 tp bt hbt hkt hbb hkb nbt B n (hB.mv hF114 hkb (fun _ => rfl)) hn (pl B n p) (by omega) (by omega) (by omega) (by omega) (by omega)) mT_2_167 mT_1_4 mT_2_164 mT_2_166 mP_2 okX7_takeDigits ⟨by decide, by decide⟩ rfl (by show kO (K a0) = _; rw [ka0]; rfl) rfl rfl (Nat.le_of_ble_eq_true rfl) ⟨by decide, by decide⟩ dX7_next_149 (aV2 (F := fun st M => P g X 2 152 [(1, .int x139_), (0, .ref a0)] st _ _ M) (M := (K, len, I114, J116, R)) fun I212 J212 h212 => ?_)
                    obtain ⟨hs212, hf212, hfj212, k212_0, k212_1, k212_2⟩ := h212
                    show P g X 2 152 [(1, .int x139_), (0, .ref a0)] [] _ _ (K, len, I212, J212, R)
                    have hF212 : Fr K [(8, 2), (8, 3), (8, 4)] I I212 := hF114.trans hf212 rfl rfl
                    have hFJ212 : Fr K [(8, 5)] J J212 := hFJ116.trans hfj212 rfl rfl
                    refine r_goto hC (tgt := 180) dX7_next_152 (by decide) ?_
                    have hv1 : I212 a0 1 = x141_ := (Eq.trans (hf212.get ka0 rfl) e141.symm)
                    have hv1t : (I212 a0 1).toInt = x141_.toInt := congrArg Int32.toInt hv1
                    have hv4 : I212 a0 4 = x140_ := (Eq.trans (hf212.get ka0 rfl) e140.symm)
                    have hv4t : (I212 a0 4).toInt = x140_.toInt := congrArg Int32.toInt hv4
                    exact r_vret hC hQ hlk hr (by decide) (by decide) dX7_next_180 ⟨_, _, rfl, rfl, ⟨hs212, hF212, hFJ212, (by first | exact TkC_end (by omega) (by omega) (by omega) (by omega) (by omega) | exact TkC_let (by assumption) (by omega) (by assumption) (by omega) (by omega) (fL_t.mpr (by omega)) (by assumption) | exact TkC_dig (by assumption) (by omega) (by assumption) (by omega) (by omega) (fD_t.mpr (by omega)) (by assumption) | exact TkC_oth (by split <;> omega) (by omega) (by omega) (by omega) (by omega) (by omega) (by omega))⟩⟩
              · refine r_aload_n hC dX7_next_129 1 rfl ?_
                have hq2 : I114 a0 2 = x113_ := (by rw [eI114]; exact up2_self _ _ _ _)
                have hq2t : (I114 a0 2).toInt = x113_.toInt := congrArg Int32.toInt hq2
                have hq4 : I114 a0 4 = x140_ := e140.symm
                have hq4t : (I114 a0 4).toInt = x140_.toInt := congrArg Int32.toInt hq4
                have hq1 : I114 a0 1 = x141_ := e141.symm
                have hq1t : (I114 a0 1).toInt = x141_.toInt := congrArg Int32.toInt hq1
                refine r_callV hC (As := []) (rest := []) (ci := 7) (f_X7_takeLetters g (xL X) K len I114 J116 R hs114 a0 ka0 tp bt hbt hkt hbb hkb nbt B n (hB.mv hF114 hkb (fun _ => rfl)) hn (pl B n p) (by omega) (by omega) (by omega) (by omega) (by omega)) mT_2_163 mT_1_4 mT_2_160 mT_2_162 mP_1 okX7_takeLetters ⟨by decide, by decide⟩ rfl (by show kO (K a0) = _; rw [ka0]; rfl) rfl rfl (Nat.le_of_ble_eq_true rfl) ⟨by decide, by decide⟩ dX7_next_130 (aV2 (F := fun st M => P g X 2 133 [(1, .int x139_), (0, .ref a0)] st _ _ M) (M := (K, len, I114, J116, R)) fun I213 J213 h213 => ?_)
                obtain ⟨hs213, hf213, hfj213, k213_0, k213_1, k213_2⟩ := h213
                show P g X 2 133 [(1, .int x139_), (0, .ref a0)] [] _ _ (K, len, I213, J213, R)
                have hF213 : Fr K [(8, 2), (8, 3), (8, 4)] I I213 := hF114.trans hf213 rfl rfl
                have hFJ213 : Fr K [(8, 5)] J J213 := hFJ116.trans hfj213 rfl rfl
                refine r_goto hC (tgt := 180) dX7_next_133 (by decide) ?_
                have hv1 : I213 a0 1 = x141_ := (Eq.trans (hf213.get ka0 rfl) e141.symm)
                have hv1t : (I213 a0 1).toInt = x141_.toInt := congrArg Int32.toInt hv1
                have hv4 : I213 a0 4 = x140_ := (Eq.trans (hf213.get ka0 rfl) e140.symm)
                have hv4t : (I213 a0 4).toInt = x140_.toInt := congrArg Int32.toInt hv4
                exact r_vret hC hQ hlk hr (by decide) (by decide) dX7_next_180 ⟨_, _, rfl, rfl, ⟨hs213, hF213, hFJ213, (by first | exact TkC_end (by omega) (by omega) (by omega) (by omega) (by omega) | exact TkC_let (by assumption) (by omega) (by assumption) (by omega) (by omega) (fL_t.mpr (by omega)) (by assumption) | exact TkC_dig (by assumption) (by omega) (by assumption) (by omega) (by omega) (fD_t.mpr (by omega)) (by assumption) | exact TkC_oth (by split <;> omega) (by omega) (by omega) (by omega) (by omega) (by omega) (by omega))⟩⟩
          · refine r_aload_n hC dX7_next_109 1 rfl ?_
            refine r_iconst hC (v := (0)) dX7_next_110 (by decide) (by decide) (fun x214_ e214 t214 => ?_)
            refine r_puti hC 3 (ci := 7) rfl u7_in tyX7_ok nmX7 (by decide) mT_1_62 rfl rfl rfl dX7_next_111 ka0 rfl rfl (fun I215 eI215 => ?_)
            have hs215 := hs114.put0 eI215 ka0 rfl rfl rfl (by decide)
            have hF215 := hF114.put eI215 ka0 rfl
            refine r_goto hC (tgt := 180) dX7_next_114 (by decide) ?_
            have hv1 : I215 a0 1 = x141_ := (Eq.trans (up2_at (Or.inr (by decide)) eI215) e141.symm)
            have hv1t : (I215 a0 1).toInt = x141_.toInt := congrArg Int32.toInt hv1
            have hv2 : I215 a0 2 = x113_ := (Eq.trans (up2_at (Or.inr (by decide)) eI215) (by rw [eI114]; exact up2_self _ _ _ _))
            have hv2t : (I215 a0 2).toInt = x113_.toInt := congrArg Int32.toInt hv2
            have hv3 : I215 a0 3 = x214_ := (by rw [eI215]; exact up2_self _ _ _ _)
            have hv3t : (I215 a0 3).toInt = x214_.toInt := congrArg Int32.toInt hv3
            have hv4 : I215 a0 4 = x140_ := (Eq.trans (up2_at (Or.inr (by decide)) eI215) e140.symm)
            have hv4t : (I215 a0 4).toInt = x140_.toInt := congrArg Int32.toInt hv4
            exact r_vret hC hQ hlk hr (by decide) (by decide) dX7_next_180 ⟨_, _, rfl, rfl, ⟨hs215, hF215, hFJ116, (by first | exact TkC_end (by omega) (by omega) (by omega) (by omega) (by omega) | exact TkC_let (by assumption) (by omega) (by assumption) (by omega) (by omega) (fL_t.mpr (by omega)) (by assumption) | exact TkC_dig (by assumption) (by omega) (by assumption) (by omega) (by omega) (fD_t.mpr (by omega)) (by assumption) | exact TkC_oth (by split <;> omega) (by omega) (by omega) (by omega) (by omega) (by omega) (by omega))⟩⟩
      · refine r_aload_n hC dX7_next_32 0 rfl ?_
        refine r_getr hC 0 (ci := 7) rfl u7_in (by decide) mT_1_59 dX7_next_33 ka0 rfl rfl hbt ?_
        refine r_getr hC 0 (ci := 5) rfl u5_in (by decide) mT_1_37 dX7_next_36 hkt rfl rfl hbb ?_
        refine r_iload_n hC dX7_next_39 1 rfl ?_
        refine x_baload hC hkb nbt (by decide) rfl rfl dX7_next_40 (by omega) (by omega) (fun x216_ e216 => ?_)
        have B216 := (hB.mv hF4 hkb (fun _ => rfl)).at e216 (by omega) (by omega)
        refine r_bipush hC (v := (32)) dX7_next_41 (by decide) (by decide) (fun x217_ e217 t217 => ?_)
        refine r_icmp_eq hC (tgt := 51) dX7_next_43 (by decide) (fun c218 => ?_) (fun c218 => ?_)
        · obtain ⟨x219_, e219⟩ : ∃ z : Int32, z = x4_1 + Int32.ofInt (1) := ⟨_, rfl⟩
          refine r_iinc hC (j := 1) (v := x219_) (lv' := [(1, .int x219_), (0, .ref a0)]) dX7_next_51 rfl (by rw [e219]) (by decide) rfl ?_
          try have t219 : x219_.toInt = x4_1.toInt + (1) := by rw [e219]; exact (ti_add (b := Int32.ofInt (1)) (by show _ ≤ _ + (1 : Int); omega) (by show _ + (1 : Int) ≤ _; omega))
          refine r_goto hC (tgt := 13) dX7_next_54 (by decide) ?_
          have hb4 : I4 a0 4 = x110_ := e110.symm
          have hb4t : (I4 a0 4).toInt = x110_.toInt := congrArg Int32.toInt hb4
          refine r_sub [1, 0] rfl ?_
          exact ih4 ((n - x219_.toInt).toNat) (by omega) x219_ I4 hs4 hF4 (by omega) (by omega) (by first | exact all_0 (P := fun j => (j : Int) < (I4 a0 4).toInt → fS B j = true) (by omega) | exact all_s (P := fun j => (j : Int) < (I4 a0 4).toInt → fS B j = true) v4_2 (by omega) (by omega) (fun _ => fS_t.mpr (by omega)) | exact fun j h1 h2 h3 => v4_2 j h1 (by omega) (by omega)) (by first | exact Or.inl (by omega) | exact Or.inr ⟨by omega, by rw [show (I4 a0 4).toInt.toNat = x4_1.toInt.toNat by omega]; exact fS_f.mpr (by omega), by omega⟩) rfl
        · refine r_aload_n hC dX7_next_46 0 rfl ?_
          refine r_iload_n hC dX7_next_47 1 rfl ?_
          refine r_puti hC 4 (ci := 7) rfl u7_in tyX7_ok nmX7 (by decide) mT_1_63 rfl rfl rfl dX7_next_48 ka0 rfl rfl (fun I220 eI220 => ?_)
          have hs220 := hs4.put1 eI220 ka0 rfl (by omega) (by omega) rfl rfl (by decide)
          have hF220 := hF4.put eI220 ka0 rfl
          obtain ⟨x221_, e221⟩ : ∃ z : Int32, z = x4_1 + Int32.ofInt (1) := ⟨_, rfl⟩
          refine r_iinc hC (j := 1) (v := x221_) (lv' := [(1, .int x221_), (0, .ref a0)]) dX7_next_51 rfl (by rw [e221]) (by decide) rfl ?_
          try have t221 : x221_.toInt = x4_1.toInt + (1) := by rw [e221]; exact (ti_add (b := Int32.ofInt (1)) (by show _ ≤ _ + (1 : Int); omega) (by show _ + (1 : Int) ≤ _; omega))
          refine r_goto hC (tgt := 13) dX7_next_54 (by decide) ?_
          have hb4 : I220 a0 4 = x4_1 := (by rw [eI220]; exact up2_self _ _ _ _)
          have hb4t : (I220 a0 4).toInt = x4_1.toInt := congrArg Int32.toInt hb4
          refine r_sub [1, 0] rfl ?_
          exact ih4 ((n - x221_.toInt).toNat) (by omega) x221_ I220 hs220 hF220 (by omega) (by omega) (by first | exact all_0 (P := fun j => (j : Int) < (I220 a0 4).toInt → fS B j = true) (by omega) | exact all_s (P := fun j => (j : Int) < (I220 a0 4).toInt → fS B j = true) v4_2 (by omega) (by omega) (fun _ => fS_t.mpr (by omega)) | exact fun j h1 h2 h3 => v4_2 j h1 (by omega) (by omega)) (by first | exact Or.inl (by omega) | exact Or.inr ⟨by omega, by rw [show (I220 a0 4).toInt.toNat = x4_1.toInt.toNat by omega]; exact fS_f.mpr (by omega), by omega⟩) rfl
  have hb4 : I2 a0 4 = x1_ := (by rw [eI2]; exact up2_self _ _ _ _)
  have hb4t : (I2 a0 4).toInt = x1_.toInt := congrArg Int32.toInt hb4
  refine r_sub [1, 0] rfl ?_
  exact LP4 _ x3_ I2 hs2 hF2 (by omega) (by omega) (by first | exact all_0 (P := fun j => (j : Int) < (I2 a0 4).toInt → fS B j = true) (by omega) | exact all_s (P := fun j => (j : Int) < (I2 a0 4).toInt → fS B j = true) v4_2 (by omega) (by omega) (fun _ => fS_t.mpr (by omega)) | exact fun j h1 h2 h3 => v4_2 j h1 (by omega) (by omega)) (by first | exact Or.inl (by omega) | exact Or.inr ⟨by omega, by rw [show (I2 a0 4).toInt.toNat = x4_1.toInt.toNat by omega]; exact fS_f.mpr (by omega), by omega⟩) rfl

