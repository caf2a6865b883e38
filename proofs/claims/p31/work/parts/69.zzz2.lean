set_option maxHeartbeats 4000000 in
set_option maxRecDepth 100000 in
theorem f_X10_newOf (g : GG) (l : Launch) (K len : Nat → Nat) (I : Nat → Nat → Int32) (J : Nat → Nat → Int64) (R : Nat → Nat → Option Nat) (hs : Sf K len I R) (a0 : Nat) (ka0 : K a0 = 11) (x1 : Int32) (x2 : Int32) (hm : Nat) (hbm : R a0 3 = some hm) (khm : K hm = 10) (lr : Nat) (hlr : R a0 15 = some lr) (klr : K lr = 85) (llr : len lr = 60) (L : Nat → Int) (hL : ∀ j : Nat, j < 60 → (I lr j).toInt = L j ∧ 0 ≤ L j ∧ L j ≤ 999) (D : DD) (hd1 : (I hm 0).toInt = D 0 1) (jst : 0 ≤ D 0 1 ∧ D 0 1 ≤ 999) (q0 : 0 ≤ x1.toInt ∧ x1.toInt ≤ 99) (p0 : 0 ≤ x2.toInt) (p1 : x2.toInt ≤ 59) : Ct g l yX10_newOf cX10_newOf 5 (Option.some Jvm.ClassFile.FieldType.int) rmX10_newOf [.ref a0, .int x1, .int x2] (K, len, I, J, R) (pI0 (K, len, I, J, R) (fun r => (r.toInt = x1.toInt * max 0 (L x2.toInt.toNat - Hi (D 0 1) L x2.toInt.toNat) / 100))) := by
  refine Ct_intro (by decide +kernel) (Nat.le_of_ble_eq_true rfl) (fun X hC hL hKK hNm hr hlk hQ => ?_)
  subst hL
  have hC : Cx g X cX10_newOf "HillTapModel" 5 rmX10_newOf := hC
  show P g X 5 0 [(0, .ref a0), (1, .int x1), (2, .int x2)] [] 0 0 (K, len, I, J, R)
  have hF : Fr K [] I I := Fr.refl
  have b_x1 := ti_rng x1
  have b_x2 := ti_rng x2
  refine r_aload_n hC dX10_newOf_0 0 rfl ?_
  refine r_getr hC 3 (ci := 10) rfl u10_in (by decide) mT_4_238 dX10_newOf_1 ka0 rfl rfl hbm ?_
  refine r_getiN hC 0 (ci := 9) rfl u9_in (by decide) nF_0 dX10_newOf_4 khm rfl rfl (fun x1_ e1 => ?_)
  have f1 : x1_.toInt = (I hm 0).toInt := by rw [e1]
  refine r_istore_n hC (lv' := [(3, .int x1_), (0, .ref a0), (1, .int x1), (2, .int x2)]) dX10_newOf_7 (by decide) rfl ?_
  refine r_iconst hC (v := (0)) dX10_newOf_8 (by decide) (by decide) (fun x2_ e2 t2 => ?_)
  refine r_istore hC (lv' := [(4, .int x2_), (3, .int x1_), (0, .ref a0), (1, .int x1), (2, .int x2)]) dX10_newOf_9 (by decide) rfl ?_
  have LP3 : ∀ (mu : Nat) (x3_4 : Int32) (x3_3 : Int32) (v3_0 : 0 ≤ x3_4.toInt) (v3_1 : x3_4.toInt ≤ x2.toInt) (v3_2 : x3_3.toInt = Hi (D 0 1) L x3_4.toInt.toNat) (v3_3 : 0 ≤ x3_3.toInt ∧ x3_3.toInt ≤ 999), (60 - x3_4.toInt).toNat = mu → P g X 5 11 [(0, .ref a0), (1, .int x1), (2, .int x2), (3, .int x3_3), (4, .int x3_4)] [] 0 0 (K, len, I, J, R) := by
    intro mu; induction mu using Nat.strongRecOn with | ind mu ih => ?_
    intro x3_4 x3_3 v3_0 v3_1 v3_2 v3_3 hmu
    have ih3 := ih
    clear ih
    have hmu3 := hmu
    clear hmu
    refine r_iload hC dX10_newOf_11 4 rfl ?_
    refine r_iload_n hC dX10_newOf_13 2 rfl ?_
    refine r_icmp_ge hC (tgt := 46) dX10_newOf_14 (by decide) (fun c4 => ?_) (fun c4 => ?_)
    · have hle : x3_3.toInt = Hi (D 0 1) L x2.toInt.toNat := by rw [show x2.toInt.toNat = x3_4.toInt.toNat by omega]; exact v3_2
      refine r_aload_n hC dX10_newOf_46 0 rfl ?_
      refine r_getr hC 15 (ci := 10) rfl u10_in (by decide) mT_5_10 dX10_newOf_47 ka0 rfl rfl hlr ?_
      refine r_iload_n hC dX10_newOf_50 2 rfl ?_
      refine x_iaload hC klr llr (by decide) rfl rfl dX10_newOf_51 (by omega) (by omega) (fun x5_ e5 => ?_)
      have ql5 := hL x2.toInt.toNat (by omega)
      have qv5 : x5_.toInt = L x2.toInt.toNat := by rw [e5, hF.get klr rfl, clx (i := x2) rfl (by omega)]; exact ql5.1
      refine r_iload_n hC dX10_newOf_52 3 rfl ?_
      refine r_icmp_le hC (tgt := 72) dX10_newOf_53 (by decide) (fun c6 => ?_) (fun c6 => ?_)
      · refine r_iconst hC (v := (0)) dX10_newOf_72 (by decide) (by decide) (fun x7_ e7 t7 => ?_)
        exact r_iret hC hQ hlk hr rfl (by decide) (by decide) dX10_newOf_73 ⟨_, rfl, rfl, (by first | (rw [show L x2.toInt.toNat - Hi (D 0 1) L x2.toInt.toNat = NOmly.toInt by (rw [← hle]; omega), show max 0 NOmly.toInt = NOmly.toInt by omega]; omega) | (rw [show max 0 (L x2.toInt.toNat - Hi (D 0 1) L x2.toInt.toNat) = 0 by (rw [← hle]; omega), Int.mul_zero]; omega))⟩
      · refine r_iload_n hC dX10_newOf_56 1 rfl ?_
        refine r_aload_n hC dX10_newOf_57 0 rfl ?_
        refine r_getr hC 15 (ci := 10) rfl u10_in (by decide) mT_5_10 dX10_newOf_58 ka0 rfl rfl hlr ?_
        refine r_iload_n hC dX10_newOf_61 2 rfl ?_
        refine x_iaload hC klr llr (by decide) rfl rfl dX10_newOf_62 (by omega) (by omega) (fun x8_ e8 => ?_)
        have ql8 := hL x2.toInt.toNat (by omega)
        have qv8 : x8_.toInt = L x2.toInt.toNat := by rw [e8, hF.get klr rfl, clx (i := x2) rfl (by omega)]; exact ql8.1
        refine r_iload_n hC dX10_newOf_63 3 rfl ?_
        refine r_isub hC dX10_newOf_64 (fun x9_ e9 => ?_)
        try have t9 : x9_.toInt = x8_.toInt - x3_3.toInt := by rw [e9]; exact ti_sub (by omega) (by omega)
        refine r_imul hC dX10_newOf_65 (fun x10_ e10 => ?_)
        have mb10 := mul_b (a := x1.toInt) (b := x9_.toInt) (A := 99) (B := 999) (C := 98901) (by decide) (by omega) (by omega) (by omega) (by omega)
        have tm10 : x10_.toInt = x1.toInt * x9_.toInt := by rw [e10]; exact ti_mul rfl rfl (by omega) (by omega)
        refine r_bipush hC (v := (100)) dX10_newOf_66 (by decide) (by decide) (fun x11_ e11 t11 => ?_)
        refine r_idiv hC dX10_newOf_68 (ne_0 (by omega)) (fun x12_ e12 => ?_)
        have td12 : x12_.toInt = x10_.toInt / 100 := by rw [e12, ti_div (by omega) (by omega), show x11_.toInt = 100 by omega]
        refine r_goto hC (tgt := 73) dX10_newOf_69 (by decide) ?_
        exact r_iret hC hQ hlk hr rfl (by decide) (by decide) dX10_newOf_73 ⟨_, rfl, rfl, (by first | (rw [show L x2.toInt.toNat - Hi (D 0 1) L x2.toInt.toNat = x9_.toInt by (rw [← hle]; omega), show max 0 x9_.toInt = x9_.toInt by omega]; omega) | (rw [show max 0 (L x2.toInt.toNat - Hi (D 0 1) L x2.toInt.toNat) = 0 by (rw [← hle]; omega), Int.mul_zero]; omega))⟩
    · refine r_aload_n hC dX10_newOf_17 0 rfl ?_
      refine r_getr hC 15 (ci := 10) rfl u10_in (by decide) mT_5_10 dX10_newOf_18 ka0 rfl rfl hlr ?_
      refine r_iload hC dX10_newOf_21 4 rfl ?_
      refine x_iaload hC klr llr (by decide) rfl rfl dX10_newOf_23 (by omega) (by omega) (fun x13_ e13 => ?_)
      have ql13 := hL x3_4.toInt.toNat (by omega)
      have qv13 : x13_.toInt = L x3_4.toInt.toNat := by rw [e13, hF.get klr rfl, clx (i := x3_4) rfl (by omega)]; exact ql13.1
      refine r_iload_n hC dX10_newOf_24 3 rfl ?_
      refine r_icmp_le hC (tgt := 38) dX10_newOf_25 (by decide) (fun c14 => ?_) (fun c14 => ?_)
      · refine r_iload_n hC dX10_newOf_38 3 rfl ?_
        refine r_istore_n hC (lv' := [(3, .int x3_3), (0, .ref a0), (1, .int x1), (2, .int x2), (4, .int x3_4)]) dX10_newOf_39 (by decide) rfl ?_
        obtain ⟨x15_, e15⟩ : ∃ z : Int32, z = x3_4 + Int32.ofInt (1) := ⟨_, rfl⟩
        refine r_iinc hC (j := 4) (v := x15_) (lv' := [(4, .int x15_), (3, .int x3_3), (0, .ref a0), (1, .int x1), (2, .int x2)]) dX10_newOf_40 rfl (by rw [e15]) (by decide) rfl ?_
        try have t15 : x15_.toInt = x3_4.toInt + (1) := by rw [e15]; exact (ti_add (b := Int32.ofInt (1)) (by show _ ≤ _ + (1 : Int); omega) (by show _ + (1 : Int) ≤ _; omega))
        refine r_goto hC (tgt := 11) dX10_newOf_43 (by decide) ?_
        refine r_sub [2, 3, 4, 1, 0] rfl ?_
        exact ih3 ((60 - x15_.toInt).toNat) (by omega) x15_ x3_3 (by omega) (by omega) (by first | (rw [show x15_.toInt.toNat = 0 by omega]; show _ = D 0 1; omega) | (rw [show x15_.toInt.toNat = x3_4.toInt.toNat + 1 by omega]; show _ = max (Hi (D 0 1) L _) (L _); omega)) (by omega) rfl
      · refine r_aload_n hC dX10_newOf_28 0 rfl ?_
        refine r_getr hC 15 (ci := 10) rfl u10_in (by decide) mT_5_10 dX10_newOf_29 ka0 rfl rfl hlr ?_
        refine r_iload hC dX10_newOf_32 4 rfl ?_
        refine x_iaload hC klr llr (by decide) rfl rfl dX10_newOf_34 (by omega) (by omega) (fun x16_ e16 => ?_)
        have ql16 := hL x3_4.toInt.toNat (by omega)
        have qv16 : x16_.toInt = L x3_4.toInt.toNat := by rw [e16, hF.get klr rfl, clx (i := x3_4) rfl (by omega)]; exact ql16.1
        refine r_goto hC (tgt := 39) dX10_newOf_35 (by decide) ?_
        refine r_istore_n hC (lv' := [(3, .int x16_), (0, .ref a0), (1, .int x1), (2, .int x2), (4, .int x3_4)]) dX10_newOf_39 (by decide) rfl ?_
        obtain ⟨x17_, e17⟩ : ∃ z : Int32, z = x3_4 + Int32.ofInt (1) := ⟨_, rfl⟩
        refine r_iinc hC (j := 4) (v := x17_) (lv' := [(4, .int x17_), (3, .int x16_), (0, .ref a0), (1, .int x1), (2, .int x2)]) dX10_newOf_40 rfl (by rw [e17]) (by decide) rfl ?_
        try have t17 : x17_.toInt = x3_4.toInt + (1) := by rw [e17]; exact (ti_add (b := Int32.ofInt (1)) (by show _ ≤ _ + (1 : Int); omega) (by show _ + (1 : Int) ≤ _; omega))
        refine r_goto hC (tgt := 11) dX10_newOf_43 (by decide) ?_
        refine r_sub [2, 3, 4, 1, 0] rfl ?_
        exact ih3 ((60 - x17_.toInt).toNat) (by omega) x17_ x16_ (by omega) (by omega) (by first | (rw [show x17_.toInt.toNat = 0 by omega]; show _ = D 0 1; omega) | (rw [show x17_.toInt.toNat = x3_4.toInt.toNat + 1 by omega]; show _ = max (Hi (D 0 1) L _) (L _); omega)) (by omega) rfl
  refine r_sub [2, 3, 4, 1, 0] rfl ?_
  exact LP3 _ x2_ x1_ (by omega) (by omega) (by first | (rw [show x2_.toInt.toNat = 0 by omega]; show _ = D 0 1; omega) | (rw [show x2_.toInt.toNat = x3_4.toInt.toNat + 1 by omega]; show _ = max (Hi (D 0 1) L _) (L _); omega)) (by omega) rfl
set_option maxHeartbeats 4000000 in
set_option maxRecDepth 100000 in
theorem f_X10_meanOf (g : GG) (l : Launch) (K len : Nat → Nat) (I : Nat → Nat → Int32) (J : Nat → Nat → Int64) (R : Nat → Nat → Option Nat) (hs : Sf K len I R) (a0 : Nat) (ka0 : K a0 = 11) (x1 : Int32) (x2 : Int32) (lr : Nat) (hlr : R a0 15 = some lr) (klr : K lr = 85) (llr : len lr = 60) (L : Nat → Int) (hL : ∀ j : Nat, j < 60 → (I lr j).toInt = L j ∧ 0 ≤ L j ∧ L j ≤ 999) (p0 : 1 ≤ x1.toInt) (p1 : x1.toInt ≤ 20) (p2 : 0 ≤ x2.toInt) (p3 : x2.toInt ≤ 59) : Ct g l yX10_meanOf cX10_meanOf 6 (Option.some Jvm.ClassFile.FieldType.int) rmX10_meanOf [.ref a0, .int x1, .int x2] (K, len, I, J, R) (pI0 (K, len, I, J, R) (fun r => (r.toInt = (Ps L (x2.toInt.toNat + 1) - Ps L (x2.toInt.toNat + 1 - x1.toInt.toNat)) / min x1.toInt ((x2.toInt.toNat : Int) + 1)) ∧ (0 ≤ r.toInt ∧ r.toInt ≤ 59940))) := by
  refine Ct_intro (by decide +kernel) (Nat.le_of_ble_eq_true rfl) (fun X hC hL hKK hNm hr hlk hQ => ?_)
  subst hL
  have hC : Cx g X cX10_meanOf "HillTapModel" 6 rmX10_meanOf := hC
  show P g X 6 0 [(0, .ref a0), (1, .int x1), (2, .int x2)] [] 0 0 (K, len, I, J, R)
  have hF : Fr K [] I I := Fr.refl
  have hL0 : ∀ j : Nat, j < 60 → 0 ≤ L j ∧ L j ≤ 999 := fun j hj => (hL j hj).2
  have b_x1 := ti_rng x1
  have b_x2 := ti_rng x2
  refine r_iload_n hC dX10_meanOf_0 2 rfl ?_
  refine r_iload_n hC dX10_meanOf_1 1 rfl ?_
  refine r_isub hC dX10_meanOf_2 (fun x1_ e1 => ?_)
  try have t1 : x1_.toInt = x2.toInt - x1.toInt := by rw [e1]; exact ti_sub (by omega) (by omega)
  refine r_iconst hC (v := (1)) dX10_meanOf_3 (by decide) (by decide) (fun x2_ e2 t2 => ?_)
  refine r_iadd hC dX10_meanOf_4 (fun x3_ e3 => ?_)
  try have t3 : x3_.toInt = x1_.toInt + x2_.toInt := by rw [e3]; exact ti_add (by omega) (by omega)
  refine r_if_ge hC (tgt := 12) dX10_meanOf_5 (by decide) (fun c4 => ?_) (fun c4 => ?_)
  · refine r_iload_n hC dX10_meanOf_12 2 rfl ?_
    refine r_iload_n hC dX10_meanOf_13 1 rfl ?_
    refine r_isub hC dX10_meanOf_14 (fun x5_ e5 => ?_)
    try have t5 : x5_.toInt = x2.toInt - x1.toInt := by rw [e5]; exact ti_sub (by omega) (by omega)
    refine r_iconst hC (v := (1)) dX10_meanOf_15 (by decide) (by decide) (fun x6_ e6 t6 => ?_)
    refine r_iadd hC dX10_meanOf_16 (fun x7_ e7 => ?_)
    try have t7 : x7_.toInt = x5_.toInt + x6_.toInt := by rw [e7]; exact ti_add (by omega) (by omega)
    refine r_istore_n hC (lv' := [(3, .int x7_), (0, .ref a0), (1, .int x1), (2, .int x2)]) dX10_meanOf_17 (by decide) rfl ?_
    refine r_iconst hC (v := (0)) dX10_meanOf_18 (by decide) (by decide) (fun x8_ e8 t8 => ?_)
    refine r_istore hC (lv' := [(4, .int x8_), (3, .int x7_), (0, .ref a0), (1, .int x1), (2, .int x2)]) dX10_meanOf_19 (by decide) rfl ?_
    refine r_iload_n hC dX10_meanOf_21 1 rfl ?_
    refine r_istore hC (lv' := [(5, .int x7_), (4, .int x8_), (3, .int x7_), (0, .ref a0), (1, .int x1), (2, .int x2)]) dX10_meanOf_22 (by decide) rfl ?_
    have LP9 : ∀ (mu : Nat) (x9_5 : Int32) (x9_4 : Int32) (v9_0 : x7_.toInt ≤ x9_5.toInt) (v9_1 : x9_5.toInt ≤ x2.toInt + 1) (v9_2 : x9_4.toInt = Ps L x9_5.toInt.toNat - Ps L x7_.toInt.toNat) (v9_3 : 0 ≤ x9_4.toInt ∧ x9_4.toInt ≤ 999 * (x9_5.toInt - x7_.toInt)) (v9_4 : 0 ≤ x7_.toInt ∧ (x7_.toInt = 0 ∨ x7_.toInt = x2.toInt - x1.toInt + 1) ∧ x2.toInt - x1.toInt + 1 ≤ x7_.toInt), (61 - x9_5.toInt).toNat = mu → P g X 6 24 [(0, .ref a0), (1, .int x1), (2, .int x2), (3, .int x7_), (4, .int x9_4), (5, .int x9_5)] [] 0 0 (K, len, I, J, R) := by
      intro mu; induction mu using Nat.strongRecOn with | ind mu ih => ?_
      intro x9_5 x9_4 v9_0 v9_1 v9_2 v9_3 v9_4 hmu
      have ih9 := ih
      clear ih
      have hmu9 := hmu
      clear hmu
      refine r_iload hC dX10_meanOf_24 5 rfl ?_
      refine r_iload_n hC dX10_meanOf_26 2 rfl ?_
      refine r_icmp_gt hC (tgt := 48) dX10_meanOf_27 (by decide) (fun c10 => ?_) (fun c10 => ?_)
      · refine r_iload hC dX10_meanOf_48 4 rfl ?_
        refine r_iload_n hC dX10_meanOf_50 2 rfl ?_
        refine r_iload_n hC dX10_meanOf_51 3 rfl ?_
        refine r_isub hC dX10_meanOf_52 (fun x11_ e11 => ?_)
        try have t11 : x11_.toInt = x2.toInt - x7_.toInt := by rw [e11]; exact ti_sub (by omega) (by omega)
        refine r_iconst hC (v := (1)) dX10_meanOf_53 (by decide) (by decide) (fun x12_ e12 t12 => ?_)
        refine r_iadd hC dX10_meanOf_54 (fun x13_ e13 => ?_)
        try have t13 : x13_.toInt = x11_.toInt + x12_.toInt := by rw [e13]; exact ti_add (by omega) (by omega)
        refine r_idiv hC dX10_meanOf_55 (ne_0 (by omega)) (fun x14_ e14 => ?_)
        have td14 : x14_.toInt = x9_4.toInt / x13_.toInt := by rw [e14]; exact ti_div (by omega) (by omega)
        exact r_iret hC hQ hlk hr rfl (by decide) (by decide) dX10_meanOf_56 ⟨_, rfl, rfl, ⟨(by rw [show x2.toInt.toNat + 1 - x1.toInt.toNat = x7_.toInt.toNat by omega, show x2.toInt.toNat + 1 = x9_5.toInt.toNat by omega, ← v9_2, show min x1.toInt ((x2.toInt.toNat : Int) + 1) = x13_.toInt by omega]; exact td14), (by rw [td14]; exact ⟨Int.ediv_nonneg (by omega) (by omega), Int.le_trans (Int.ediv_le_self _ (by omega)) (by omega)⟩)⟩⟩
      · refine r_iload hC dX10_meanOf_30 4 rfl ?_
        refine r_aload_n hC dX10_meanOf_32 0 rfl ?_
        refine r_getr hC 15 (ci := 10) rfl u10_in (by decide) mT_5_10 dX10_meanOf_33 ka0 rfl rfl hlr ?_
        refine r_iload hC dX10_meanOf_36 5 rfl ?_
        refine x_iaload hC klr llr (by decide) rfl rfl dX10_meanOf_38 (by omega) (by omega) (fun x15_ e15 => ?_)
        have ql15 := hL x9_5.toInt.toNat (by omega)
        have qv15 : x15_.toInt = L x9_5.toInt.toNat := by rw [e15, hF.get klr rfl, clx (i := x9_5) rfl (by omega)]; exact ql15.1
        refine r_iadd hC dX10_meanOf_39 (fun x16_ e16 => ?_)
        try have t16 : x16_.toInt = x9_4.toInt + x15_.toInt := by rw [e16]; exact ti_add (by omega) (by omega)
        refine r_istore hC (lv' := [(4, .int x16_), (0, .ref a0), (1, .int x1), (2, .int x2), (3, .int x7_), (5, .int x9_5)]) dX10_meanOf_40 (by decide) rfl ?_
        obtain ⟨x17_, e17⟩ : ∃ z : Int32, z = x9_5 + Int32.ofInt (1) := ⟨_, rfl⟩
        refine r_iinc hC (j := 5) (v := x17_) (lv' := [(5, .int x17_), (4, .int x16_), (0, .ref a0), (1, .int x1), (2, .int x2), (3, .int x7_)]) dX10_meanOf_42 rfl (by rw [e17]) (by decide) rfl ?_
        try have t17 : x17_.toInt = x9_5.toInt + (1) := by rw [e17]; exact (ti_add (b := Int32.ofInt (1)) (by show _ ≤ _ + (1 : Int); omega) (by show _ + (1 : Int) ≤ _; omega))
        refine r_goto hC (tgt := 24) dX10_meanOf_45 (by decide) ?_
        refine r_sub [2, 3, 4, 5, 1, 0] rfl ?_
        exact ih9 ((61 - x17_.toInt).toNat) (by omega) x17_ x16_ (by omega) (by omega) (by first | omega | (rw [show x17_.toInt.toNat = x9_5.toInt.toNat + 1 by omega]; show _ = Ps L _ + L _ - _; omega)) (by omega) (by omega) rfl
    refine r_sub [3, 4, 5, 2, 1, 0] rfl ?_
    exact LP9 _ x7_ x8_ (by omega) (by omega) (by first | omega | (rw [show x7_.toInt.toNat = x9_5.toInt.toNat + 1 by omega]; show _ = Ps L _ + L _ - _; omega)) (by omega) (by omega) rfl
  · refine r_iconst hC (v := (0)) dX10_meanOf_8 (by decide) (by decide) (fun x18_ e18 t18 => ?_)
    refine r_goto hC (tgt := 17) dX10_meanOf_9 (by decide) ?_
    refine r_istore_n hC (lv' := [(3, .int x18_), (0, .ref a0), (1, .int x1), (2, .int x2)]) dX10_meanOf_17 (by decide) rfl ?_
    refine r_iconst hC (v := (0)) dX10_meanOf_18 (by decide) (by decide) (fun x19_ e19 t19 => ?_)
    refine r_istore hC (lv' := [(4, .int x19_), (3, .int x18_), (0, .ref a0), (1, .int x1), (2, .int x2)]) dX10_meanOf_19 (by decide) rfl ?_
    refine r_iload_n hC dX10_meanOf_21 1 rfl ?_
    refine r_istore hC (lv' := [(5, .int x18_), (4, .int x19_), (3, .int x18_), (0, .ref a0), (1, .int x1), (2, .int x2)]) dX10_meanOf_22 (by decide) rfl ?_
    have LP20 : ∀ (mu : Nat) (x20_5 : Int32) (x20_4 : Int32) (v20_0 : x18_.toInt ≤ x20_5.toInt) (v20_1 : x20_5.toInt ≤ x2.toInt + 1) (v20_2 : x20_4.toInt = Ps L x20_5.toInt.toNat - Ps L x18_.toInt.toNat) (v20_3 : 0 ≤ x20_4.toInt ∧ x20_4.toInt ≤ 999 * (x20_5.toInt - x18_.toInt)) (v20_4 : 0 ≤ x18_.toInt ∧ (x18_.toInt = 0 ∨ x18_.toInt = x2.toInt - x1.toInt + 1) ∧ x2.toInt - x1.toInt + 1 ≤ x18_.toInt), (61 - x20_5.toInt).toNat = mu → P g X 6 24 [(0, .ref a0), (1, .int x1), (2, .int x2), (3, .int x18_), (4, .int x20_4), (5, .int x20_5)] [] 0 0 (K, len, I, J, R) := by
      intro mu; induction mu using Nat.strongRecOn with | ind mu ih => ?_
      intro x20_5 x20_4 v20_0 v20_1 v20_2 v20_3 v20_4 hmu
      have ih20 := ih
      clear ih
      have hmu20 := hmu
      clear hmu
      refine r_iload hC dX10_meanOf_24 5 rfl ?_
      refine r_iload_n hC dX10_meanOf_26 2 rfl ?_
      refine r_icmp_gt hC (tgt := 48) dX10_meanOf_27 (by decide) (fun c21 => ?_) (fun c21 => ?_)
      · refine r_iload hC dX10_meanOf_48 4 rfl ?_
        refine r_iload_n hC dX10_meanOf_50 2 rfl ?_
        refine r_iload_n hC dX10_meanOf_51 3 rfl ?_
        refine r_isub hC dX10_meanOf_52 (fun x22_ e22 => ?_)
        try have t22 : x22_.toInt = x2.toInt - x18_.toInt := by rw [e22]; exact ti_sub (by omega) (by omega)
        refine r_iconst hC (v := (1)) dX10_meanOf_53 (by decide) (by decide) (fun x23_ e23 t23 => ?_)
        refine r_iadd hC dX10_meanOf_54 (fun x24_ e24 => ?_)
        try have t24 : x24_.toInt = x22_.toInt + x23_.toInt := by rw [e24]; exact ti_add (by omega) (by omega)
        refine r_idiv hC dX10_meanOf_55 (ne_0 (by omega)) (fun x25_ e25 => ?_)
        have td25 : x25_.toInt = x20_4.toInt / x24_.toInt := by rw [e25]; exact ti_div (by omega) (by omega)
        exact r_iret hC hQ hlk hr rfl (by decide) (by decide) dX10_meanOf_56 ⟨_, rfl, rfl, ⟨(by rw [show x2.toInt.toNat + 1 - x1.toInt.toNat = x18_.toInt.toNat by omega, show x2.toInt.toNat + 1 = x20_5.toInt.toNat by omega, ← v20_2, show min x1.toInt ((x2.toInt.toNat : Int) + 1) = x24_.toInt by omega]; exact td25), (by rw [td25]; exact ⟨Int.ediv_nonneg (by omega) (by omega), Int.le_trans (Int.ediv_le_self _ (by omega)) (by omega)⟩)⟩⟩
      · refine r_iload hC dX10_meanOf_30 4 rfl ?_
        refine r_aload_n hC dX10_meanOf_32 0 rfl ?_
        refine r_getr hC 15 (ci := 10) rfl u10_in (by decide) mT_5_10 dX10_meanOf_33 ka0 rfl rfl hlr ?_
        refine r_iload hC dX10_meanOf_36 5 rfl ?_
        refine x_iaload hC klr llr (by decide) rfl rfl dX10_meanOf_38 (by omega) (by omega) (fun x26_ e26 => ?_)
        have ql26 := hL x20_5.toInt.toNat (by omega)
        have qv26 : x26_.toInt = L x20_5.toInt.toNat := by rw [e26, hF.get klr rfl, clx (i := x20_5) rfl (by omega)]; exact ql26.1
        refine r_iadd hC dX10_meanOf_39 (fun x27_ e27 => ?_)
        try have t27 : x27_.toInt = x20_4.toInt + x26_.toInt := by rw [e27]; exact ti_add (by omega) (by omega)
        refine r_istore hC (lv' := [(4, .int x27_), (0, .ref a0), (1, .int x1), (2, .int x2), (3, .int x18_), (5, .int x20_5)]) dX10_meanOf_40 (by decide) rfl ?_
        obtain ⟨x28_, e28⟩ : ∃ z : Int32, z = x20_5 + Int32.ofInt (1) := ⟨_, rfl⟩
        refine r_iinc hC (j := 5) (v := x28_) (lv' := [(5, .int x28_), (4, .int x27_), (0, .ref a0), (1, .int x1), (2, .int x2), (3, .int x18_)]) dX10_meanOf_42 rfl (by rw [e28]) (by decide) rfl ?_
        try have t28 : x28_.toInt = x20_5.toInt + (1) := by rw [e28]; exact (ti_add (b := Int32.ofInt (1)) (by show _ ≤ _ + (1 : Int); omega) (by show _ + (1 : Int) ≤ _; omega))
        refine r_goto hC (tgt := 24) dX10_meanOf_45 (by decide) ?_
        refine r_sub [2, 3, 4, 5, 1, 0] rfl ?_
        exact ih20 ((61 - x28_.toInt).toNat) (by omega) x28_ x27_ (by omega) (by omega) (by first | omega | (rw [show x28_.toInt.toNat = x20_5.toInt.toNat + 1 by omega]; show _ = Ps L _ + L _ - _; omega)) (by omega) (by omega) rfl
    refine r_sub [3, 4, 5, 2, 1, 0] rfl ?_
    exact LP20 _ x18_ x19_ (by omega) (by omega) (by first | omega | (rw [show x18_.toInt.toNat = x20_5.toInt.toNat + 1 by omega]; show _ = Ps L _ + L _ - _; omega)) (by omega) (by omega) rfl
set_option maxHeartbeats 4000000 in
set_option maxRecDepth 100000 in
theorem f_X10_rainOf (g : GG) (l : Launch) (K len : Nat → Nat) (I : Nat → Nat → Int32) (J : Nat → Nat → Int64) (R : Nat → Nat → Option Nat) (hs : Sf K len I R) (a0 : Nat) (ka0 : K a0 = 11) (x1 : Int32) (hm : Nat) (hbm : R a0 3 = some hm) (khm : K hm = 10) (rr : Nat) (hrr : R hm 15 = some rr) (krr : K rr = 74) (lrr : len rr = 60) (L : Nat → Int) (hL : ∀ j : Nat, j < 60 → (I rr j).toInt = L j ∧ 0 ≤ L j ∧ L j ≤ 594) (p0 : 0 ≤ x1.toInt) (p1 : x1.toInt ≤ 59) : Ct g l yX10_rainOf cX10_rainOf 4 (Option.some Jvm.ClassFile.FieldType.int) rmX10_rainOf [.ref a0, .int x1] (K, len, I, J, R) (pI0 (K, len, I, J, R) (fun r => (r.toInt = Ps L (x1.toInt.toNat + 1) - Ps L (x1.toInt.toNat + 1 - 5)) ∧ (0 ≤ r.toInt ∧ r.toInt ≤ 2970))) := by
  refine Ct_intro (by decide +kernel) (Nat.le_of_ble_eq_true rfl) (fun X hC hL hKK hNm hr hlk hQ => ?_)
  subst hL
  have hC : Cx g X cX10_rainOf "HillTapModel" 4 rmX10_rainOf := hC
  show P g X 4 0 [(0, .ref a0), (1, .int x1)] [] 0 0 (K, len, I, J, R)
  have hF : Fr K [] I I := Fr.refl
  have b_x1 := ti_rng x1
  refine r_iconst hC (v := (0)) dX10_rainOf_0 (by decide) (by decide) (fun x1_ e1 t1 => ?_)
  refine r_istore_n hC (lv' := [(2, .int x1_), (0, .ref a0), (1, .int x1)]) dX10_rainOf_1 (by decide) rfl ?_
  refine r_iload_n hC dX10_rainOf_2 2 rfl ?_
  refine r_iconst hC (v := (5)) dX10_rainOf_3 (by decide) (by decide) (fun x2_ e2 t2 => ?_)
  refine r_icmp_ge hC (tgt := 11) dX10_rainOf_4 (by decide) (fun c3 => ?_) (fun c3 => ?_)
  · refine r_iload_n hC dX10_rainOf_11 2 rfl ?_
    refine r_iconst hC (v := (5)) dX10_rainOf_12 (by decide) (by decide) (fun x4_ e4 t4 => ?_)
    refine r_isub hC dX10_rainOf_13 (fun x5_ e5 => ?_)
    try have t5 : x5_.toInt = x1.toInt - x4_.toInt := by rw [e5]; exact ti_sub (by omega) (by omega)
    refine r_iconst hC (v := (1)) dX10_rainOf_14 (by decide) (by decide) (fun x6_ e6 t6 => ?_)
    refine r_iadd hC dX10_rainOf_15 (fun x7_ e7 => ?_)
    try have t7 : x7_.toInt = x5_.toInt + x6_.toInt := by rw [e7]; exact ti_add (by omega) (by omega)
    refine r_istore_n hC (lv' := [(3, .int x7_), (2, .int x1_), (0, .ref a0), (1, .int x1)]) dX10_rainOf_16 (by decide) rfl ?_
    have LP8 : ∀ (mu : Nat) (x8_3 : Int32) (x8_2 : Int32) (v8_0 : x1.toInt - 4 ≤ x8_3.toInt) (v8_1 : 0 ≤ x8_3.toInt ∧ x8_3.toInt ≤ x1.toInt + 1) (v8_2 : x8_2.toInt = Ps L x8_3.toInt.toNat - Ps L (x1.toInt.toNat + 1 - 5)) (v8_3 : 0 ≤ x8_2.toInt ∧ x8_2.toInt ≤ 594 * (x8_3.toInt - (x1.toInt - 4)) ∧ x8_2.toInt ≤ 594 * x8_3.toInt), (61 - x8_3.toInt).toNat = mu → P g X 4 17 [(0, .ref a0), (1, .int x1), (2, .int x8_2), (3, .int x8_3)] [] 0 0 (K, len, I, J, R) := by
      intro mu; induction mu using Nat.strongRecOn with | ind mu ih => ?_
      intro x8_3 x8_2 v8_0 v8_1 v8_2 v8_3 hmu
      have ih8 := ih
      clear ih
      have hmu8 := hmu
      clear hmu
      refine r_iload_n hC dX10_rainOf_17 3 rfl ?_
      refine r_iload_n hC dX10_rainOf_18 1 rfl ?_
      refine r_icmp_gt hC (tgt := 40) dX10_rainOf_19 (by decide) (fun c9 => ?_) (fun c9 => ?_)
      · refine r_iload_n hC dX10_rainOf_40 2 rfl ?_
        exact r_iret hC hQ hlk hr rfl (by decide) (by decide) dX10_rainOf_41 ⟨_, rfl, rfl, ⟨(by rw [v8_2, show x8_3.toInt.toNat = x1.toInt.toNat + 1 by omega]), (by omega)⟩⟩
      · refine r_iload_n hC dX10_rainOf_22 2 rfl ?_
        refine r_aload_n hC dX10_rainOf_23 0 rfl ?_
        refine r_getr hC 3 (ci := 10) rfl u10_in (by decide) mT_4_238 dX10_rainOf_24 ka0 rfl rfl hbm ?_
        refine r_getrN hC 15 (ci := 9) rfl u9_in (by decide) nF_15 dX10_rainOf_27 khm rfl rfl hrr ?_
        refine r_iload_n hC dX10_rainOf_30 3 rfl ?_
        refine x_iaload hC krr lrr (by decide) rfl rfl dX10_rainOf_31 (by omega) (by omega) (fun x10_ e10 => ?_)
        have ql10 := hL x8_3.toInt.toNat (by omega)
        have qv10 : x10_.toInt = L x8_3.toInt.toNat := by rw [e10, hF.get krr rfl, clx (i := x8_3) rfl (by omega)]; exact ql10.1
        refine r_iadd hC dX10_rainOf_32 (fun x11_ e11 => ?_)
        try have t11 : x11_.toInt = x8_2.toInt + x10_.toInt := by rw [e11]; exact ti_add (by omega) (by omega)
        refine r_istore_n hC (lv' := [(2, .int x11_), (0, .ref a0), (1, .int x1), (3, .int x8_3)]) dX10_rainOf_33 (by decide) rfl ?_
        obtain ⟨x12_, e12⟩ : ∃ z : Int32, z = x8_3 + Int32.ofInt (1) := ⟨_, rfl⟩
        refine r_iinc hC (j := 3) (v := x12_) (lv' := [(3, .int x12_), (2, .int x11_), (0, .ref a0), (1, .int x1)]) dX10_rainOf_34 rfl (by rw [e12]) (by decide) rfl ?_
        try have t12 : x12_.toInt = x8_3.toInt + (1) := by rw [e12]; exact (ti_add (b := Int32.ofInt (1)) (by show _ ≤ _ + (1 : Int); omega) (by show _ + (1 : Int) ≤ _; omega))
        refine r_goto hC (tgt := 17) dX10_rainOf_37 (by decide) ?_
        refine r_sub [2, 3, 1, 0] rfl ?_
        exact ih8 ((61 - x12_.toInt).toNat) (by omega) x12_ x11_ (by omega) (by omega) (by first | (rw [show x12_.toInt.toNat = x1.toInt.toNat + 1 - 5 by omega]; omega) | (rw [show x12_.toInt.toNat = x8_3.toInt.toNat + 1 by omega]; show _ = Ps L _ + L _ - _; omega)) (by omega) rfl
    refine r_sub [2, 3, 1, 0] rfl ?_
    exact LP8 _ x7_ x1_ (by omega) (by omega) (by first | (rw [show x7_.toInt.toNat = x1.toInt.toNat + 1 - 5 by omega]; omega) | (rw [show x7_.toInt.toNat = x8_3.toInt.toNat + 1 by omega]; show _ = Ps L _ + L _ - _; omega)) (by omega) rfl
  · refine r_iconst hC (v := (0)) dX10_rainOf_7 (by decide) (by decide) (fun x13_ e13 t13 => ?_)
    refine r_goto hC (tgt := 16) dX10_rainOf_8 (by decide) ?_
    refine r_istore_n hC (lv' := [(3, .int x13_), (2, .int x1_), (0, .ref a0), (1, .int x1)]) dX10_rainOf_16 (by decide) rfl ?_
    have LP14 : ∀ (mu : Nat) (x14_3 : Int32) (x14_2 : Int32) (v14_0 : x1.toInt - 4 ≤ x14_3.toInt) (v14_1 : 0 ≤ x14_3.toInt ∧ x14_3.toInt ≤ x1.toInt + 1) (v14_2 : x14_2.toInt = Ps L x14_3.toInt.toNat - Ps L (x1.toInt.toNat + 1 - 5)) (v14_3 : 0 ≤ x14_2.toInt ∧ x14_2.toInt ≤ 594 * (x14_3.toInt - (x1.toInt - 4)) ∧ x14_2.toInt ≤ 594 * x14_3.toInt), (61 - x14_3.toInt).toNat = mu → P g X 4 17 [(0, .ref a0), (1, .int x1), (2, .int x14_2), (3, .int x14_3)] [] 0 0 (K, len, I, J, R) := by
      intro mu; induction mu using Nat.strongRecOn with | ind mu ih => ?_
      intro x14_3 x14_2 v14_0 v14_1 v14_2 v14_3 hmu
      have ih14 := ih
      clear ih
      have hmu14 := hmu
      clear hmu
      refine r_iload_n hC dX10_rainOf_17 3 rfl ?_
      refine r_iload_n hC dX10_rainOf_18 1 rfl ?_
      refine r_icmp_gt hC (tgt := 40) dX10_rainOf_19 (by decide) (fun c15 => ?_) (fun c15 => ?_)
      · refine r_iload_n hC dX10_rainOf_40 2 rfl ?_
        exact r_iret hC hQ hlk hr rfl (by decide) (by decide) dX10_rainOf_41 ⟨_, rfl, rfl, ⟨(by rw [v14_2, show x14_3.toInt.toNat = x1.toInt.toNat + 1 by omega]), (by omega)⟩⟩
      · refine r_iload_n hC dX10_rainOf_22 2 rfl ?_
        refine r_aload_n hC dX10_rainOf_23 0 rfl ?_
        refine r_getr hC 3 (ci := 10) rfl u10_in (by decide) mT_4_238 dX10_rainOf_24 ka0 rfl rfl hbm ?_
        refine r_getrN hC 15 (ci := 9) rfl u9_in (by decide) nF_15 dX10_rainOf_27 khm rfl rfl hrr ?_
        refine r_iload_n hC dX10_rainOf_30 3 rfl ?_
        refine x_iaload hC krr lrr (by decide) rfl rfl dX10_rainOf_31 (by omega) (by omega) (fun x16_ e16 => ?_)
        have ql16 := hL x14_3.toInt.toNat (by omega)
        have qv16 : x16_.toInt = L x14_3.toInt.toNat := by rw [e16, hF.get krr rfl, clx (i := x14_3) rfl (by omega)]; exact ql16.1
        refine r_iadd hC dX10_rainOf_32 (fun x17_ e17 => ?_)
        try have t17 : x17_.toInt = x14_2.toInt + x16_.toInt := by rw [e17]; exact ti_add (by omega) (by omega)
        refine r_istore_n hC (lv' := [(2, .int x17_), (0, .ref a0), (1, .int x1), (3, .int x14_3)]) dX10_rainOf_33 (by decide) rfl ?_
        obtain ⟨x18_, e18⟩ : ∃ z : Int32, z = x14_3 + Int32.ofInt (1) := ⟨_, rfl⟩
        refine r_iinc hC (j := 3) (v := x18_) (lv' := [(3, .int x18_), (2, .int x17_), (0, .ref a0), (1, .int x1)]) dX10_rainOf_34 rfl (by rw [e18]) (by decide) rfl ?_
        try have t18 : x18_.toInt = x14_3.toInt + (1) := by rw [e18]; exact (ti_add (b := Int32.ofInt (1)) (by show _ ≤ _ + (1 : Int); omega) (by show _ + (1 : Int) ≤ _; omega))
        refine r_goto hC (tgt := 17) dX10_rainOf_37 (by decide) ?_
        refine r_sub [2, 3, 1, 0] rfl ?_
        exact ih14 ((61 - x18_.toInt).toNat) (by omega) x18_ x17_ (by omega) (by omega) (by first | (rw [show x18_.toInt.toNat = x1.toInt.toNat + 1 - 5 by omega]; omega) | (rw [show x18_.toInt.toNat = x14_3.toInt.toNat + 1 by omega]; show _ = Ps L _ + L _ - _; omega)) (by omega) rfl
    refine r_sub [2, 3, 1, 0] rfl ?_
    exact LP14 _ x13_ x1_ (by omega) (by omega) (by first | (rw [show x13_.toInt.toNat = x1.toInt.toNat + 1 - 5 by omega]; omega) | (rw [show x13_.toInt.toNat = x14_3.toInt.toNat + 1 by omega]; show _ = Ps L _ + L _ - _; omega)) (by omega) rfl
set_option maxHeartbeats 4000000 in
set_option maxRecDepth 100000 in
theorem f_X10_addOf (g : GG) (l : Launch) (K len : Nat → Nat) (I : Nat → Nat → Int32) (J : Nat → Nat → Int64) (R : Nat → Nat → Option Nat) (hs : Sf K len I R) (a0 : Nat) (ka0 : K a0 = 11) (x1 : Int32) (x2 : Int32) (x3 : Int32) (hm : Nat) (hbm : R a0 3 = some hm) (khm : K hm = 10) (ps1 : x1.toInt < (I hm 7).toInt) (lr : Nat) (hlr : R a0 15 = some lr) (klr : K lr = 85) (llr : len lr = 60) (L : Nat → Int) (hL : ∀ j : Nat, j < 60 → (I lr j).toInt = L j ∧ 0 ≤ L j ∧ L j ≤ 999) (D : DD) (hJ : DJ D) (rwm : RW (CM hm R) (cntN D) D I) (hd1 : (I hm 0).toInt = D 0 1) (hsk : x1.toInt < D 0 7) (rr : Nat) (hrr : R hm 15 = some rr) (krr : K rr = 74) (lrr : len rr = 60) (hrn : ∀ j : Nat, j < 60 → (I rr j).toInt = D 5 j ∧ 0 ≤ D 5 j ∧ D 5 j ≤ 594) (p0 : 0 ≤ x1.toInt) (p1 : x1.toInt ≤ 5) (p2 : 0 ≤ x2.toInt) (p3 : x2.toInt ≤ 59) : Ct g l yX10_addOf cX10_addOf 5 (Option.some Jvm.ClassFile.FieldType.int) rmX10_addOf [.ref a0, .int x1, .int x2, .int x3] (K, len, I, J, R) (pI0 (K, len, I, J, R) (fun r => (r.toInt = Ad D x1.toInt.toNat L x3.toInt x2.toInt.toNat))) := by
  refine Ct_intro (by decide +kernel) (Nat.le_of_ble_eq_true rfl) (fun X hC hL hKK hNm hr hlk hQ => ?_)
  subst hL
  have hC : Cx g X cX10_addOf "HillTapModel" 5 rmX10_addOf := hC
  show P g X 5 0 [(0, .ref a0), (1, .int x1), (2, .int x2), (3, .int x3)] [] 0 0 (K, len, I, J, R)
  have hF : Fr K [] I I := Fr.refl
  have j7 := hJ.k7 x1.toInt.toNat
  have j8 := hJ.k8 x1.toInt.toNat
  have jst := hJ.2.2.2.2.1
  have b_x1 := ti_rng x1
  have b_x2 := ti_rng x2
  have b_x3 := ti_rng x3
  obtain ⟨S0, eS0⟩ : ∃ z : Int32, z = I hm 7 := ⟨_, rfl⟩
  have fS0 : S0.toInt = (I hm 7).toInt := by rw [eS0]
  have rS0 := hs.rng khm rfl eS0
  refine r_aload_n hC dX10_addOf_0 0 rfl ?_
  refine r_getr hC 3 (ci := 10) rfl u10_in (by decide) mT_4_238 dX10_addOf_1 ka0 rfl rfl hbm ?_
  obtain ⟨a1_, hb1, hk1, hn1⟩ := hs.row khm 18 76 6 (by decide) (by decide)
  refine r_getrN hC 18 (ci := 9) rfl u9_in (by decide) nF_18 dX10_addOf_4 khm rfl rfl hb1 ?_
  refine r_iload_n hC dX10_addOf_7 1 rfl ?_
  refine x_iaload hC hk1 hn1 (by decide) rfl rfl dX10_addOf_8 (by omega) (by omega) (fun x2_ e2 => ?_)
  have xkk : x2_.toInt = D 8 x1.toInt.toNat := by rw [e2, clx (i := x1) rfl (by omega)]; exact rwm 8 _ _ _ (cM (r := 8) (by decide) (by decide) hb1) (by rw [cnt_8]; omega) (fun h9 => absurd h9 (by decide))
  refine r_istore hC (lv' := [(4, .int x2_), (0, .ref a0), (1, .int x1), (2, .int x2), (3, .int x3)]) dX10_addOf_9 (by decide) rfl ?_
  refine r_aload_n hC dX10_addOf_11 1 rfl ?_
  refine r_getr hC 3 (ci := 10) rfl u10_in (by decide) mT_4_238 dX10_addOf_12 ka0 rfl rfl hbm ?_
  obtain ⟨kd3, mo3, hb3, hk3, hn3, hB3, hK3, hN3⟩ := hs.2.2.1 hm khm
  refine r_getrN hC 17 (ci := 9) rfl u9_in (by decide) nF_17 dX10_addOf_15 khm rfl rfl hb3 ?_
  refine r_iload_n hC dX10_addOf_18 2 rfl ?_
  refine x_iaload hC hk3 hn3 (by omega) (kOb (by omega)) (kAb (by omega)) dX10_addOf_19 (by omega) (by omega) (fun x4_ e4 => ?_)
  have xkd : x4_.toInt = D 7 x1.toInt.toNat := by rw [e4, clx (i := x1) rfl (by omega)]; exact rwm 7 _ _ _ (cM (r := 7) (by decide) (by decide) hb3) (by rw [cnt_7]; omega) (fun h9 => absurd h9 (by decide))
  by_cases o5 : x4_.toInt < 1 ∨ 5 < x4_.toInt
  · refine r_tabOut hC (tgt := 102) dX10_addOf_20 o5 (by decide) ?_
    refine r_iload hC dX10_addOf_102 0 rfl ?_
    refine r_aload_n hC dX10_addOf_104 1 rfl ?_
    refine r_getr hC 15 (ci := 10) rfl u10_in (by decide) mT_5_10 dX10_addOf_105 ka0 rfl rfl hlr ?_
    refine r_iload_n hC dX10_addOf_108 3 rfl ?_
    refine x_iaload hC klr llr (by decide) rfl rfl dX10_addOf_109 (by omega) (by omega) (fun x6_ e6 => ?_)
    have ql6 := hL x2.toInt.toNat (by omega)
    have qv6 : x6_.toInt = L x2.toInt.toNat := by rw [e6, hF.get klr rfl, clx (i := x2) rfl (by omega)]; exact ql6.1
    refine r_imul hC dX10_addOf_110 (fun x7_ e7 => ?_)
    have mb7 := mul_b (a := x2_.toInt) (b := x6_.toInt) (A := 99) (B := 999) (C := 98901) (by decide) (by omega) (by omega) (by omega) (by omega)
    have tm7 : x7_.toInt = x2_.toInt * x6_.toInt := by rw [e7]; exact ti_mul rfl rfl (by omega) (by omega)
    refine r_bipush hC (v := (100)) dX10_addOf_111 (by decide) (by decide) (fun x8_ e8 t8 => ?_)
    refine r_idiv hC dX10_addOf_113 (ne_0 (by omega)) (fun x9_ e9 => ?_)
    have td9 : x9_.toInt = x7_.toInt / 100 := by rw [e9, ti_div (by omega) (by omega), show x8_.toInt = 100 by omega]
    exact r_iret hC hQ hlk hr rfl (by decide) (by decide) dX10_addOf_114 ⟨_, rfl, rfl, (by first | (rw [Ad_1 (by omega), show D 8 x1.toInt.toNat = x2_.toInt by omega]; exact k0_0) | (rw [Ad_2 (by omega), show D 9 x1.toInt.toNat = NOxkm.toInt by omega, ← k0_0, show D 8 x1.toInt.toNat = x2_.toInt by omega]; omega) | (rw [Ad_5 (by omega) (by omega), ← k0_0, show D 8 x1.toInt.toNat = x2_.toInt by omega]; omega) | (rw [Ad_5n (by omega) (by omega)]; omega) | (rw [Ad_d (by omega), show D 8 x1.toInt.toNat = x2_.toInt by omega, show L x2.toInt.toNat = x6_.toInt by omega]; omega))⟩
  · rcases (show x4_.toInt = 1 ∨ x4_.toInt = 2 ∨ x4_.toInt = 3 ∨ x4_.toInt = 4 ∨ x4_.toInt = 5 by omega) with o5 | o5 | o5 | o5 | o5
    · refine r_tabIn hC (tgt := 56) (off := 36) dX10_addOf_20 (by omega) (by omega) (by rw [o5]; decide) (by decide) ?_
      refine r_aload_n hC dX10_addOf_56 1 rfl ?_
      refine r_iload hC dX10_addOf_57 0 rfl ?_
      refine r_iload_n hC dX10_addOf_59 3 rfl ?_
      refine r_callV hC (As := [.int x2_, .int x2]) (rest := []) (ci := 10) (f_X10_newOf g (xL X) K len I J R hs a0 ka0 x2_ x2 hm hbm khm lr hlr klr llr L hL D (by omega) (by omega) (by omega) (by omega) (by omega)) mT_6_139 mT_1_10 mT_6_136 mT_6_138 mP_76 okX10_newOf ⟨by decide, by decide⟩ rfl (by show kO (K a0) = _; rw [ka0]; rfl) rfl rfl (Nat.le_of_ble_eq_true rfl) ⟨by decide, by decide⟩ dX10_addOf_60 (aI0 (F := fun st M => P g X 5 63 [(4, .int x2_), (0, .ref a0), (1, .int x1), (2, .int x2), (3, .int x3)] st _ _ M) (M := (K, len, I, J, R)) fun x10_ h10 => ?_)
      have k10_0 := h10
      clear h10
      show P g X 5 63 [(4, .int x2_), (0, .ref a0), (1, .int x1), (2, .int x2), (3, .int x3)] [.int x10_] _ _ (K, len, I, J, R)
      exact r_iret hC hQ hlk hr rfl (by decide) (by decide) dX10_addOf_63 ⟨_, rfl, rfl, (by first | (rw [Ad_1 (by omega), show D 8 x1.toInt.toNat = x2_.toInt by omega]; exact k10_0) | (rw [Ad_2 (by omega), show D 9 x1.toInt.toNat = NOxkm.toInt by omega, ← k10_0, show D 8 x1.toInt.toNat = x2_.toInt by omega]; omega) | (rw [Ad_5 (by omega) (by omega), ← k10_0, show D 8 x1.toInt.toNat = x2_.toInt by omega]; omega) | (rw [Ad_5n (by omega) (by omega)]; omega) | (rw [Ad_d (by omega), show D 8 x1.toInt.toNat = x2_.toInt by omega, show L x2.toInt.toNat = NOmly.toInt by omega]; omega))⟩
    · refine r_tabIn hC (tgt := 64) (off := 44) dX10_addOf_20 (by omega) (by omega) (by rw [o5]; decide) (by decide) ?_
      refine r_iload hC dX10_addOf_64 0 rfl ?_
      refine r_aload_n hC dX10_addOf_66 1 rfl ?_
      refine r_aload_n hC dX10_addOf_67 1 rfl ?_
      refine r_getr hC 3 (ci := 10) rfl u10_in (by decide) mT_4_238 dX10_addOf_68 ka0 rfl rfl hbm ?_
      refine r_getrN hC 19 (ci := 9) rfl u9_in (by decide) nF_19 dX10_addOf_71 khm rfl rfl hB3 ?_
      refine r_iload_n hC dX10_addOf_74 2 rfl ?_
      refine x_iaload hC hK3 hN3 (by omega) (kOb (by omega)) (kAb (by omega)) dX10_addOf_75 (by omega) (by omega) (fun x11_ e11 => ?_)
      have xkm : x11_.toInt = D 9 x1.toInt.toNat := by rw [e11, clx (i := x1) rfl (by omega)]; exact rwm 9 _ _ _ (cM (r := 9) (by decide) (by decide) hB3) (by rw [cnt_9]; omega) (fun _ => Or.inl (by omega))
      have jm := (hJ.2.2.2.2.2.1 x1.toInt.toNat (by omega)).2.1 (by omega)
      refine r_iload_n hC dX10_addOf_76 3 rfl ?_
      refine r_callV hC (As := [.int x11_, .int x2]) (rest := [.int x2_]) (ci := 10) (f_X10_meanOf g (xL X) K len I J R hs a0 ka0 x11_ x2 lr hlr klr llr L hL (by omega) (by omega) (by omega) (by omega)) mT_6_143 mT_1_10 mT_6_140 mT_6_142 mP_77 okX10_meanOf ⟨by decide, by decide⟩ rfl (by show kO (K a0) = _; rw [ka0]; rfl) rfl rfl (Nat.le_of_ble_eq_true rfl) ⟨by decide, by decide⟩ dX10_addOf_77 (aI0 (F := fun st M => P g X 5 80 [(4, .int x2_), (0, .ref a0), (1, .int x1), (2, .int x2), (3, .int x3)] st _ _ M) (M := (K, len, I, J, R)) fun x12_ h12 => ?_)
      obtain ⟨k12_0, k12_1⟩ := h12
      show P g X 5 80 [(4, .int x2_), (0, .ref a0), (1, .int x1), (2, .int x2), (3, .int x3)] [.int x12_, .int x2_] _ _ (K, len, I, J, R)
      refine r_imul hC dX10_addOf_80 (fun x13_ e13 => ?_)
      have mb13 := mul_b (a := x2_.toInt) (b := x12_.toInt) (A := 99) (B := 60000) (C := 5940000) (by decide) (by omega) (by omega) (by omega) (by omega)
      have tm13 : x13_.toInt = x2_.toInt * x12_.toInt := by rw [e13]; exact ti_mul rfl rfl (by omega) (by omega)
      refine r_bipush hC (v := (100)) dX10_addOf_81 (by decide) (by decide) (fun x14_ e14 t14 => ?_)
      refine r_idiv hC dX10_addOf_83 (ne_0 (by omega)) (fun x15_ e15 => ?_)
      have td15 : x15_.toInt = x13_.toInt / 100 := by rw [e15, ti_div (by omega) (by omega), show x14_.toInt = 100 by omega]
      exact r_iret hC hQ hlk hr rfl (by decide) (by decide) dX10_addOf_84 ⟨_, rfl, rfl, (by first | (rw [Ad_1 (by omega), show D 8 x1.toInt.toNat = x2_.toInt by omega]; exact k12_0) | (rw [Ad_2 (by omega), show D 9 x1.toInt.toNat = x11_.toInt by omega, ← k12_0, show D 8 x1.toInt.toNat = x2_.toInt by omega]; omega) | (rw [Ad_5 (by omega) (by omega), ← k12_0, show D 8 x1.toInt.toNat = x2_.toInt by omega]; omega) | (rw [Ad_5n (by omega) (by omega)]; omega) | (rw [Ad_d (by omega), show D 8 x1.toInt.toNat = x2_.toInt by omega, show L x2.toInt.toNat = x12_.toInt by omega]; omega))⟩
    · refine r_tabIn hC (tgt := 102) (off := 82) dX10_addOf_20 (by omega) (by omega) (by rw [o5]; decide) (by decide) ?_
      refine r_iload hC dX10_addOf_102 0 rfl ?_
      refine r_aload_n hC dX10_addOf_104 1 rfl ?_
      refine r_getr hC 15 (ci := 10) rfl u10_in (by decide) mT_5_10 dX10_addOf_105 ka0 rfl rfl hlr ?_
      refine r_iload_n hC dX10_addOf_108 3 rfl ?_
      refine x_iaload hC klr llr (by decide) rfl rfl dX10_addOf_109 (by omega) (by omega) (fun x16_ e16 => ?_)
      have ql16 := hL x2.toInt.toNat (by omega)
      have qv16 : x16_.toInt = L x2.toInt.toNat := by rw [e16, hF.get klr rfl, clx (i := x2) rfl (by omega)]; exact ql16.1
      refine r_imul hC dX10_addOf_110 (fun x17_ e17 => ?_)
      have mb17 := mul_b (a := x2_.toInt) (b := x16_.toInt) (A := 99) (B := 999) (C := 98901) (by decide) (by omega) (by omega) (by omega) (by omega)
      have tm17 : x17_.toInt = x2_.toInt * x16_.toInt := by rw [e17]; exact ti_mul rfl rfl (by omega) (by omega)
      refine r_bipush hC (v := (100)) dX10_addOf_111 (by decide) (by decide) (fun x18_ e18 t18 => ?_)
      refine r_idiv hC dX10_addOf_113 (ne_0 (by omega)) (fun x19_ e19 => ?_)
      have td19 : x19_.toInt = x17_.toInt / 100 := by rw [e19, ti_div (by omega) (by omega), show x18_.toInt = 100 by omega]
      exact r_iret hC hQ hlk hr rfl (by decide) (by decide) dX10_addOf_114 ⟨_, rfl, rfl, (by first | (rw [Ad_1 (by omega), show D 8 x1.toInt.toNat = x2_.toInt by omega]; exact k0_0) | (rw [Ad_2 (by omega), show D 9 x1.toInt.toNat = NOxkm.toInt by omega, ← k0_0, show D 8 x1.toInt.toNat = x2_.toInt by omega]; omega) | (rw [Ad_5 (by omega) (by omega), ← k0_0, show D 8 x1.toInt.toNat = x2_.toInt by omega]; omega) | (rw [Ad_5n (by omega) (by omega)]; omega) | (rw [Ad_d (by omega), show D 8 x1.toInt.toNat = x2_.toInt by omega, show L x2.toInt.toNat = x16_.toInt by omega]; omega))⟩
    · refine r_tabIn hC (tgt := 102) (off := 82) dX10_addOf_20 (by omega) (by omega) (by rw [o5]; decide) (by decide) ?_
      refine r_iload hC dX10_addOf_102 0 rfl ?_
      refine r_aload_n hC dX10_addOf_104 1 rfl ?_
      refine r_getr hC 15 (ci := 10) rfl u10_in (by decide) mT_5_10 dX10_addOf_105 ka0 rfl rfl hlr ?_
      refine r_iload_n hC dX10_addOf_108 3 rfl ?_
      refine x_iaload hC klr llr (by decide) rfl rfl dX10_addOf_109 (by omega) (by omega) (fun x20_ e20 => ?_)
      have ql20 := hL x2.toInt.toNat (by omega)
      have qv20 : x20_.toInt = L x2.toInt.toNat := by rw [e20, hF.get klr rfl, clx (i := x2) rfl (by omega)]; exact ql20.1
      refine r_imul hC dX10_addOf_110 (fun x21_ e21 => ?_)
      have mb21 := mul_b (a := x2_.toInt) (b := x20_.toInt) (A := 99) (B := 999) (C := 98901) (by decide) (by omega) (by omega) (by omega) (by omega)
      have tm21 : x21_.toInt = x2_.toInt * x20_.toInt := by rw [e21]; exact ti_mul rfl rfl (by omega) (by omega)
      refine r_bipush hC (v := (100)) dX10_addOf_111 (by decide) (by decide) (fun x22_ e22 t22 => ?_)
      refine r_idiv hC dX10_addOf_113 (ne_0 (by omega)) (fun x23_ e23 => ?_)
      have td23 : x23_.toInt = x21_.toInt / 100 := by rw [e23, ti_div (by omega) (by omega), show x22_.toInt = 100 by omega]
      exact r_iret hC hQ hlk hr rfl (by decide) (by decide) dX10_addOf_114 ⟨_, rfl, rfl, (by first | (rw [Ad_1 (by omega), show D 8 x1.toInt.toNat = x2_.toInt by omega]; exact k0_0) | (rw [Ad_2 (by omega), show D 9 x1.toInt.toNat = NOxkm.toInt by omega, ← k0_0, show D 8 x1.toInt.toNat = x2_.toInt by omega]; omega) | (rw [Ad_5 (by omega) (by omega), ← k0_0, show D 8 x1.toInt.toNat = x2_.toInt by omega]; omega) | (rw [Ad_5n (by omega) (by omega)]; omega) | (rw [Ad_d (by omega), show D 8 x1.toInt.toNat = x2_.toInt by omega, show L x2.toInt.toNat = x20_.toInt by omega]; omega))⟩
    · refine r_tabIn hC (tgt := 85) (off := 65) dX10_addOf_20 (by omega) (by omega) (by rw [o5]; decide) (by decide) ?_
      refine r_iload_n hC dX10_addOf_85 4 rfl ?_
      refine r_if_eq hC (tgt := 100) dX10_addOf_86 (by decide) (fun c24 => ?_) (fun c24 => ?_)
      · refine r_iconst hC (v := (0)) dX10_addOf_100 (by decide) (by decide) (fun x25_ e25 t25 => ?_)
        exact r_iret hC hQ hlk hr rfl (by decide) (by decide) dX10_addOf_101 ⟨_, rfl, rfl, (by first | (rw [Ad_1 (by omega), show D 8 x1.toInt.toNat = x2_.toInt by omega]; exact k0_0) | (rw [Ad_2 (by omega), show D 9 x1.toInt.toNat = NOxkm.toInt by omega, ← k0_0, show D 8 x1.toInt.toNat = x2_.toInt by omega]; omega) | (rw [Ad_5 (by omega) (by omega), ← k0_0, show D 8 x1.toInt.toNat = x2_.toInt by omega]; omega) | (rw [Ad_5n (by omega) (by omega)]; omega) | (rw [Ad_d (by omega), show D 8 x1.toInt.toNat = x2_.toInt by omega, show L x2.toInt.toNat = NOmly.toInt by omega]; omega))⟩
      · refine r_iload hC dX10_addOf_89 0 rfl ?_
        refine r_aload_n hC dX10_addOf_91 1 rfl ?_
        refine r_iload_n hC dX10_addOf_92 3 rfl ?_
        refine r_callV hC (As := [.int x2]) (rest := [.int x2_]) (ci := 10) (f_X10_rainOf g (xL X) K len I J R hs a0 ka0 x2 hm hbm khm rr hrr krr lrr (D 5) hrn (by omega) (by omega)) mT_6_147 mT_1_10 mT_6_144 mT_6_146 mP_78 okX10_rainOf ⟨by decide, by decide⟩ rfl (by show kO (K a0) = _; rw [ka0]; rfl) rfl rfl (Nat.le_of_ble_eq_true rfl) ⟨by decide, by decide⟩ dX10_addOf_93 (aI0 (F := fun st M => P g X 5 96 [(4, .int x2_), (0, .ref a0), (1, .int x1), (2, .int x2), (3, .int x3)] st _ _ M) (M := (K, len, I, J, R)) fun x26_ h26 => ?_)
        obtain ⟨k26_0, k26_1⟩ := h26
        show P g X 5 96 [(4, .int x2_), (0, .ref a0), (1, .int x1), (2, .int x2), (3, .int x3)] [.int x26_, .int x2_] _ _ (K, len, I, J, R)
        refine r_imul hC dX10_addOf_96 (fun x27_ e27 => ?_)
        have mb27 := mul_b (a := x2_.toInt) (b := x26_.toInt) (A := 99) (B := 3000) (C := 297000) (by decide) (by omega) (by omega) (by omega) (by omega)
        have tm27 : x27_.toInt = x2_.toInt * x26_.toInt := by rw [e27]; exact ti_mul rfl rfl (by omega) (by omega)
        refine r_goto hC (tgt := 101) dX10_addOf_97 (by decide) ?_
        exact r_iret hC hQ hlk hr rfl (by decide) (by decide) dX10_addOf_101 ⟨_, rfl, rfl, (by first | (rw [Ad_1 (by omega), show D 8 x1.toInt.toNat = x2_.toInt by omega]; exact k26_0) | (rw [Ad_2 (by omega), show D 9 x1.toInt.toNat = NOxkm.toInt by omega, ← k26_0, show D 8 x1.toInt.toNat = x2_.toInt by omega]; omega) | (rw [Ad_5 (by omega) (by omega), ← k26_0, show D 8 x1.toInt.toNat = x2_.toInt by omega]; omega) | (rw [Ad_5n (by omega) (by omega)]; omega) | (rw [Ad_d (by omega), show D 8 x1.toInt.toNat = x2_.toInt by omega, show L x2.toInt.toNat = x26_.toInt by omega]; omega))⟩

