set_option maxHeartbeats 4000000 in
set_option maxRecDepth 100000 in
theorem f_X10_goalOf (g : GG) (l : Launch) (K len : Nat → Nat) (I : Nat → Nat → Int32) (J : Nat → Nat → Int64) (R : Nat → Nat → Option Nat) (hs : Sf K len I R) (a0 : Nat) (ka0 : K a0 = 11) (x1 : Int32) (hm : Nat) (hbm : R a0 3 = some hm) (khm : K hm = 10) (D : DD) (hJ : DJ D) (rwm : RW (CM hm R) (cntN D) D I) (hd1 : (I hm 0).toInt = D 0 1) (hd2 : (I hm 1).toInt = D 0 2) (hd3 : (I hm 2).toInt = D 0 3) (hd4 : (I hm 4).toInt = D 0 4) : Ct g l yX10_goalOf cX10_goalOf 4 (Option.some Jvm.ClassFile.FieldType.int) rmX10_goalOf [.ref a0, .int x1] (K, len, I, J, R) (pI0 (K, len, I, J, R) (fun r => (r.toInt = (gz D x1.toInt (D 0 4).toNat).2))) := by
  refine Ct_intro (by decide +kernel) (Nat.le_of_ble_eq_true rfl) (fun X hC hL hKK hNm hr hlk hQ => ?_)
  subst hL
  have hC : Cx g X cX10_goalOf "HillTapModel" 4 rmX10_goalOf := hC
  show P g X 4 0 [(0, .ref a0), (1, .int x1)] [] 0 0 (K, len, I, J, R)
  have hF : Fr K [] I I := Fr.refl
  have b_x1 := ti_rng x1
  obtain ⟨F4, eF4⟩ : ∃ z : Int32, z = I hm 4 := ⟨_, rfl⟩
  have fF4 : F4.toInt = (I hm 4).toInt := by rw [eF4]
  have rF4 := hs.rng khm rfl eF4
  refine r_iconst hC (v := (-1)) dX10_goalOf_0 (by decide) (by decide) (fun x1_ e1 t1 => ?_)
  refine r_istore_n hC (lv' := [(2, .int x1_), (0, .ref a0), (1, .int x1)]) dX10_goalOf_1 (by decide) rfl ?_
  refine r_iconst hC (v := (0)) dX10_goalOf_2 (by decide) (by decide) (fun x2_ e2 t2 => ?_)
  refine r_istore_n hC (lv' := [(3, .int x2_), (2, .int x1_), (0, .ref a0), (1, .int x1)]) dX10_goalOf_3 (by decide) rfl ?_
  have LP3 : ∀ (mu : Nat) (x3_3 : Int32) (x3_2 : Int32) (v3_0 : 0 ≤ x3_3.toInt) (v3_1 : x3_3.toInt ≤ D 0 4) (v3_2 : -1 ≤ x3_2.toInt) (v3_3 : x3_2.toInt ≤ 15 ∧ x3_2.toInt < D 0 4) (v3_4 : GzB D x1.toInt x3_3.toInt.toNat x3_2.toInt), (16 - x3_3.toInt).toNat = mu → P g X 4 4 [(0, .ref a0), (1, .int x1), (2, .int x3_2), (3, .int x3_3)] [] 0 0 (K, len, I, J, R) := by
    intro mu; induction mu using Nat.strongRecOn with | ind mu ih => ?_
    intro x3_3 x3_2 v3_0 v3_1 v3_2 v3_3 v3_4 hmu
    have ih3 := ih
    clear ih
    have hmu3 := hmu
    clear hmu
    refine r_iload_n hC dX10_goalOf_4 3 rfl ?_
    refine r_aload_n hC dX10_goalOf_5 0 rfl ?_
    refine r_getr hC 3 (ci := 10) rfl u10_in (by decide) mT_4_238 dX10_goalOf_6 ka0 rfl rfl hbm ?_
    refine r_getiN hC 4 (ci := 9) rfl u9_in (by decide) nF_4 dX10_goalOf_9 khm rfl rfl (fun x4_ e4 => ?_)
    have r4 := hs.rng khm rfl e4
    have f4 : x4_.toInt = (I hm 4).toInt := by rw [e4]
    have w4 : x4_ = F4 := by rw [e4]; exact eF4.symm
    have wt4 : x4_.toInt = F4.toInt := by rw [w4]
    refine r_icmp_ge hC (tgt := 62) dX10_goalOf_12 (by decide) (fun c5 => ?_) (fun c5 => ?_)
    · refine r_iload_n hC dX10_goalOf_62 2 rfl ?_
      refine r_iconst hC (v := (-1)) dX10_goalOf_63 (by decide) (by decide) (fun x6_ e6 t6 => ?_)
      refine r_icmp_ne hC (tgt := 77) dX10_goalOf_64 (by decide) (fun c7 => ?_) (fun c7 => ?_)
      · refine r_aload_n hC dX10_goalOf_77 0 rfl ?_
        refine r_getr hC 3 (ci := 10) rfl u10_in (by decide) mT_4_238 dX10_goalOf_78 ka0 rfl rfl hbm ?_
        obtain ⟨a8_, hb8, hk8, hn8⟩ := hs.row khm 14 73 16 (by decide) (by decide)
        refine r_getrN hC 14 (ci := 9) rfl u9_in (by decide) nF_14 dX10_goalOf_81 khm rfl rfl hb8 ?_
        refine r_iload_n hC dX10_goalOf_84 2 rfl ?_
        refine x_iaload hC hk8 hn8 (by decide) rfl rfl dX10_goalOf_85 (by omega) (by omega) (fun x9_ e9 => ?_)
        have q9 : x9_.toInt = D 4 x3_2.toInt.toNat := by rw [e9, clx (i := x3_2) rfl (by omega)]; exact rwm 4 _ _ _ (cM (r := 4) (by decide) (by decide) hb8) (by rw [cnt_4]; omega) (fun h9 => absurd h9 (by decide))
        exact r_iret hC hQ hlk hr rfl (by decide) (by decide) dX10_goalOf_86 ⟨_, rfl, rfl, (by rw [show (D 0 4).toNat = x3_3.toInt.toNat by omega]; rcases v3_4 with ⟨g1, g2⟩ | ⟨g1, g2, g3⟩ <;> first | (exfalso; omega) | (rw [g2]; show _ = D 0 1; omega) | (rw [g3]; show _ = D 4 _; omega))⟩
      · refine r_aload_n hC dX10_goalOf_67 0 rfl ?_
        refine r_getr hC 3 (ci := 10) rfl u10_in (by decide) mT_4_238 dX10_goalOf_68 ka0 rfl rfl hbm ?_
        refine r_getiN hC 0 (ci := 9) rfl u9_in (by decide) nF_0 dX10_goalOf_71 khm rfl rfl (fun x10_ e10 => ?_)
        have f10 : x10_.toInt = (I hm 0).toInt := by rw [e10]
        refine r_goto hC (tgt := 86) dX10_goalOf_74 (by decide) ?_
        exact r_iret hC hQ hlk hr rfl (by decide) (by decide) dX10_goalOf_86 ⟨_, rfl, rfl, (by rw [show (D 0 4).toNat = x3_3.toInt.toNat by omega]; rcases v3_4 with ⟨g1, g2⟩ | ⟨g1, g2, g3⟩ <;> first | (exfalso; omega) | (rw [g2]; show _ = D 0 1; omega) | (rw [g3]; show _ = D 4 _; omega))⟩
    · refine r_aload_n hC dX10_goalOf_15 0 rfl ?_
      refine r_getr hC 3 (ci := 10) rfl u10_in (by decide) mT_4_238 dX10_goalOf_16 ka0 rfl rfl hbm ?_
      obtain ⟨a11_, hb11, hk11, hn11⟩ := hs.row khm 13 72 16 (by decide) (by decide)
      refine r_getrN hC 13 (ci := 9) rfl u9_in (by decide) nF_13 dX10_goalOf_19 khm rfl rfl hb11 ?_
      refine r_iload_n hC dX10_goalOf_22 3 rfl ?_
      refine x_iaload hC hk11 hn11 (by decide) rfl rfl dX10_goalOf_23 (by omega) (by omega) (fun x12_ e12 => ?_)
      have q12 : x12_.toInt = D 3 x3_3.toInt.toNat := by rw [e12, clx (i := x3_3) rfl (by omega)]; exact rwm 3 _ _ _ (cM (r := 3) (by decide) (by decide) hb11) (by rw [cnt_3]; omega) (fun h9 => absurd h9 (by decide))
      refine r_iload_n hC dX10_goalOf_24 1 rfl ?_
      refine r_icmp_gt hC (tgt := 56) dX10_goalOf_25 (by decide) (fun c13 => ?_) (fun c13 => ?_)
      · obtain ⟨x14_, e14⟩ : ∃ z : Int32, z = x3_3 + Int32.ofInt (1) := ⟨_, rfl⟩
        refine r_iinc hC (j := 3) (v := x14_) (lv' := [(3, .int x14_), (0, .ref a0), (1, .int x1), (2, .int x3_2)]) dX10_goalOf_56 rfl (by rw [e14]) (by decide) rfl ?_
        try have t14 : x14_.toInt = x3_3.toInt + (1) := by rw [e14]; exact (ti_add (b := Int32.ofInt (1)) (by show _ ≤ _ + (1 : Int); omega) (by show _ + (1 : Int) ≤ _; omega))
        refine r_goto hC (tgt := 4) dX10_goalOf_59 (by decide) ?_
        refine r_sub [1, 2, 3, 0] rfl ?_
        exact ih3 ((16 - x14_.toInt).toNat) (by omega) x14_ x3_2 (by omega) (by omega) (by omega) (by omega) (by first | exact Or.inl ⟨by omega, by rw [show x14_.toInt.toNat = 0 by omega]; rfl⟩ | (have h7 := GzB.t hJ v3_4 (by omega) (by first | exact Or.inl (by omega) | exact Or.inr (by omega)); rw [Int.toNat_of_nonneg (by omega)] at h7; rw [show x14_.toInt.toNat = x3_3.toInt.toNat + 1 by omega]; exact h7) | (rw [show x14_.toInt.toNat = x3_3.toInt.toNat + 1 by omega]; exact GzB.f v3_4 (by first | exact Or.inl (by omega) | exact Or.inr ⟨by omega, by omega⟩))) rfl
      · refine r_iload_n hC dX10_goalOf_28 2 rfl ?_
        refine r_iconst hC (v := (-1)) dX10_goalOf_29 (by decide) (by decide) (fun x15_ e15 t15 => ?_)
        refine r_icmp_eq hC (tgt := 54) dX10_goalOf_30 (by decide) (fun c16 => ?_) (fun c16 => ?_)
        · refine r_iload_n hC dX10_goalOf_54 3 rfl ?_
          refine r_istore_n hC (lv' := [(2, .int x3_3), (0, .ref a0), (1, .int x1), (3, .int x3_3)]) dX10_goalOf_55 (by decide) rfl ?_
          obtain ⟨x17_, e17⟩ : ∃ z : Int32, z = x3_3 + Int32.ofInt (1) := ⟨_, rfl⟩
          refine r_iinc hC (j := 3) (v := x17_) (lv' := [(3, .int x17_), (2, .int x3_3), (0, .ref a0), (1, .int x1)]) dX10_goalOf_56 rfl (by rw [e17]) (by decide) rfl ?_
          try have t17 : x17_.toInt = x3_3.toInt + (1) := by rw [e17]; exact (ti_add (b := Int32.ofInt (1)) (by show _ ≤ _ + (1 : Int); omega) (by show _ + (1 : Int) ≤ _; omega))
          refine r_goto hC (tgt := 4) dX10_goalOf_59 (by decide) ?_
          refine r_sub [2, 3, 1, 0] rfl ?_
          exact ih3 ((16 - x17_.toInt).toNat) (by omega) x17_ x3_3 (by omega) (by omega) (by omega) (by omega) (by first | exact Or.inl ⟨by omega, by rw [show x17_.toInt.toNat = 0 by omega]; rfl⟩ | (have h7 := GzB.t hJ v3_4 (by omega) (by first | exact Or.inl (by omega) | exact Or.inr (by omega)); rw [Int.toNat_of_nonneg (by omega)] at h7; rw [show x17_.toInt.toNat = x3_3.toInt.toNat + 1 by omega]; exact h7) | (rw [show x17_.toInt.toNat = x3_3.toInt.toNat + 1 by omega]; exact GzB.f v3_4 (by first | exact Or.inl (by omega) | exact Or.inr ⟨by omega, by omega⟩))) rfl
        · refine r_aload_n hC dX10_goalOf_33 0 rfl ?_
          refine r_getr hC 3 (ci := 10) rfl u10_in (by decide) mT_4_238 dX10_goalOf_34 ka0 rfl rfl hbm ?_
          refine r_getrN hC 13 (ci := 9) rfl u9_in (by decide) nF_13 dX10_goalOf_37 khm rfl rfl hb11 ?_
          refine r_iload_n hC dX10_goalOf_40 3 rfl ?_
          refine x_iaload hC hk11 hn11 (by decide) rfl rfl dX10_goalOf_41 (by omega) (by omega) (fun x18_ e18 => ?_)
          have q18 : x18_.toInt = D 3 x3_3.toInt.toNat := by rw [e18, clx (i := x3_3) rfl (by omega)]; exact rwm 3 _ _ _ (cM (r := 3) (by decide) (by decide) hb11) (by rw [cnt_3]; omega) (fun h9 => absurd h9 (by decide))
          refine r_aload_n hC dX10_goalOf_42 0 rfl ?_
          refine r_getr hC 3 (ci := 10) rfl u10_in (by decide) mT_4_238 dX10_goalOf_43 ka0 rfl rfl hbm ?_
          refine r_getrN hC 13 (ci := 9) rfl u9_in (by decide) nF_13 dX10_goalOf_46 khm rfl rfl hb11 ?_
          refine r_iload_n hC dX10_goalOf_49 2 rfl ?_
          refine x_iaload hC hk11 hn11 (by decide) rfl rfl dX10_goalOf_50 (by omega) (by omega) (fun x19_ e19 => ?_)
          have q19 : x19_.toInt = D 3 x3_2.toInt.toNat := by rw [e19, clx (i := x3_2) rfl (by omega)]; exact rwm 3 _ _ _ (cM (r := 3) (by decide) (by decide) hb11) (by rw [cnt_3]; omega) (fun h9 => absurd h9 (by decide))
          refine r_icmp_lt hC (tgt := 56) dX10_goalOf_51 (by decide) (fun c20 => ?_) (fun c20 => ?_)
          · obtain ⟨x21_, e21⟩ : ∃ z : Int32, z = x3_3 + Int32.ofInt (1) := ⟨_, rfl⟩
            refine r_iinc hC (j := 3) (v := x21_) (lv' := [(3, .int x21_), (0, .ref a0), (1, .int x1), (2, .int x3_2)]) dX10_goalOf_56 rfl (by rw [e21]) (by decide) rfl ?_
            try have t21 : x21_.toInt = x3_3.toInt + (1) := by rw [e21]; exact (ti_add (b := Int32.ofInt (1)) (by show _ ≤ _ + (1 : Int); omega) (by show _ + (1 : Int) ≤ _; omega))
            refine r_goto hC (tgt := 4) dX10_goalOf_59 (by decide) ?_
            refine r_sub [1, 2, 3, 0] rfl ?_
            exact ih3 ((16 - x21_.toInt).toNat) (by omega) x21_ x3_2 (by omega) (by omega) (by omega) (by omega) (by first | exact Or.inl ⟨by omega, by rw [show x21_.toInt.toNat = 0 by omega]; rfl⟩ | (have h7 := GzB.t hJ v3_4 (by omega) (by first | exact Or.inl (by omega) | exact Or.inr (by omega)); rw [Int.toNat_of_nonneg (by omega)] at h7; rw [show x21_.toInt.toNat = x3_3.toInt.toNat + 1 by omega]; exact h7) | (rw [show x21_.toInt.toNat = x3_3.toInt.toNat + 1 by omega]; exact GzB.f v3_4 (by first | exact Or.inl (by omega) | exact Or.inr ⟨by omega, by omega⟩))) rfl
          · refine r_iload_n hC dX10_goalOf_54 3 rfl ?_
            refine r_istore_n hC (lv' := [(2, .int x3_3), (0, .ref a0), (1, .int x1), (3, .int x3_3)]) dX10_goalOf_55 (by decide) rfl ?_
            obtain ⟨x22_, e22⟩ : ∃ z : Int32, z = x3_3 + Int32.ofInt (1) := ⟨_, rfl⟩
            refine r_iinc hC (j := 3) (v := x22_) (lv' := [(3, .int x22_), (2, .int x3_3), (0, .ref a0), (1, .int x1)]) dX10_goalOf_56 rfl (by rw [e22]) (by decide) rfl ?_
            try have t22 : x22_.toInt = x3_3.toInt + (1) := by rw [e22]; exact (ti_add (b := Int32.ofInt (1)) (by show _ ≤ _ + (1 : Int); omega) (by show _ + (1 : Int) ≤ _; omega))
            refine r_goto hC (tgt := 4) dX10_goalOf_59 (by decide) ?_
            refine r_sub [2, 3, 1, 0] rfl ?_
            exact ih3 ((16 - x22_.toInt).toNat) (by omega) x22_ x3_3 (by omega) (by omega) (by omega) (by omega) (by first | exact Or.inl ⟨by omega, by rw [show x22_.toInt.toNat = 0 by omega]; rfl⟩ | (have h7 := GzB.t hJ v3_4 (by omega) (by first | exact Or.inl (by omega) | exact Or.inr (by omega)); rw [Int.toNat_of_nonneg (by omega)] at h7; rw [show x22_.toInt.toNat = x3_3.toInt.toNat + 1 by omega]; exact h7) | (rw [show x22_.toInt.toNat = x3_3.toInt.toNat + 1 by omega]; exact GzB.f v3_4 (by first | exact Or.inl (by omega) | exact Or.inr ⟨by omega, by omega⟩))) rfl
  refine r_sub [2, 3, 1, 0] rfl ?_
  exact LP3 _ x2_ x1_ (by omega) (by omega) (by omega) (by omega) (by first | exact Or.inl ⟨by omega, by rw [show x2_.toInt.toNat = 0 by omega]; rfl⟩ | (have h7 := GzB.t hJ v3_4 (by omega) (by first | exact Or.inl (by omega) | exact Or.inr (by omega)); rw [Int.toNat_of_nonneg (by omega)] at h7; rw [show x2_.toInt.toNat = x3_3.toInt.toNat + 1 by omega]; exact h7) | (rw [show x2_.toInt.toNat = x3_3.toInt.toNat + 1 by omega]; exact GzB.f v3_4 (by first | exact Or.inl (by omega) | exact Or.inr ⟨by omega, by omega⟩))) rfl
set_option maxHeartbeats 4000000 in
set_option maxRecDepth 100000 in
theorem f_X10_fills (g : GG) (l : Launch) (K len : Nat → Nat) (I : Nat → Nat → Int32) (J : Nat → Nat → Int64) (R : Nat → Nat → Option Nat) (hs : Sf K len I R) (a0 : Nat) (ka0 : K a0 = 11) (x1 : Int32) (x2 : Int32) (hm : Nat) (hbm : R a0 3 = some hm) (khm : K hm = 10) (D : DD) (hJ : DJ D) (rwm : RW (CM hm R) (cntN D) D I) (hd1 : (I hm 0).toInt = D 0 1) (hd2 : (I hm 1).toInt = D 0 2) (hd3 : (I hm 2).toInt = D 0 3) (hd4 : (I hm 4).toInt = D 0 4) (lr : Nat) (hlr : R a0 15 = some lr) (klr : K lr = 85) (llr : len lr = 60) (p0 : -1 ≤ x2.toInt ∧ x2.toInt ≤ 999) : Ct g l yX10_fills cX10_fills 7 (Option.none : Option Jvm.ClassFile.FieldType) rmX10_fills [.ref a0, .int x1, .int x2] (K, len, I, J, R) (pV1 (K, len, I, J, R) (fun I' => Sf K len I' R ∧ Fr K [(85, 999)] I I' ∧ (∀ j : Nat, j < 60 → (I' lr j).toInt = Lp D (Gm D x1.toInt x2.toInt) (j + 1)))) := by
  refine Ct_intro (by decide +kernel) (Nat.le_of_ble_eq_true rfl) (fun X hC hL hKK hNm hr hlk hQ => ?_)
  subst hL
  have hC : Cx g X cX10_fills "HillTapModel" 7 rmX10_fills := hC
  show P g X 7 0 [(0, .ref a0), (1, .int x1), (2, .int x2)] [] 0 0 (K, len, I, J, R)
  have hF : Fr K [(85, 999)] I I := Fr.refl
  have hcx := CM_x hs khm
  have b_x1 := ti_rng x1
  have b_x2 := ti_rng x2
  obtain ⟨S0, eS0⟩ : ∃ z : Int32, z = I hm 0 := ⟨_, rfl⟩
  have fS0 : S0.toInt = (I hm 0).toInt := by rw [eS0]
  obtain ⟨M1, eM1⟩ : ∃ z : Int32, z = I hm 1 := ⟨_, rfl⟩
  have fM1 : M1.toInt = (I hm 1).toInt := by rw [eM1]
  obtain ⟨T2, eT2⟩ : ∃ z : Int32, z = I hm 2 := ⟨_, rfl⟩
  have fT2 : T2.toInt = (I hm 2).toInt := by rw [eT2]
  refine r_aload_n hC dX10_fills_0 0 rfl ?_
  refine r_getr hC 3 (ci := 10) rfl u10_in (by decide) mT_4_238 dX10_fills_1 ka0 rfl rfl hbm ?_
  refine r_getiN hC 0 (ci := 9) rfl u9_in (by decide) nF_0 dX10_fills_4 khm rfl rfl (fun x1_ e1 => ?_)
  have f1 : x1_.toInt = (I hm 0).toInt := by rw [e1]
  have w1 : x1_ = S0 := by rw [e1]; exact eS0.symm
  have wt1 : x1_.toInt = S0.toInt := by rw [w1]
  refine r_istore_n hC (lv' := [(3, .int x1_), (0, .ref a0), (1, .int x1), (2, .int x2)]) dX10_fills_7 (by decide) rfl ?_
  refine r_iconst hC (v := (0)) dX10_fills_8 (by decide) (by decide) (fun x2_ e2 t2 => ?_)
  refine r_istore hC (lv' := [(4, .int x2_), (3, .int x1_), (0, .ref a0), (1, .int x1), (2, .int x2)]) dX10_fills_9 (by decide) rfl ?_
  have LP3 : ∀ (mu : Nat) (x3_4 : Int32) (x3_3 : Int32) (I3 : Nat → Nat → Int32) (hs3 : Sf K len I3 R) (hF3 : Fr K [(85, 999)] I I3) (v3_0 : 0 ≤ x3_4.toInt) (v3_1 : x3_4.toInt ≤ 60) (v3_2 : x3_3.toInt = Lp D (Gm D x1.toInt x2.toInt) x3_4.toInt.toNat) (v3_3 : ∀ j : Nat, 0 ≤ j → (j : Int) < x3_4.toInt → (I3 lr j).toInt = (fun j => Lp D (Gm D x1.toInt x2.toInt) (j + 1)) j), (60 - x3_4.toInt).toNat = mu → P g X 7 11 [(0, .ref a0), (1, .int x1), (2, .int x2), (3, .int x3_3), (4, .int x3_4)] [] 0 0 (K, len, I3, J, R) := by
    intro mu; induction mu using Nat.strongRecOn with | ind mu ih => ?_
    intro x3_4 x3_3 I3 hs3 hF3 v3_0 v3_1 v3_2 v3_3 hmu
    have ih3 := ih
    clear ih
    have hmu3 := hmu
    clear hmu
    refine r_iload hC dX10_fills_11 4 rfl ?_
    refine r_bipush hC (v := (60)) dX10_fills_13 (by decide) (by decide) (fun x4_ e4 t4 => ?_)
    refine r_icmp_ge hC (tgt := 148) dX10_fills_15 (by decide) (fun c5 => ?_) (fun c5 => ?_)
    · exact r_vret hC hQ hlk hr (by decide) (by decide) dX10_fills_148 ⟨_, rfl, rfl, ⟨hs3, hF3, (by exact fun j hj => v3_3 j (Nat.zero_le j) (by omega))⟩⟩
    · refine r_iload hC dX10_fills_18 4 rfl ?_
      refine r_iload_n hC dX10_fills_20 1 rfl ?_
      refine r_icmp_lt hC (tgt := 28) dX10_fills_21 (by decide) (fun c6 => ?_) (fun c6 => ?_)
      · refine r_iload_n hC dX10_fills_28 2 rfl ?_
        refine r_iconst hC (v := (-1)) dX10_fills_29 (by decide) (by decide) (fun x7_ e7 t7 => ?_)
        refine r_icmp_eq hC (tgt := 37) dX10_fills_30 (by decide) (fun c8 => ?_) (fun c8 => ?_)
        · refine r_aload_n hC dX10_fills_37 0 rfl ?_
          refine r_iload hC dX10_fills_38 4 rfl ?_
          refine r_callV hC (As := [.int x3_4]) (rest := []) (ci := 10) (f_X10_goalOf g (xL X) K len I3 J R hs3 a0 ka0 x3_4 hm hbm khm D hJ (rwm.mv hcx qM_big hF3 rfl) (by rw [hF3.get khm rfl]; exact hd1) (by rw [hF3.get khm rfl]; exact hd2) (by rw [hF3.get khm rfl]; exact hd3) (by rw [hF3.get khm rfl]; exact hd4)) mT_6_103 mT_1_10 mT_6_100 mT_6_102 mP_70 okX10_goalOf ⟨by decide, by decide⟩ rfl (by show kO (K a0) = _; rw [ka0]; rfl) rfl rfl (Nat.le_of_ble_eq_true rfl) ⟨by decide, by decide⟩ dX10_fills_40 (aI0 (F := fun st M => P g X 7 43 [(0, .ref a0), (1, .int x1), (2, .int x2), (3, .int x3_3), (4, .int x3_4)] st _ _ M) (M := (K, len, I3, J, R)) fun x9_ h9 => ?_)
          have k9_0 := h9
          clear h9
          show P g X 7 43 [(0, .ref a0), (1, .int x1), (2, .int x2), (3, .int x3_3), (4, .int x3_4)] [.int x9_] _ _ (K, len, I3, J, R)
          refine r_istore hC (lv' := [(5, .int x9_), (0, .ref a0), (1, .int x1), (2, .int x2), (3, .int x3_3), (4, .int x3_4)]) dX10_fills_43 (by decide) rfl ?_
          refine r_iload hC dX10_fills_45 0 rfl ?_
          refine r_aload_n hC dX10_fills_47 1 rfl ?_
          refine r_getr hC 3 (ci := 10) rfl u10_in (by decide) mT_4_238 dX10_fills_48 ka0 rfl rfl hbm ?_
          refine r_getiN hC 2 (ci := 9) rfl u9_in (by decide) nF_2 dX10_fills_51 khm rfl rfl (fun x10_ e10 => ?_)
          have f10 : x10_.toInt = (I3 hm 2).toInt := by rw [e10]
          have w10 : x10_ = T2 := by rw [e10]; exact (Eq.trans (hF3.get khm rfl) eT2.symm)
          have wt10 : x10_.toInt = T2.toInt := by rw [w10]
          have h54 : I3 hm 2 = x10_ := e10.symm
          have h54t : (I3 hm 2).toInt = x10_.toInt := congrArg Int32.toInt h54
          refine r_icmp_le hC (tgt := 67) dX10_fills_54 (by decide) (fun c11 => ?_) (fun c11 => ?_)
          · refine r_iload hC dX10_fills_67 0 rfl ?_
            refine r_istore hC (lv' := [(5, .int x9_), (0, .ref a0), (1, .int x1), (2, .int x2), (3, .int x3_3), (4, .int x3_4)]) dX10_fills_69 (by decide) rfl ?_
            have gb := Gm_b hJ (down := x1.toInt) (goal := x2.toInt) (d := x3_4.toInt.toNat) p0
            have lb := Lp_b hJ (G := (Gm D x1.toInt x2.toInt)) (fun d => Gm_b hJ p0) x3_4.toInt.toNat
            have d2 := hJ.2.2.2.2.1
            have gq : x9_.toInt = (gz D ((x3_4.toInt.toNat : Nat) : Int) (D 0 4).toNat).2 := by rw [show ((x3_4.toInt.toNat : Nat) : Int) = x3_4.toInt by omega]; exact k9_0
            have gg : x9_.toInt = Gm D x1.toInt x2.toInt x3_4.toInt.toNat := by rw [Gm_3 (by omega) (by omega)]; omega
            refine r_iload hC dX10_fills_71 0 rfl ?_
            refine r_iload_n hC dX10_fills_73 4 rfl ?_
            refine r_icmp_le hC (tgt := 84) dX10_fills_74 (by decide) (fun c12 => ?_) (fun c12 => ?_)
            · refine r_iload_n hC dX10_fills_84 4 rfl ?_
              refine r_iload hC dX10_fills_85 0 rfl ?_
              refine r_isub hC dX10_fills_87 (fun x13_ e13 => ?_)
              try have t13 : x13_.toInt = x3_3.toInt - x9_.toInt := by rw [e13]; exact ti_sub (by omega) (by omega)
              refine r_istore hC (lv' := [(6, .int x13_), (5, .int x9_), (0, .ref a0), (1, .int x1), (2, .int x2), (3, .int x3_3), (4, .int x3_4)]) dX10_fills_88 (by decide) rfl ?_
              refine r_iload hC dX10_fills_90 0 rfl ?_
              refine r_aload_n hC dX10_fills_92 2 rfl ?_
              refine r_getr hC 3 (ci := 10) rfl u10_in (by decide) mT_4_238 dX10_fills_93 ka0 rfl rfl hbm ?_
              refine r_getiN hC 1 (ci := 9) rfl u9_in (by decide) nF_1 dX10_fills_96 khm rfl rfl (fun x14_ e14 => ?_)
              have f14 : x14_.toInt = (I3 hm 1).toInt := by rw [e14]
              have w14 : x14_ = M1 := by rw [e14]; exact (Eq.trans (hF3.get khm rfl) eM1.symm)
              have wt14 : x14_.toInt = M1.toInt := by rw [w14]
              have h99 : I3 hm 1 = x14_ := e14.symm
              have h99t : (I3 hm 1).toInt = x14_.toInt := congrArg Int32.toInt h99
              refine r_icmp_le hC (tgt := 112) dX10_fills_99 (by decide) (fun c15 => ?_) (fun c15 => ?_)
              · refine r_iload hC dX10_fills_112 0 rfl ?_
                refine r_istore hC (lv' := [(6, .int x13_), (5, .int x9_), (0, .ref a0), (1, .int x1), (2, .int x2), (3, .int x3_3), (4, .int x3_4)]) dX10_fills_114 (by decide) rfl ?_
                refine r_iload hC dX10_fills_116 1 rfl ?_
                refine r_iload_n hC dX10_fills_118 5 rfl ?_
                refine r_icmp_le hC (tgt := 129) dX10_fills_119 (by decide) (fun c16 => ?_) (fun c16 => ?_)
                · refine r_iload_n hC dX10_fills_129 5 rfl ?_
                  refine r_iload hC dX10_fills_130 0 rfl ?_
                  refine r_isub hC dX10_fills_132 (fun x17_ e17 => ?_)
                  try have t17 : x17_.toInt = x3_3.toInt - x13_.toInt := by rw [e17]; exact ti_sub (by omega) (by omega)
                  refine r_istore_n hC (lv' := [(3, .int x17_), (6, .int x13_), (5, .int x9_), (0, .ref a0), (1, .int x1), (2, .int x2), (4, .int x3_4)]) dX10_fills_133 (by decide) rfl ?_
                  have tf : x17_.toInt = Lp D (Gm D x1.toInt x2.toInt) (x3_4.toInt.toNat + 1) := by show _ = tw (D 0 2) (Gm D x1.toInt x2.toInt _) (Lp D (Gm D x1.toInt x2.toInt) _); first | exact tw_lt (by omega) (by omega) | exact tw_ge (by omega) (by omega)
                  refine r_aload_n hC dX10_fills_134 3 rfl ?_
                  refine r_getr hC 15 (ci := 10) rfl u10_in (by decide) mT_5_10 dX10_fills_135 ka0 rfl rfl hlr ?_
                  refine r_iload hC dX10_fills_138 6 rfl ?_
                  refine r_iload_n hC dX10_fills_140 0 rfl ?_
                  refine x_iastore hC klr llr (by decide) rfl rfl dX10_fills_141 (by omega) (by omega) (fun I18 eI18 => ?_)
                  have hs18 := hs3.put0 eI18 klr (rng_arr (by decide) _) rfl (xF_arr (by decide) _) (by decide)
                  have hF18 := hF3.put eI18 klr (inS_arr rfl _)
                  obtain ⟨x19_, e19⟩ : ∃ z : Int32, z = x3_4 + Int32.ofInt (1) := ⟨_, rfl⟩
                  refine r_iinc hC (j := 6) (v := x19_) (lv' := [(4, .int x19_), (3, .int x17_), (6, .int x13_), (5, .int x9_), (0, .ref a0), (1, .int x1), (2, .int x2)]) dX10_fills_142 rfl (by rw [e19]) (by decide) rfl ?_
                  try have t19 : x19_.toInt = x3_4.toInt + (1) := by rw [e19]; exact (ti_add (b := Int32.ofInt (1)) (by show _ ≤ _ + (1 : Int); omega) (by show _ + (1 : Int) ≤ _; omega))
                  refine r_goto hC (tgt := 11) dX10_fills_145 (by decide) ?_
                  refine r_sub [4, 5, 6, 1, 0] rfl ?_
                  exact ih3 ((60 - x19_.toInt).toNat) (by omega) x19_ x17_ I18 hs18 hF18 (by omega) (by omega) (by first | (rw [show x19_.toInt.toNat = 0 by omega]; show _ = D 0 1; omega) | (rw [show x19_.toInt.toNat = x3_4.toInt.toNat + 1 by omega]; exact tf)) (by first | exact all_0 (P := fun j => (I lr j).toInt = Lp D (Gm D x1.toInt x2.toInt) (j + 1)) (q := 0) (by omega) | exact fillf_s (f := fun j => Lp D (Gm D x1.toInt x2.toInt) (j + 1)) (k := x3_4.toNatClampNeg) v3_3 eI18 (by have h9 := clampI (i := x3_4) (by omega); omega) (by rw [clx (i := x3_4) rfl (by omega)]; exact tf) (by omega)) rfl
                · refine r_iload_n hC dX10_fills_122 5 rfl ?_
                  refine r_iload hC dX10_fills_123 0 rfl ?_
                  refine r_iadd hC dX10_fills_125 (fun x20_ e20 => ?_)
                  try have t20 : x20_.toInt = x3_3.toInt + x13_.toInt := by rw [e20]; exact ti_add (by omega) (by omega)
                  refine r_goto hC (tgt := 133) dX10_fills_126 (by decide) ?_
                  refine r_istore_n hC (lv' := [(3, .int x20_), (6, .int x13_), (5, .int x9_), (0, .ref a0), (1, .int x1), (2, .int x2), (4, .int x3_4)]) dX10_fills_133 (by decide) rfl ?_
                  have tf : x20_.toInt = Lp D (Gm D x1.toInt x2.toInt) (x3_4.toInt.toNat + 1) := by show _ = tw (D 0 2) (Gm D x1.toInt x2.toInt _) (Lp D (Gm D x1.toInt x2.toInt) _); first | exact tw_lt (by omega) (by omega) | exact tw_ge (by omega) (by omega)
                  refine r_aload_n hC dX10_fills_134 3 rfl ?_
                  refine r_getr hC 15 (ci := 10) rfl u10_in (by decide) mT_5_10 dX10_fills_135 ka0 rfl rfl hlr ?_
                  refine r_iload hC dX10_fills_138 6 rfl ?_
                  refine r_iload_n hC dX10_fills_140 0 rfl ?_
                  refine x_iastore hC klr llr (by decide) rfl rfl dX10_fills_141 (by omega) (by omega) (fun I21 eI21 => ?_)
                  have hs21 := hs3.put0 eI21 klr (rng_arr (by decide) _) rfl (xF_arr (by decide) _) (by decide)
                  have hF21 := hF3.put eI21 klr (inS_arr rfl _)
                  obtain ⟨x22_, e22⟩ : ∃ z : Int32, z = x3_4 + Int32.ofInt (1) := ⟨_, rfl⟩
                  refine r_iinc hC (j := 6) (v := x22_) (lv' := [(4, .int x22_), (3, .int x20_), (6, .int x13_), (5, .int x9_), (0, .ref a0), (1, .int x1), (2, .int x2)]) dX10_fills_142 rfl (by rw [e22]) (by decide) rfl ?_
                  try have t22 : x22_.toInt = x3_4.toInt + (1) := by rw [e22]; exact (ti_add (b := Int32.ofInt (1)) (by show _ ≤ _ + (1 : Int); omega) (by show _ + (1 : Int) ≤ _; omega))
                  refine r_goto hC (tgt := 11) dX10_fills_145 (by decide) ?_
                  refine r_sub [4, 5, 6, 1, 0] rfl ?_
                  exact ih3 ((60 - x22_.toInt).toNat) (by omega) x22_ x20_ I21 hs21 hF21 (by omega) (by omega) (by first | (rw [show x22_.toInt.toNat = 0 by omega]; show _ = D 0 1; omega) | (rw [show x22_.toInt.toNat = x3_4.toInt.toNat + 1 by omega]; exact tf)) (by first | exact all_0 (P := fun j => (I lr j).toInt = Lp D (Gm D x1.toInt x2.toInt) (j + 1)) (q := 0) (by omega) | exact fillf_s (f := fun j => Lp D (Gm D x1.toInt x2.toInt) (j + 1)) (k := x3_4.toNatClampNeg) v3_3 eI21 (by have h9 := clampI (i := x3_4) (by omega); omega) (by rw [clx (i := x3_4) rfl (by omega)]; exact tf) (by omega)) rfl
              · refine r_aload_n hC dX10_fills_102 2 rfl ?_
                refine r_getr hC 3 (ci := 10) rfl u10_in (by decide) mT_4_238 dX10_fills_103 ka0 rfl rfl hbm ?_
                refine r_getiN hC 1 (ci := 9) rfl u9_in (by decide) nF_1 dX10_fills_106 khm rfl rfl (fun x23_ e23 => ?_)
                have f23 : x23_.toInt = (I3 hm 1).toInt := by rw [e23]
                have w23 : x23_ = x14_ := by rw [e23]; exact e14.symm
                have wt23 : x23_.toInt = x14_.toInt := by rw [w23]
                refine r_goto hC (tgt := 114) dX10_fills_109 (by decide) ?_
                refine r_istore hC (lv' := [(6, .int x23_), (5, .int x9_), (0, .ref a0), (1, .int x1), (2, .int x2), (3, .int x3_3), (4, .int x3_4)]) dX10_fills_114 (by decide) rfl ?_
                refine r_iload hC dX10_fills_116 1 rfl ?_
                refine r_iload_n hC dX10_fills_118 5 rfl ?_
                refine r_icmp_le hC (tgt := 129) dX10_fills_119 (by decide) (fun c24 => ?_) (fun c24 => ?_)
                · refine r_iload_n hC dX10_fills_129 5 rfl ?_
                  refine r_iload hC dX10_fills_130 0 rfl ?_
                  refine r_isub hC dX10_fills_132 (fun x25_ e25 => ?_)
                  try have t25 : x25_.toInt = x3_3.toInt - x23_.toInt := by rw [e25]; exact ti_sub (by omega) (by omega)
                  refine r_istore_n hC (lv' := [(3, .int x25_), (6, .int x23_), (5, .int x9_), (0, .ref a0), (1, .int x1), (2, .int x2), (4, .int x3_4)]) dX10_fills_133 (by decide) rfl ?_
                  have tf : x25_.toInt = Lp D (Gm D x1.toInt x2.toInt) (x3_4.toInt.toNat + 1) := by show _ = tw (D 0 2) (Gm D x1.toInt x2.toInt _) (Lp D (Gm D x1.toInt x2.toInt) _); first | exact tw_lt (by omega) (by omega) | exact tw_ge (by omega) (by omega)
                  refine r_aload_n hC dX10_fills_134 3 rfl ?_
                  refine r_getr hC 15 (ci := 10) rfl u10_in (by decide) mT_5_10 dX10_fills_135 ka0 rfl rfl hlr ?_
                  refine r_iload hC dX10_fills_138 6 rfl ?_
                  refine r_iload_n hC dX10_fills_140 0 rfl ?_
                  refine x_iastore hC klr llr (by decide) rfl rfl dX10_fills_141 (by omega) (by omega) (fun I26 eI26 => ?_)
                  have hs26 := hs3.put0 eI26 klr (rng_arr (by decide) _) rfl (xF_arr (by decide) _) (by decide)
                  have hF26 := hF3.put eI26 klr (inS_arr rfl _)
                  obtain ⟨x27_, e27⟩ : ∃ z : Int32, z = x3_4 + Int32.ofInt (1) := ⟨_, rfl⟩
                  refine r_iinc hC (j := 6) (v := x27_) (lv' := [(4, .int x27_), (3, .int x25_), (6, .int x23_), (5, .int x9_), (0, .ref a0), (1, .int x1), (2, .int x2)]) dX10_fills_142 rfl (by rw [e27]) (by decide) rfl ?_
                  try have t27 : x27_.toInt = x3_4.toInt + (1) := by rw [e27]; exact (ti_add (b := Int32.ofInt (1)) (by show _ ≤ _ + (1 : Int); omega) (by show _ + (1 : Int) ≤ _; omega))
                  refine r_goto hC (tgt := 11) dX10_fills_145 (by decide) ?_
                  refine r_sub [4, 5, 6, 1, 0] rfl ?_
                  exact ih3 ((60 - x27_.toInt).toNat) (by omega) x27_ x25_ I26 hs26 hF26 (by omega) (by omega) (by first | (rw [show x27_.toInt.toNat = 0 by omega]; show _ = D 0 1; omega) | (rw [show x27_.toInt.toNat = x3_4.toInt.toNat + 1 by omega]; exact tf)) (by first | exact all_0 (P := fun j => (I lr j).toInt = Lp D (Gm D x1.toInt x2.toInt) (j + 1)) (q := 0) (by omega) | exact fillf_s (f := fun j => Lp D (Gm D x1.toInt x2.toInt) (j + 1)) (k := x3_4.toNatClampNeg) v3_3 eI26 (by have h9 := clampI (i := x3_4) (by omega); omega) (by rw [clx (i := x3_4) rfl (by omega)]; exact tf) (by omega)) rfl
                · refine r_iload_n hC dX10_fills_122 5 rfl ?_
                  refine r_iload hC dX10_fills_123 0 rfl ?_
                  refine r_iadd hC dX10_fills_125 (fun x28_ e28 => ?_)
                  try have t28 : x28_.toInt = x3_3.toInt + x23_.toInt := by rw [e28]; exact ti_add (by omega) (by omega)
                  refine r_goto hC (tgt := 133) dX10_fills_126 (by decide) ?_
                  refine r_istore_n hC (lv' := [(3, .int x28_), (6, .int x23_), (5, .int x9_), (0, .ref a0), (1, .int x1), (2, .int x2), (4, .int x3_4)]) dX10_fills_133 (by decide) rfl ?_
                  have tf : x28_.toInt = Lp D (Gm D x1.toInt x2.toInt) (x3_4.toInt.toNat + 1) := by show _ = tw (D 0 2) (Gm D x1.toInt x2.toInt _) (Lp D (Gm D x1.toInt x2.toInt) _); first | exact tw_lt (by omega) (by omega) | exact tw_ge (by omega) (by omega)
                  refine r_aload_n hC dX10_fills_134 3 rfl ?_
                  refine r_getr hC 15 (ci := 10) rfl u10_in (by decide) mT_5_10 dX10_fills_135 ka0 rfl rfl hlr ?_
                  refine r_iload hC dX10_fills_138 6 rfl ?_
                  refine r_iload_n hC dX10_fills_140 0 rfl ?_
                  refine x_iastore hC klr llr (by decide) rfl rfl dX10_fills_141 (by omega) (by omega) (fun I29 eI29 => ?_)
                  have hs29 := hs3.put0 eI29 klr (rng_arr (by decide) _) rfl (xF_arr (by decide) _) (by decide)
                  have hF29 := hF3.put eI29 klr (inS_arr rfl _)
                  obtain ⟨x30_, e30⟩ : ∃ z : Int32, z = x3_4 + Int32.ofInt (1) := ⟨_, rfl⟩
                  refine r_iinc hC (j := 6) (v := x30_) (lv' := [(4, .int x30_), (3, .int x28_), (6, .int x23_), (5, .int x9_), (0, .ref a0), (1, .int x1), (2, .int x2)]) dX10_fills_142 rfl (by rw [e30]) (by decide) rfl ?_
                  try have t30 : x30_.toInt = x3_4.toInt + (1) := by rw [e30]; exact (ti_add (b := Int32.ofInt (1)) (by show _ ≤ _ + (1 : Int); omega) (by show _ + (1 : Int) ≤ _; omega))
                  refine r_goto hC (tgt := 11) dX10_fills_145 (by decide) ?_
                  refine r_sub [4, 5, 6, 1, 0] rfl ?_
                  exact ih3 ((60 - x30_.toInt).toNat) (by omega) x30_ x28_ I29 hs29 hF29 (by omega) (by omega) (by first | (rw [show x30_.toInt.toNat = 0 by omega]; show _ = D 0 1; omega) | (rw [show x30_.toInt.toNat = x3_4.toInt.toNat + 1 by omega]; exact tf)) (by first | exact all_0 (P := fun j => (I lr j).toInt = Lp D (Gm D x1.toInt x2.toInt) (j + 1)) (q := 0) (by omega) | exact fillf_s (f := fun j => Lp D (Gm D x1.toInt x2.toInt) (j + 1)) (k := x3_4.toNatClampNeg) v3_3 eI29 (by have h9 := clampI (i := x3_4) (by omega); omega) (by rw [clx (i := x3_4) rfl (by omega)]; exact tf) (by omega)) rfl
            · refine r_iload hC dX10_fills_77 0 rfl ?_
              refine r_iload_n hC dX10_fills_79 4 rfl ?_
              refine r_isub hC dX10_fills_80 (fun x31_ e31 => ?_)
              try have t31 : x31_.toInt = x9_.toInt - x3_3.toInt := by rw [e31]; exact ti_sub (by omega) (by omega)
              refine r_goto hC (tgt := 88) dX10_fills_81 (by decide) ?_
              refine r_istore hC (lv' := [(6, .int x31_), (5, .int x9_), (0, .ref a0), (1, .int x1), (2, .int x2), (3, .int x3_3), (4, .int x3_4)]) dX10_fills_88 (by decide) rfl ?_
              refine r_iload hC dX10_fills_90 0 rfl ?_
              refine r_aload_n hC dX10_fills_92 2 rfl ?_
              refine r_getr hC 3 (ci := 10) rfl u10_in (by decide) mT_4_238 dX10_fills_93 ka0 rfl rfl hbm ?_
              refine r_getiN hC 1 (ci := 9) rfl u9_in (by decide) nF_1 dX10_fills_96 khm rfl rfl (fun x32_ e32 => ?_)
              have f32 : x32_.toInt = (I3 hm 1).toInt := by rw [e32]
              have w32 : x32_ = M1 := by rw [e32]; exact (Eq.trans (hF3.get khm rfl) eM1.symm)
              have wt32 : x32_.toInt = M1.toInt := by rw [w32]
              have h99 : I3 hm 1 = x32_ := e32.symm
              have h99t : (I3 hm 1).toInt = x32_.toInt := congrArg Int32.toInt h99
              refine r_icmp_le hC (tgt := 112) dX10_fills_99 (by decide) (fun c33 => ?_) (fun c33 => ?_)
              · refine r_iload hC dX10_fills_112 0 rfl ?_
                refine r_istore hC (lv' := [(6, .int x31_), (5, .int x9_), (0, .ref a0), (1, .int x1), (2, .int x2), (3, .int x3_3), (4, .int x3_4)]) dX10_fills_114 (by decide) rfl ?_
                refine r_iload hC dX10_fills_116 1 rfl ?_
                refine r_iload_n hC dX10_fills_118 5 rfl ?_
                refine r_icmp_le hC (tgt := 129) dX10_fills_119 (by decide) (fun c34 => ?_) (fun c34 => ?_)
                · refine r_iload_n hC dX10_fills_129 5 rfl ?_
                  refine r_iload hC dX10_fills_130 0 rfl ?_
                  refine r_isub hC dX10_fills_132 (fun x35_ e35 => ?_)
                  try have t35 : x35_.toInt = x3_3.toInt - x31_.toInt := by rw [e35]; exact ti_sub (by omega) (by omega)
                  refine r_istore_n hC (lv' := [(3, .int x35_), (6, .int x31_), (5, .int x9_), (0, .ref a0), (1, .int x1), (2, .int x2), (4, .int x3_4)]) dX10_fills_133 (by decide) rfl ?_
                  have tf : x35_.toInt = Lp D (Gm D x1.toInt x2.toInt) (x3_4.toInt.toNat + 1) := by show _ = tw (D 0 2) (Gm D x1.toInt x2.toInt _) (Lp D (Gm D x1.toInt x2.toInt) _); first | exact tw_lt (by omega) (by omega) | exact tw_ge (by omega) (by omega)
                  refine r_aload_n hC dX10_fills_134 3 rfl ?_
                  refine r_getr hC 15 (ci := 10) rfl u10_in (by decide) mT_5_10 dX10_fills_135 ka0 rfl rfl hlr ?_
                  refine r_iload hC dX10_fills_138 6 rfl ?_
                  refine r_iload_n hC dX10_fills_140 0 rfl ?_
                  refine x_iastore hC klr llr (by decide) rfl rfl dX10_fills_141 (by omega) (by omega) (fun I36 eI36 => ?_)
                  have hs36 := hs3.put0 eI36 klr (rng_arr (by decide) _) rfl (xF_arr (by decide) _) (by decide)
                  have hF36 := hF3.put eI36 klr (inS_arr rfl _)
                  obtain ⟨x37_, e37⟩ : ∃ z : Int32, z = x3_4 + Int32.ofInt (1) := ⟨_, rfl⟩
                  refine r_iinc hC (j := 6) (v := x37_) (lv' := [(4, .int x37_), (3, .int x35_), (6, .int x31_), (5, .int x9_), (0, .ref a0), (1, .int x1), (2, .int x2)]) dX10_fills_142 rfl (by rw [e37]) (by decide) rfl ?_
                  try have t37 : x37_.toInt = x3_4.toInt + (1) := by rw [e37]; exact (ti_add (b := Int32.ofInt (1)) (by show _ ≤ _ + (1 : Int); omega) (by show _ + (1 : Int) ≤ _; omega))
                  refine r_goto hC (tgt := 11) dX10_fills_145 (by decide) ?_
                  refine r_sub [4, 5, 6, 1, 0] rfl ?_
                  exact ih3 ((60 - x37_.toInt).toNat) (by omega) x37_ x35_ I36 hs36 hF36 (by omega) (by omega) (by first | (rw [show x37_.toInt.toNat = 0 by omega]; show _ = D 0 1; omega) | (rw [show x37_.toInt.toNat = x3_4.toInt.toNat + 1 by omega]; exact tf)) (by first | exact all_0 (P := fun j => (I lr j).toInt = Lp D (Gm D x1.toInt x2.toInt) (j + 1)) (q := 0) (by omega) | exact fillf_s (f := fun j => Lp D (Gm D x1.toInt x2.toInt) (j + 1)) (k := x3_4.toNatClampNeg) v3_3 eI36 (by have h9 := clampI (i := x3_4) (by omega); omega) (by rw [clx (i := x3_4) rfl (by omega)]; exact tf) (by omega)) rfl
                · refine r_iload_n hC dX10_fills_122 5 rfl ?_
                  refine r_iload hC dX10_fills_123 0 rfl ?_
                  refine r_iadd hC dX10_fills_125 (fun x38_ e38 => ?_)
                  try have t38 : x38_.toInt = x3_3.toInt + x31_.toInt := by rw [e38]; exact ti_add (by omega) (by omega)
                  refine r_goto hC (tgt := 133) dX10_fills_126 (by decide) ?_
                  refine r_istore_n hC (lv' := [(3, .int x38_), (6, .int x31_), (5, .int x9_), (0, .ref a0), (1, .int x1), (2, .int x2), (4, .int x3_4)]) dX10_fills_133 (by decide) rfl ?_
                  have tf : x38_.toInt = Lp D (Gm D x1.toInt x2.toInt) (x3_4.toInt.toNat + 1) := by show _ = tw (D 0 2) (Gm D x1.toInt x2.toInt _) (Lp D (Gm D x1.toInt x2.toInt) _); first | exact tw_lt (by omega) (by omega) | exact tw_ge (by omega) (by omega)
                  refine r_aload_n hC dX10_fills_134 3 rfl ?_
                  refine r_getr hC 15 (ci := 10) rfl u10_in (by decide) mT_5_10 dX10_fills_135 ka0 rfl rfl hlr ?_
                  refine r_iload hC dX10_fills_138 6 rfl ?_
                  refine r_iload_n hC dX10_fills_140 0 rfl ?_
                  refine x_iastore hC klr llr (by decide) rfl rfl dX10_fills_141 (by omega) (by omega) (fun I39 eI39 => ?_)
                  have hs39 := hs3.put0 eI39 klr (rng_arr (by decide) _) rfl (xF_arr (by decide) _) (by decide)
                  have hF39 := hF3.put eI39 klr (inS_arr rfl _)
                  obtain ⟨x40_, e40⟩ : ∃ z : Int32, z = x3_4 + Int32.ofInt (1) := ⟨_, rfl⟩
                  refine r_iinc hC (j := 6) (v := x40_) (lv' := [(4, .int x40_), (3, .int x38_), (6, .int x31_), (5, .int x9_), (0, .ref a0), (1, .int x1), (2, .int x2)]) dX10_fills_142 rfl (by rw [e40]) (by decide) rfl ?_
                  try have t40 : x40_.toInt = x3_4.toInt + (1) := by rw [e40]; exact (ti_add (b := Int32.ofInt (1)) (by show _ ≤ _ + (1 : Int); omega) (by show _ + (1 : Int) ≤ _; omega))
                  refine r_goto hC (tgt := 11) dX10_fills_145 (by decide) ?_
                  refine r_sub [4, 5, 6, 1, 0] rfl ?_
                  exact ih3 ((60 - x40_.toInt).toNat) (by omega) x40_ x38_ I39 hs39 hF39 (by omega) (by omega) (by first | (rw [show x40_.toInt.toNat = 0 by omega]; show _ = D 0 1; omega) | (rw [show x40_.toInt.toNat = x3_4.toInt.toNat + 1 by omega]; exact tf)) (by first | exact all_0 (P := fun j => (I lr j).toInt = Lp D (Gm D x1.toInt x2.toInt) (j + 1)) (q := 0) (by omega) | exact fillf_s (f := fun j => Lp D (Gm D x1.toInt x2.toInt) (j + 1)) (k := x3_4.toNatClampNeg) v3_3 eI39 (by have h9 := clampI (i := x3_4) (by omega); omega) (by rw [clx (i := x3_4) rfl (by omega)]; exact tf) (by omega)) rfl
              · refine r_aload_n hC dX10_fills_102 2 rfl ?_
                refine r_getr hC 3 (ci := 10) rfl u10_in (by decide) mT_4_238 dX10_fills_103 ka0 rfl rfl hbm ?_
                refine r_getiN hC 1 (ci := 9) rfl u9_in (by decide) nF_1 dX10_fills_106 khm rfl rfl (fun x41_ e41 => ?_)
                have f41 : x41_.toInt = (I3 hm 1).toInt := by rw [e41]
                have w41 : x41_ = x32_ := by rw [e41]; exact e32.symm
                have wt41 : x41_.toInt = x32_.toInt := by rw [w41]
                refine r_goto hC (tgt := 114) dX10_fills_109 (by decide) ?_
                refine r_istore hC (lv' := [(6, .int x41_), (5, .int x9_), (0, .ref a0), (1, .int x1), (2, .int x2), (3, .int x3_3), (4, .int x3_4)]) dX10_fills_114 (by decide) rfl ?_
                refine r_iload hC dX10_fills_116 1 rfl ?_
                refine r_iload_n hC dX10_fills_118 5 rfl ?_
                refine r_icmp_le hC (tgt := 129) dX10_fills_119 (by decide) (fun c42 => ?_) (fun c42 => ?_)
                · refine r_iload_n hC dX10_fills_129 5 rfl ?_
                  refine r_iload hC dX10_fills_130 0 rfl ?_
                  refine r_isub hC dX10_fills_132 (fun x43_ e43 => ?_)
                  try have t43 : x43_.toInt = x3_3.toInt - x41_.toInt := by rw [e43]; exact ti_sub (by omega) (by omega)
                  refine r_istore_n hC (lv' := [(3, .int x43_), (6, .int x41_), (5, .int x9_), (0, .ref a0), (1, .int x1), (2, .int x2), (4, .int x3_4)]) dX10_fills_133 (by decide) rfl ?_
                  have tf : x43_.toInt = Lp D (Gm D x1.toInt x2.toInt) (x3_4.toInt.toNat + 1) := by show _ = tw (D 0 2) (Gm D x1.toInt x2.toInt _) (Lp D (Gm D x1.toInt x2.toInt) _); first | exact tw_lt (by omega) (by omega) | exact tw_ge (by omega) (by omega)
                  refine r_aload_n hC dX10_fills_134 3 rfl ?_
                  refine r_getr hC 15 (ci := 10) rfl u10_in (by decide) mT_5_10 dX10_fills_135 ka0 rfl rfl hlr ?_
                  refine r_iload hC dX10_fills_138 6 rfl ?_
                  refine r_iload_n hC dX10_fills_140 0 rfl ?_
                  refine x_iastore hC klr llr (by decide) rfl rfl dX10_fills_141 (by omega) (by omega) (fun I44 eI44 => ?_)
                  have hs44 := hs3.put0 eI44 klr (rng_arr (by decide) _) rfl (xF_arr (by decide) _) (by decide)
                  have hF44 := hF3.put eI44 klr (inS_arr rfl _)
                  obtain ⟨x45_, e45⟩ : ∃ z : Int32, z = x3_4 + Int32.ofInt (1) := ⟨_, rfl⟩
                  refine r_iinc hC (j := 6) (v := x45_) (lv' := [(4, .int x45_), (3, .int x43_), (6, .int x41_), (5, .int x9_), (0, .ref a0), (1, .int x1), (2, .int x2)]) dX10_fills_142 rfl (by rw [e45]) (by decide) rfl ?_
                  try have t45 : x45_.toInt = x3_4.toInt + (1) := by rw [e45]; exact (ti_add (b := Int32.ofInt (1)) (by show _ ≤ _ + (1 : Int); omega) (by show _ + (1 : Int) ≤ _; omega))
                  refine r_goto hC (tgt := 11) dX10_fills_145 (by decide) ?_
                  refine r_sub [4, 5, 6, 1, 0] rfl ?_
                  exact ih3 ((60 - x45_.toInt).toNat) (by omega) x45_ x43_ I44 hs44 hF44 (by omega) (by omega) (by first | (rw [show x45_.toInt.toNat = 0 by omega]; show _ = D 0 1; omega) | (rw [show x45_.toInt.toNat = x3_4.toInt.toNat + 1 by omega]; exact tf)) (by first | exact all_0 (P := fun j => (I lr j).toInt = Lp D (Gm D x1.toInt x2.toInt) (j + 1)) (q := 0) (by omega) | exact fillf_s (f := fun j => Lp D (Gm D x1.toInt x2.toInt) (j + 1)) (k := x3_4.toNatClampNeg) v3_3 eI44 (by have h9 := clampI (i := x3_4) (by omega); omega) (by rw [clx (i := x3_4) rfl (by omega)]; exact tf) (by omega)) rfl
                · refine r_iload_n hC dX10_fills_122 5 rfl ?_
                  refine r_iload hC dX10_fills_123 0 rfl ?_
                  refine r_iadd hC dX10_fills_125 (fun x46_ e46 => ?_)
                  try have t46 : x46_.toInt = x3_3.toInt + x41_.toInt := by rw [e46]; exact ti_add (by omega) (by omega)
                  refine r_goto hC (tgt := 133) dX10_fills_126 (by decide) ?_
                  refine r_istore_n hC (lv' := [(3, .int x46_), (6, .int x41_), (5, .int x9_), (0, .ref a0), (1, .int x1), (2, .int x2), (4, .int x3_4)]) dX10_fills_133 (by decide) rfl ?_
                  have tf : x46_.toInt = Lp D (Gm D x1.toInt x2.toInt) (x3_4.toInt.toNat + 1) := by show _ = tw (D 0 2) (Gm D x1.toInt x2.toInt _) (Lp D (Gm D x1.toInt x2.toInt) _); first | exact tw_lt (by omega) (by omega) | exact tw_ge (by omega) (by omega)
                  refine r_aload_n hC dX10_fills_134 3 rfl ?_
                  refine r_getr hC 15 (ci := 10) rfl u10_in (by decide) mT_5_10 dX10_fills_135 ka0 rfl rfl hlr ?_
                  refine r_iload hC dX10_fills_138 6 rfl ?_
                  refine r_iload_n hC dX10_fills_140 0 rfl ?_
                  refine x_iastore hC klr llr (by decide) rfl rfl dX10_fills_141 (by omega) (by omega) (fun I47 eI47 => ?_)
                  have hs47 := hs3.put0 eI47 klr (rng_arr (by decide) _) rfl (xF_arr (by decide) _) (by decide)
                  have hF47 := hF3.put eI47 klr (inS_arr rfl _)
                  obtain ⟨x48_, e48⟩ : ∃ z : Int32, z = x3_4 + Int32.ofInt (1) := ⟨_, rfl⟩
                  refine r_iinc hC (j := 6) (v := x48_) (lv' := [(4, .int x48_), (3, .int x46_), (6, .int x41_), (5, .int x9_), (0, .ref a0), (1, .int x1), (2, .int x2)]) dX10_fills_142 rfl (by rw [e48]) (by decide) rfl ?_
                  try have t48 : x48_.toInt = x3_4.toInt + (1) := by rw [e48]; exact (ti_add (b := Int32.ofInt (1)) (by show _ ≤ _ + (1 : Int); omega) (by show _ + (1 : Int) ≤ _; omega))
                  refine r_goto hC (tgt := 11) dX10_fills_145 (by decide) ?_
                  refine r_sub [4, 5, 6, 1, 0] rfl ?_
                  exact ih3 ((60 - x48_.toInt).toNat) (by omega) x48_ x46_ I47 hs47 hF47 (by omega) (by omega) (by first | (rw [show x48_.toInt.toNat = 0 by omega]; show _ = D 0 1; omega) | (rw [show x48_.toInt.toNat = x3_4.toInt.toNat + 1 by omega]; exact tf)) (by first | exact all_0 (P := fun j => (I lr j).toInt = Lp D (Gm D x1.toInt x2.toInt) (j + 1)) (q := 0) (by omega) | exact fillf_s (f := fun j => Lp D (Gm D x1.toInt x2.toInt) (j + 1)) (k := x3_4.toNatClampNeg) v3_3 eI47 (by have h9 := clampI (i := x3_4) (by omega); omega) (by rw [clx (i := x3_4) rfl (by omega)]; exact tf) (by omega)) rfl
          · refine r_aload_n hC dX10_fills_57 1 rfl ?_
            refine r_getr hC 3 (ci := 10) rfl u10_in (by decide) mT_4_238 dX10_fills_58 ka0 rfl rfl hbm ?_
            refine r_getiN hC 2 (ci := 9) rfl u9_in (by decide) nF_2 dX10_fills_61 khm rfl rfl (fun x49_ e49 => ?_)
            have f49 : x49_.toInt = (I3 hm 2).toInt := by rw [e49]
            have w49 : x49_ = x10_ := by rw [e49]; exact e10.symm
            have wt49 : x49_.toInt = x10_.toInt := by rw [w49]
            refine r_goto hC (tgt := 69) dX10_fills_64 (by decide) ?_
            refine r_istore hC (lv' := [(5, .int x49_), (0, .ref a0), (1, .int x1), (2, .int x2), (3, .int x3_3), (4, .int x3_4)]) dX10_fills_69 (by decide) rfl ?_
            have gb := Gm_b hJ (down := x1.toInt) (goal := x2.toInt) (d := x3_4.toInt.toNat) p0
            have lb := Lp_b hJ (G := (Gm D x1.toInt x2.toInt)) (fun d => Gm_b hJ p0) x3_4.toInt.toNat
            have d2 := hJ.2.2.2.2.1
            have gq : x9_.toInt = (gz D ((x3_4.toInt.toNat : Nat) : Int) (D 0 4).toNat).2 := by rw [show ((x3_4.toInt.toNat : Nat) : Int) = x3_4.toInt by omega]; exact k9_0
            have gg : x49_.toInt = Gm D x1.toInt x2.toInt x3_4.toInt.toNat := by rw [Gm_3 (by omega) (by omega)]; omega
            refine r_iload hC dX10_fills_71 0 rfl ?_
            refine r_iload_n hC dX10_fills_73 4 rfl ?_
            refine r_icmp_le hC (tgt := 84) dX10_fills_74 (by decide) (fun c50 => ?_) (fun c50 => ?_)
            · refine r_iload_n hC dX10_fills_84 4 rfl ?_
              refine r_iload hC dX10_fills_85 0 rfl ?_
              refine r_isub hC dX10_fills_87 (fun x51_ e51 => ?_)
              try have t51 : x51_.toInt = x3_3.toInt - x49_.toInt := by rw [e51]; exact ti_sub (by omega) (by omega)
              refine r_istore hC (lv' := [(6, .int x51_), (5, .int x49_), (0, .ref a0), (1, .int x1), (2, .int x2), (3, .int x3_3), (4, .int x3_4)]) dX10_fills_88 (by decide) rfl ?_
              refine r_iload hC dX10_fills_90 0 rfl ?_
              refine r_aload_n hC dX10_fills_92 2 rfl ?_
              refine r_getr hC 3 (ci := 10) rfl u10_in (by decide) mT_4_238 dX10_fills_93 ka0 rfl rfl hbm ?_
              refine r_getiN hC 1 (ci := 9) rfl u9_in (by decide) nF_1 dX10_fills_96 khm rfl rfl (fun x52_ e52 => ?_)
              have f52 : x52_.toInt = (I3 hm 1).toInt := by rw [e52]
              have w52 : x52_ = M1 := by rw [e52]; exact (Eq.trans (hF3.get khm rfl) eM1.symm)
              have wt52 : x52_.toInt = M1.toInt := by rw [w52]
              have h99 : I3 hm 1 = x52_ := e52.symm
              have h99t : (I3 hm 1).toInt = x52_.toInt := congrArg Int32.toInt h99
              refine r_icmp_le hC (tgt := 112) dX10_fills_99 (by decide) (fun c53 => ?_) (fun c53 => ?_)
              · refine r_iload hC dX10_fills_112 0 rfl ?_
                refine r_istore hC (lv' := [(6, .int x51_), (5, .int x49_), (0, .ref a0), (1, .int x1), (2, .int x2), (3, .int x3_3), (4, .int x3_4)]) dX10_fills_114 (by decide) rfl ?_
                refine r_iload hC dX10_fills_116 1 rfl ?_
                refine r_iload_n hC dX10_fills_118 5 rfl ?_
                refine r_icmp_le hC (tgt := 129) dX10_fills_119 (by decide) (fun c54 => ?_) (fun c54 => ?_)
                · refine r_iload_n hC dX10_fills_129 5 rfl ?_
                  refine r_iload hC dX10_fills_130 0 rfl ?_
                  refine r_isub hC dX10_fills_132 (fun x55_ e55 => ?_)
                  try have t55 : x55_.toInt = x3_3.toInt - x51_.toInt := by rw [e55]; exact ti_sub (by omega) (by omega)
                  refine r_istore_n hC (lv' := [(3, .int x55_), (6, .int x51_), (5, .int x49_), (0, .ref a0), (1, .int x1), (2, .int x2), (4, .int x3_4)]) dX10_fills_133 (by decide) rfl ?_
                  have tf : x55_.toInt = Lp D (Gm D x1.toInt x2.toInt) (x3_4.toInt.toNat + 1) := by show _ = tw (D 0 2) (Gm D x1.toInt x2.toInt _) (Lp D (Gm D x1.toInt x2.toInt) _); first | exact tw_lt (by omega) (by omega) | exact tw_ge (by omega) (by omega)
                  refine r_aload_n hC dX10_fills_134 3 rfl ?_
                  refine r_getr hC 15 (ci := 10) rfl u10_in (by decide) mT_5_10 dX10_fills_135 ka0 rfl rfl hlr ?_
                  refine r_iload hC dX10_fills_138 6 rfl ?_
                  refine r_iload_n hC dX10_fills_140 0 rfl ?_
                  refine x_iastore hC klr llr (by decide) rfl rfl dX10_fills_141 (by omega) (by omega) (fun I56 eI56 => ?_)
                  have hs56 := hs3.put0 eI56 klr (rng_arr (by decide) _) rfl (xF_arr (by decide) _) (by decide)
                  have hF56 := hF3.put eI56 klr (inS_arr rfl _)
                  obtain ⟨x57_, e57⟩ : ∃ z : Int32, z = x3_4 + Int32.ofInt (1) := ⟨_, rfl⟩
                  refine r_iinc hC (j := 6) (v := x57_) (lv' := [(4, .int x57_), (3, .int x55_), (6, .int x51_), (5, .int x49_), (0, .ref a0), (1, .int x1), (2, .int x2)]) dX10_fills_142 rfl (by rw [e57]) (by decide) rfl ?_
                  try have t57 : x57_.toInt = x3_4.toInt + (1) := by rw [e57]; exact (ti_add (b := Int32.ofInt (1)) (by show _ ≤ _ + (1 : Int); omega) (by show _ + (1 : Int) ≤ _; omega))
                  refine r_goto hC (tgt := 11) dX10_fills_145 (by decide) ?_
                  refine r_sub [4, 5, 6, 1, 0] rfl ?_
                  exact ih3 ((60 - x57_.toInt).toNat) (by omega) x57_ x55_ I56 hs56 hF56 (by omega) (by omega) (by first | (rw [show x57_.toInt.toNat = 0 by omega]; show _ = D 0 1; omega) | (rw [show x57_.toInt.toNat = x3_4.toInt.toNat + 1 by omega]; exact tf)) (by first | exact all_0 (P := fun j => (I lr j).toInt = Lp D (Gm D x1.toInt x2.toInt) (j + 1)) (q := 0) (by omega) | exact fillf_s (f := fun j => Lp D (Gm D x1.toInt x2.toInt) (j + 1)) (k := x3_4.toNatClampNeg) v3_3 eI56 (by have h9 := clampI (i := x3_4) (by omega); omega) (by rw [clx (i := x3_4) rfl (by omega)]; exact tf) (by omega)) rfl
                · refine r_iload_n hC dX10_fills_122 5 rfl ?_
                  refine r_iload hC dX10_fills_123 0 rfl ?_
                  refine r_iadd hC dX10_fills_125 (fun x58_ e58 => ?_)
                  try have t58 : x58_.toInt = x3_3.toInt + x51_.toInt := by rw [e58]; exact ti_add (by omega) (by omega)
                  refine r_goto hC (tgt := 133) dX10_fills_126 (by decide) ?_
                  refine r_istore_n hC (lv' := [(3, .int x58_), (6, .int x51_), (5, .int x49_), (0, .ref a0), (1, .int x1), (2, .int x2), (4, .int x3_4)]) dX10_fills_133 (by decide) rfl ?_
                  have tf : x58_.toInt = Lp D (Gm D x1.toInt x2.toInt) (x3_4.toInt.toNat + 1) := by show _ = tw (D 0 2) (Gm D x1.toInt x2.toInt _) (Lp D (Gm D x1.toInt x2.toInt) _); first | exact tw_lt (by omega) (by omega) | exact tw_ge (by omega) (by omega)
                  refine r_aload_n hC dX10_fills_134 3 rfl ?_
                  refine r_getr hC 15 (ci := 10) rfl u10_in (by decide) mT_5_10 dX10_fills_135 ka0 rfl rfl hlr ?_
                  refine r_iload hC dX10_fills_138 6 rfl ?_
                  refine r_iload_n hC dX10_fills_140 0 rfl ?_
                  refine x_iastore hC klr llr (by decide) rfl rfl dX10_fills_141 (by omega) (by omega) (fun I59 eI59 => ?_)
                  have hs59 := hs3.put0 eI59 klr (rng_arr (by decide) _) rfl (xF_arr (by decide) _) (by decide)
                  have hF59 := hF3.put eI59 klr (inS_arr rfl _)
                  obtain ⟨x60_, e60⟩ : ∃ z : Int32, z = x3_4 + Int32.ofInt (1) := ⟨_, rfl⟩
                  refine r_iinc hC (j := 6) (v := x60_) (lv' := [(4, .int x60_), (3, .int x58_), (6, .int x51_), (5, .int x49_), (0, .ref a0), (1, .int x1), (2, .int x2)]) dX10_fills_142 rfl (by rw [e60]) (by decide) rfl ?_
                  try have t60 : x60_.toInt = x3_4.toInt + (1) := by rw [e60]; exact (ti_add (b := Int32.ofInt (1)) (by show _ ≤ _ + (1 : Int); omega) (by show _ + (1 : Int) ≤ _; omega))
                  refine r_goto hC (tgt := 11) dX10_fills_145 (by decide) ?_
                  refine r_sub [4, 5, 6, 1, 0] rfl ?_
                  exact ih3 ((60 - x60_.toInt).toNat) (by omega) x60_ x58_ I59 hs59 hF59 (by omega) (by omega) (by first | (rw [show x60_.toInt.toNat = 0 by omega]; show _ = D 0 1; omega) | (rw [show x60_.toInt.toNat = x3_4.toInt.toNat + 1 by omega]; exact tf)) (by first | exact all_0 (P := fun j => (I lr j).toInt = Lp D (Gm D x1.toInt x2.toInt) (j + 1)) (q := 0) (by omega) | exact fillf_s (f := fun j => Lp D (Gm D x1.toInt x2.toInt) (j + 1)) (k := x3_4.toNatClampNeg) v3_3 eI59 (by have h9 := clampI (i := x3_4) (by omega); omega) (by rw [clx (i := x3_4) rfl (by omega)]; exact tf) (by omega)) rfl
              · refine r_aload_n hC dX10_fills_102 2 rfl ?_
                refine r_getr hC 3 (ci := 10) rfl u10_in (by decide) mT_4_238 dX10_fills_103 ka0 rfl rfl hbm ?_
                refine r_getiN hC 1 (ci := 9) rfl u9_in (by decide) nF_1 dX10_fills_106 khm rfl rfl (fun x61_ e61 => ?_)
                have f61 : x61_.toInt = (I3 hm 1).toInt := by rw [e61]
                have w61 : x61_ = x52_ := by rw [e61]; exact e52.symm
                have wt61 : x61_.toInt = x52_.toInt := by rw [w61]
                refine r_goto hC (tgt := 114) dX10_fills_109 (by decide) ?_
                refine r_istore hC (lv' := [(6, .int x61_), (5, .int x49_), (0, .ref a0), (1, .int x1), (2, .int x2), (3, .int x3_3), (4, .int x3_4)]) dX10_fills_114 (by decide) rfl ?_
                refine r_iload hC dX10_fills_116 1 rfl ?_
                refine r_iload_n hC dX10_fills_118 5 rfl ?_
                refine r_icmp_le hC (tgt := 129) dX10_fills_119 (by decide) (fun c62 => ?_) (fun c62 => ?_)
                · refine r_iload_n hC dX10_fills_129 5 rfl ?_
                  refine r_iload hC dX10_fills_130 0 rfl ?_
                  refine r_isub hC dX10_fills_132 (fun x63_ e63 => ?_)
                  try have t63 : x63_.toInt = x3_3.toInt - x61_.toInt := by rw [e63]; exact ti_sub (by omega) (by omega)
                  refine r_istore_n hC (lv' := [(3, .int x63_), (6, .int x61_), (5, .int x49_), (0, .ref a0), (1, .int x1), (2, .int x2), (4, .int x3_4)]) dX10_fills_133 (by decide) rfl ?_
                  have tf : x63_.toInt = Lp D (Gm D x1.toInt x2.toInt) (x3_4.toInt.toNat + 1) := by show _ = tw (D 0 2) (Gm D x1.toInt x2.toInt _) (Lp D (Gm D x1.toInt x2.toInt) _); first | exact tw_lt (by omega) (by omega) | exact tw_ge (by omega) (by omega)
                  refine r_aload_n hC dX10_fills_134 3 rfl ?_
                  refine r_getr hC 15 (ci := 10) rfl u10_in (by decide) mT_5_10 dX10_fills_135 ka0 rfl rfl hlr ?_
                  refine r_iload hC dX10_fills_138 6 rfl ?_
                  refine r_iload_n hC dX10_fills_140 0 rfl ?_
                  refine x_iastore hC klr llr (by decide) rfl rfl dX10_fills_141 (by omega) (by omega) (fun I64 eI64 => ?_)
                  have hs64 := hs3.put0 eI64 klr (rng_arr (by decide) _) rfl (xF_arr (by decide) _) (by decide)
                  have hF64 := hF3.put eI64 klr (inS_arr rfl _)
                  obtain ⟨x65_, e65⟩ : ∃ z : Int32, z = x3_4 + Int32.ofInt (1) := ⟨_, rfl⟩
                  refine r_iinc hC (j := 6) (v := x65_) (lv' := [(4, .int x65_), (3, .int x63_), (6, .int x61_), (5, .int x49_), (0, .ref a0), (1, .int x1), (2, .int x2)]) dX10_fills_142 rfl (by rw [e65]) (by decide) rfl ?_
                  try have t65 : x65_.toInt = x3_4.toInt + (1) := by rw [e65]; exact (ti_add (b := Int32.ofInt (1)) (by show _ ≤ _ + (1 : Int); omega) (by show _ + (1 : Int) ≤ _; omega))
                  refine r_goto hC (tgt := 11) dX10_fills_145 (by decide) ?_
                  refine r_sub [4, 5, 6, 1, 0] rfl ?_
                  exact ih3 ((60 - x65_.toInt).toNat) (by omega) x65_ x63_ I64 hs64 hF64 (by omega) (by omega) (by first | (rw [show x65_.toInt.toNat = 0 by omega]; show _ = D 0 1; omega) | (rw [show x65_.toInt.toNat = x3_4.toInt.toNat + 1 by omega]; exact tf)) (by first | exact all_0 (P := fun j => (I lr j).toInt = Lp D (Gm D x1.toInt x2.toInt) (j + 1)) (q := 0) (by omega) | exact fillf_s (f := fun j => Lp D (Gm D x1.toInt x2.toInt) (j + 1)) (k := x3_4.toNatClampNeg) v3_3 eI64 (by have h9 := clampI (i := x3_4) (by omega); omega) (by rw [clx (i := x3_4) rfl (by omega)]; exact tf) (by omega)) rfl
                · refine r_iload_n hC dX10_fills_122 5 rfl ?_
                  refine r_iload hC dX10_fills_123 0 rfl ?_
                  refine r_iadd hC dX10_fills_125 (fun x66_ e66 => ?_)
                  try have t66 : x66_.toInt = x3_3.toInt + x61_.toInt := by rw [e66]; exact ti_add (by omega) (by omega)
                  refine r_goto hC (tgt := 133) dX10_fills_126 (by decide) ?_
                  refine r_istore_n hC (lv' := [(3, .int x66_), (6, .int x61_), (5, .int x49_), (0, .ref a0), (1, .int x1), (2, .int x2), (4, .int x3_4)]) dX10_fills_133 (by decide) rfl ?_
                  have tf : x66_.toInt = Lp D (Gm D x1.toInt x2.toInt) (x3_4.toInt.toNat + 1) := by show _ = tw (D 0 2) (Gm D x1.toInt x2.toInt _) (Lp D (Gm D x1.toInt x2.toInt) _); first | exact tw_lt (by omega) (by omega) | exact tw_ge (by omega) (by omega)
                  refine r_aload_n hC dX10_fills_134 3 rfl ?_
                  refine r_getr hC 15 (ci := 10) rfl u10_in (by decide) mT_5_10 dX10_fills_135 ka0 rfl rfl hlr ?_
                  refine r_iload hC dX10_fills_138 6 rfl ?_
                  refine r_iload_n hC dX10_fills_140 0 rfl ?_
                  refine x_iastore hC klr llr (by decide) rfl rfl dX10_fills_141 (by omega) (by omega) (fun I67 eI67 => ?_)
                  have hs67 := hs3.put0 eI67 klr (rng_arr (by decide) _) rfl (xF_arr (by decide) _) (by decide)
                  have hF67 := hF3.put eI67 klr (inS_arr rfl _)
                  obtain ⟨x68_, e68⟩ : ∃ z : Int32, z = x3_4 + Int32.ofInt (1) := ⟨_, rfl⟩
                  refine r_iinc hC (j := 6) (v := x68_) (lv' := [(4, .int x68_), (3, .int x66_), (6, .int x61_), (5, .int x49_), (0, .ref a0), (1, .int x1), (2, .int x2)]) dX10_fills_142 rfl (by rw [e68]) (by decide) rfl ?_
                  try have t68 : x68_.toInt = x3_4.toInt + (1) := by rw [e68]; exact (ti_add (b := Int32.ofInt (1)) (by show _ ≤ _ + (1 : Int); omega) (by show _ + (1 : Int) ≤ _; omega))
                  refine r_goto hC (tgt := 11) dX10_fills_145 (by decide) ?_
                  refine r_sub [4, 5, 6, 1, 0] rfl ?_
                  exact ih3 ((60 - x68_.toInt).toNat) (by omega) x68_ x66_ I67 hs67 hF67 (by omega) (by omega) (by first | (rw [show x68_.toInt.toNat = 0 by omega]; show _ = D 0 1; omega) | (rw [show x68_.toInt.toNat = x3_4.toInt.toNat + 1 by omega]; exact tf)) (by first | exact all_0 (P := fun j => (I lr j).toInt = Lp D (Gm D x1.toInt x2.toInt) (j + 1)) (q := 0) (by omega) | exact fillf_s (f := fun j => Lp D (Gm D x1.toInt x2.toInt) (j + 1)) (k := x3_4.toNatClampNeg) v3_3 eI67 (by have h9 := clampI (i := x3_4) (by omega); omega) (by rw [clx (i := x3_4) rfl (by omega)]; exact tf) (by omega)) rfl
            · refine r_iload hC dX10_fills_77 0 rfl ?_
              refine r_iload_n hC dX10_fills_79 4 rfl ?_
              refine r_isub hC dX10_fills_80 (fun x69_ e69 => ?_)
              try have t69 : x69_.toInt = x49_.toInt - x3_3.toInt := by rw [e69]; exact ti_sub (by omega) (by omega)
              refine r_goto hC (tgt := 88) dX10_fills_81 (by decide) ?_
              refine r_istore hC (lv' := [(6, .int x69_), (5, .int x49_), (0, .ref a0), (1, .int x1), (2, .int x2), (3, .int x3_3), (4, .int x3_4)]) dX10_fills_88 (by decide) rfl ?_
              refine r_iload hC dX10_fills_90 0 rfl ?_
              refine r_aload_n hC dX10_fills_92 2 rfl ?_
              refine r_getr hC 3 (ci := 10) rfl u10_in (by decide) mT_4_238 dX10_fills_93 ka0 rfl rfl hbm ?_
              refine r_getiN hC 1 (ci := 9) rfl u9_in (by decide) nF_1 dX10_fills_96 khm rfl rfl (fun x70_ e70 => ?_)
              have f70 : x70_.toInt = (I3 hm 1).toInt := by rw [e70]
              have w70 : x70_ = M1 := by rw [e70]; exact (Eq.trans (hF3.get khm rfl) eM1.symm)
              have wt70 : x70_.toInt = M1.toInt := by rw [w70]
              have h99 : I3 hm 1 = x70_ := e70.symm
              have h99t : (I3 hm 1).toInt = x70_.toInt := congrArg Int32.toInt h99
              refine r_icmp_le hC (tgt := 112) dX10_fills_99 (by decide) (fun c71 => ?_) (fun c71 => ?_)
              · refine r_iload hC dX10_fills_112 0 rfl ?_
                refine r_istore hC (lv' := [(6, .int x69_), (5, .int x49_), (0, .ref a0), (1, .int x1), (2, .int x2), (3, .int x3_3), (4, .int x3_4)]) dX10_fills_114 (by decide) rfl ?_
                refine r_iload hC dX10_fills_116 1 rfl ?_
                refine r_iload_n hC dX10_fills_118 5 rfl ?_
                refine r_icmp_le hC (tgt := 129) dX10_fills_119 (by decide) (fun c72 => ?_) (fun c72 => ?_)
                · refine r_iload_n hC dX10_fills_129 5 rfl ?_
                  refine r_iload hC dX10_fills_130 0 rfl ?_
                  refine r_isub hC dX10_fills_132 (fun x73_ e73 => ?_)
                  try have t73 : x73_.toInt = x3_3.toInt - x69_.toInt := by rw [e73]; exact ti_sub (by omega) (by omega)
                  refine r_istore_n hC (lv' := [(3, .int x73_), (6, .int x69_), (5, .int x49_), (0, .ref a0), (1, .int x1), (2, .int x2), (4, .int x3_4)]) dX10_fills_133 (by decide) rfl ?_
                  have tf : x73_.toInt = Lp D (Gm D x1.toInt x2.toInt) (x3_4.toInt.toNat + 1) := by show _ = tw (D 0 2) (Gm D x1.toInt x2.toInt _) (Lp D (Gm D x1.toInt x2.toInt) _); first | exact tw_lt (by omega) (by omega) | exact tw_ge (by omega) (by omega)
                  refine r_aload_n hC dX10_fills_134 3 rfl ?_
                  refine r_getr hC 15 (ci := 10) rfl u10_in (by decide) mT_5_10 dX10_fills_135 ka0 rfl rfl hlr ?_
                  refine r_iload hC dX10_fills_138 6 rfl ?_
                  refine r_iload_n hC dX10_fills_140 0 rfl ?_
                  refine x_iastore hC klr llr (by decide) rfl rfl dX10_fills_141 (by omega) (by omega) (fun I74 eI74 => ?_)
                  have hs74 := hs3.put0 eI74 klr (rng_arr (by decide) _) rfl (xF_arr (by decide) _) (by decide)
                  have hF74 := hF3.put eI74 klr (inS_arr rfl _)
                  obtain ⟨x75_, e75⟩ : ∃ z : Int32, z = x3_4 + Int32.ofInt (1) := ⟨_, rfl⟩
                  refine r_iinc hC (j := 6) (v := x75_) (lv' := [(4, .int x75_), (3, .int x73_), (6, .int x69_), (5, .int x49_), (0, .ref a0), (1, .int x1), (2, .int x2)]) dX10_fills_142 rfl (by rw [e75]) (by decide) rfl ?_
                  try have t75 : x75_.toInt = x3_4.toInt + (1) := by rw [e75]; exact (ti_add (b := Int32.ofInt (1)) (by show _ ≤ _ + (1 : Int); omega) (by show _ + (1 : Int) ≤ _; omega))
                  refine r_goto hC (tgt := 11) dX10_fills_145 (by decide) ?_
                  refine r_sub [4, 5, 6, 1, 0] rfl ?_
                  exact ih3 ((60 - x75_.toInt).toNat) (by omega) x75_ x73_ I74 hs74 hF74 (by omega) (by omega) (by first | (rw [show x75_.toInt.toNat = 0 by omega]; show _ = D 0 1; omega) | (rw [show x75_.toInt.toNat = x3_4.toInt.toNat + 1 by omega]; exact tf)) (by first | exact all_0 (P := fun j => (I lr j).toInt = Lp D (Gm D x1.toInt x2.toInt) (j + 1)) (q := 0) (by omega) | exact fillf_s (f := fun j => Lp D (Gm D x1.toInt x2.toInt) (j + 1)) (k := x3_4.toNatClampNeg) v3_3 eI74 (by have h9 := clampI (i := x3_4) (by omega); omega) (by rw [clx (i := x3_4) rfl (by omega)]; exact tf) (by omega)) rfl
                · refine r_iload_n hC dX10_fills_122 5 rfl ?_
                  refine r_iload hC dX10_fills_123 0 rfl ?_
                  refine r_iadd hC dX10_fills_125 (fun x76_ e76 => ?_)
                  try have t76 : x76_.toInt = x3_3.toInt + x69_.toInt := by rw [e76]; exact ti_add (by omega) (by omega)
                  refine r_goto hC (tgt := 133) dX10_fills_126 (by decide) ?_
                  refine r_istore_n hC (lv' := [(3, .int x76_), (6, .int x69_), (5, .int x49_), (0, .ref a0), (1, .int x1), (2, .int x2), (4, .int x3_4)]) dX10_fills_133 (by decide) rfl ?_
                  have tf : x76_.toInt = Lp D (Gm D x1.toInt x2.toInt) (x3_4.toInt.toNat + 1) := by show _ = tw (D 0 2) (Gm D x1.toInt x2.toInt _) (Lp D (Gm D x1.toInt x2.toInt) _); first | exact tw_lt (by omega) (by omega) | exact tw_ge (by omega) (by omega)
                  refine r_aload_n hC dX10_fills_134 3 rfl ?_
                  refine r_getr hC 15 (ci := 10) rfl u10_in (by decide) mT_5_10 dX10_fills_135 ka0 rfl rfl hlr ?_
                  refine r_iload hC dX10_fills_138 6 rfl ?_
                  refine r_iload_n hC dX10_fills_140 0 rfl ?_
                  refine x_iastore hC klr llr (by decide) rfl rfl dX10_fills_141 (by omega) (by omega) (fun I77 eI77 => ?_)
                  have hs77 := hs3.put0 eI77 klr (rng_arr (by decide) _) rfl (xF_arr (by decide) _) (by decide)
                  have hF77 := hF3.put eI77 klr (inS_arr rfl _)
                  obtain ⟨x78_, e78⟩ : ∃ z : Int32, z = x3_4 + Int32.ofInt (1) := ⟨_, rfl⟩
                  refine r_iinc hC (j := 6) (v := x78_) (lv' := [(4, .int x78_), (3, .int x76_), (6, .int x69_), (5, .int x49_), (0, .ref a0), (1, .int x1), (2, .int x2)]) dX10_fills_142 rfl (by rw [e78]) (by decide) rfl ?_
                  try have t78 : x78_.toInt = x3_4.toInt + (1) := by rw [e78]; exact (ti_add (b := Int32.ofInt (1)) (by show _ ≤ _ + (1 : Int); omega) (by show _ + (1 : Int) ≤ _; omega))
                  refine r_goto hC (tgt := 11) dX10_fills_145 (by decide) ?_
                  refine r_sub [4, 5, 6, 1, 0] rfl ?_
                  exact ih3 ((60 - x78_.toInt).toNat) (by omega) x78_ x76_ I77 hs77 hF77 (by omega) (by omega) (by first | (rw [show x78_.toInt.toNat = 0 by omega]; show _ = D 0 1; omega) | (rw [show x78_.toInt.toNat = x3_4.toInt.toNat + 1 by omega]; exact tf)) (by first | exact all_0 (P := fun j => (I lr j).toInt = Lp D (Gm D x1.toInt x2.toInt) (j + 1)) (q := 0) (by omega) | exact fillf_s (f := fun j => Lp D (Gm D x1.toInt x2.toInt) (j + 1)) (k := x3_4.toNatClampNeg) v3_3 eI77 (by have h9 := clampI (i := x3_4) (by omega); omega) (by rw [clx (i := x3_4) rfl (by omega)]; exact tf) (by omega)) rfl
              · refine r_aload_n hC dX10_fills_102 2 rfl ?_
                refine r_getr hC 3 (ci := 10) rfl u10_in (by decide) mT_4_238 dX10_fills_103 ka0 rfl rfl hbm ?_
                refine r_getiN hC 1 (ci := 9) rfl u9_in (by decide) nF_1 dX10_fills_106 khm rfl rfl (fun x79_ e79 => ?_)
                have f79 : x79_.toInt = (I3 hm 1).toInt := by rw [e79]
                have w79 : x79_ = x70_ := by rw [e79]; exact e70.symm
                have wt79 : x79_.toInt = x70_.toInt := by rw [w79]
                refine r_goto hC (tgt := 114) dX10_fills_109 (by decide) ?_
                refine r_istore hC (lv' := [(6, .int x79_), (5, .int x49_), (0, .ref a0), (1, .int x1), (2, .int x2), (3, .int x3_3), (4, .int x3_4)]) dX10_fills_114 (by decide) rfl ?_
                refine r_iload hC dX10_fills_116 1 rfl ?_
                refine r_iload_n hC dX10_fills_118 5 rfl ?_
                refine r_icmp_le hC (tgt := 129) dX10_fills_119 (by decide) (fun c80 => ?_) (fun c80 => ?_)
                · refine r_iload_n hC dX10_fills_129 5 rfl ?_
                  refine r_iload hC dX10_fills_130 0 rfl ?_
                  refine r_isub hC dX10_fills_132 (fun x81_ e81 => ?_)
                  try have t81 : x81_.toInt = x3_3.toInt - x79_.toInt := by rw [e81]; exact ti_sub (by omega) (by omega)
                  refine r_istore_n hC (lv' := [(3, .int x81_), (6, .int x79_), (5, .int x49_), (0, .ref a0), (1, .int x1), (2, .int x2), (4, .int x3_4)]) dX10_fills_133 (by decide) rfl ?_
                  have tf : x81_.toInt = Lp D (Gm D x1.toInt x2.toInt) (x3_4.toInt.toNat + 1) := by show _ = tw (D 0 2) (Gm D x1.toInt x2.toInt _) (Lp D (Gm D x1.toInt x2.toInt) _); first | exact tw_lt (by omega) (by omega) | exact tw_ge (by omega) (by omega)
                  refine r_aload_n hC dX10_fills_134 3 rfl ?_
                  refine r_getr hC 15 (ci := 10) rfl u10_in (by decide) mT_5_10 dX10_fills_135 ka0 rfl rfl hlr ?_
                  refine r_iload hC dX10_fills_138 6 rfl ?_
                  refine r_iload_n hC dX10_fills_140 0 rfl ?_
                  refine x_iastore hC klr llr (by decide) rfl rfl dX10_fills_141 (by omega) (by omega) (fun I82 eI82 => ?_)
                  have hs82 := hs3.put0 eI82 klr (rng_arr (by decide) _) rfl (xF_arr (by decide) _) (by decide)
                  have hF82 := hF3.put eI82 klr (inS_arr rfl _)
                  obtain ⟨x83_, e83⟩ : ∃ z : Int32, z = x3_4 + Int32.ofInt (1) := ⟨_, rfl⟩
                  refine r_iinc hC (j := 6) (v := x83_) (lv' := [(4, .int x83_), (3, .int x81_), (6, .int x79_), (5, .int x49_), (0, .ref a0), (1, .int x1), (2, .int x2)]) dX10_fills_142 rfl (by rw [e83]) (by decide) rfl ?_
                  try have t83 : x83_.toInt = x3_4.toInt + (1) := by rw [e83]; exact (ti_add (b := Int32.ofInt (1)) (by show _ ≤ _ + (1 : Int); omega) (by show _ + (1 : Int) ≤ _; omega))
                  refine r_goto hC (tgt := 11) dX10_fills_145 (by decide) ?_
                  refine r_sub [4, 5, 6, 1, 0] rfl ?_
                  exact ih3 ((60 - x83_.toInt).toNat) (by omega) x83_ x81_ I82 hs82 hF82 (by omega) (by omega) (by first | (rw [show x83_.toInt.toNat = 0 by omega]; show _ = D 0 1; omega) | (rw [show x83_.toInt.toNat = x3_4.toInt.toNat + 1 by omega]; exact tf)) (by first | exact all_0 (P := fun j => (I lr j).toInt = Lp D (Gm D x1.toInt x2.toInt) (j + 1)) (q := 0) (by omega) | exact fillf_s (f := fun j => Lp D (Gm D x1.toInt x2.toInt) (j + 1)) (k := x3_4.toNatClampNeg) v3_3 eI82 (by have h9 := clampI (i := x3_4) (by omega); omega) (by rw [clx (i := x3_4) rfl (by omega)]; exact tf) (by omega)) rfl
                · refine r_iload_n hC dX10_fills_122 5 rfl ?_
                  refine r_iload hC dX10_fills_123 0 rfl ?_
                  refine r_iadd hC dX10_fills_125 (fun x84_ e84 => ?_)
                  try have t84 : x84_.toInt = x3_3.toInt + x79_.toInt := by rw [e84]; exact ti_add (by omega) (by omega)
                  refine r_goto hC (tgt := 133) dX10_fills_126 (by decide) ?_
                  refine r_istore_n hC (lv' := [(3, .int x84_), (6, .int x79_), (5, .int x49_), (0, .ref a0), (1, .int x1), (2, .int x2), (4, .int x3_4)]) dX10_fills_133 (by decide) rfl ?_
                  have tf : x84_.toInt = Lp D (Gm D x1.toInt x2.toInt) (x3_4.toInt.toNat + 1) := by show _ = tw (D 0 2) (Gm D x1.toInt x2.toInt _) (Lp D (Gm D x1.toInt x2.toInt) _); first | exact tw_lt (by omega) (by omega) | exact tw_ge (by omega) (by omega)
                  refine r_aload_n hC dX10_fills_134 3 rfl ?_
                  refine r_getr hC 15 (ci := 10) rfl u10_in (by decide) mT_5_10 dX10_fills_135 ka0 rfl rfl hlr ?_
                  refine r_iload hC dX10_fills_138 6 rfl ?_
                  refine r_iload_n hC dX10_fills_140 0 rfl ?_
                  refine x_iastore hC klr llr (by decide) rfl rfl dX10_fills_141 (by omega) (by omega) (fun I85 eI85 => ?_)
                  have hs85 := hs3.put0 eI85 klr (rng_arr (by decide) _) rfl (xF_arr (by decide) _) (by decide)
                  have hF85 := hF3.put eI85 klr (inS_arr rfl _)
                  obtain ⟨x86_, e86⟩ : ∃ z : Int32, z = x3_4 + Int32.ofInt (1) := ⟨_, rfl⟩
                  refine r_iinc hC (j := 6) (v := x86_) (lv' := [(4, .int x86_), (3, .int x84_), (6, .int x79_), (5, .int x49_), (0, .ref a0), (1, .int x1), (2, .int x2)]) dX10_fills_142 rfl (by rw [e86]) (by decide) rfl ?_
                  try have t86 : x86_.toInt = x3_4.toInt + (1) := by rw [e86]; exact (ti_add (b := Int32.ofInt (1)) (by show _ ≤ _ + (1 : Int); omega) (by show _ + (1 : Int) ≤ _; omega))
                  refine r_goto hC (tgt := 11) dX10_fills_145 (by decide) ?_
                  refine r_sub [4, 5, 6, 1, 0] rfl ?_
                  exact ih3 ((60 - x86_.toInt).toNat) (by omega) x86_ x84_ I85 hs85 hF85 (by omega) (by omega) (by first | (rw [show x86_.toInt.toNat = 0 by omega]; show _ = D 0 1; omega) | (rw [show x86_.toInt.toNat = x3_4.toInt.toNat + 1 by omega]; exact tf)) (by first | exact all_0 (P := fun j => (I lr j).toInt = Lp D (Gm D x1.toInt x2.toInt) (j + 1)) (q := 0) (by omega) | exact fillf_s (f := fun j => Lp D (Gm D x1.toInt x2.toInt) (j + 1)) (k := x3_4.toNatClampNeg) v3_3 eI85 (by have h9 := clampI (i := x3_4) (by omega); omega) (by rw [clx (i := x3_4) rfl (by omega)]; exact tf) (by omega)) rfl
        · refine r_iload_n hC dX10_fills_33 2 rfl ?_
          refine r_goto hC (tgt := 43) dX10_fills_34 (by decide) ?_
          refine r_istore hC (lv' := [(5, .int x2), (0, .ref a0), (1, .int x1), (2, .int x2), (3, .int x3_3), (4, .int x3_4)]) dX10_fills_43 (by decide) rfl ?_
          refine r_iload hC dX10_fills_45 0 rfl ?_
          refine r_aload_n hC dX10_fills_47 1 rfl ?_
          refine r_getr hC 3 (ci := 10) rfl u10_in (by decide) mT_4_238 dX10_fills_48 ka0 rfl rfl hbm ?_
          refine r_getiN hC 2 (ci := 9) rfl u9_in (by decide) nF_2 dX10_fills_51 khm rfl rfl (fun x87_ e87 => ?_)
          have f87 : x87_.toInt = (I3 hm 2).toInt := by rw [e87]
          have w87 : x87_ = T2 := by rw [e87]; exact (Eq.trans (hF3.get khm rfl) eT2.symm)
          have wt87 : x87_.toInt = T2.toInt := by rw [w87]
          have h54 : I3 hm 2 = x87_ := e87.symm
          have h54t : (I3 hm 2).toInt = x87_.toInt := congrArg Int32.toInt h54
          refine r_icmp_le hC (tgt := 67) dX10_fills_54 (by decide) (fun c88 => ?_) (fun c88 => ?_)
          · refine r_iload hC dX10_fills_67 0 rfl ?_
            refine r_istore hC (lv' := [(5, .int x2), (0, .ref a0), (1, .int x1), (2, .int x2), (3, .int x3_3), (4, .int x3_4)]) dX10_fills_69 (by decide) rfl ?_
            have gb := Gm_b hJ (down := x1.toInt) (goal := x2.toInt) (d := x3_4.toInt.toNat) p0
            have lb := Lp_b hJ (G := (Gm D x1.toInt x2.toInt)) (fun d => Gm_b hJ p0) x3_4.toInt.toNat
            have d2 := hJ.2.2.2.2.1
            have gg : x2.toInt = Gm D x1.toInt x2.toInt x3_4.toInt.toNat := by first | (rw [Gm_1 (by omega)]; omega) | (rw [Gm_2 (by omega) (by omega)]; omega)
            refine r_iload hC dX10_fills_71 0 rfl ?_
            refine r_iload_n hC dX10_fills_73 4 rfl ?_
            refine r_icmp_le hC (tgt := 84) dX10_fills_74 (by decide) (fun c89 => ?_) (fun c89 => ?_)
            · refine r_iload_n hC dX10_fills_84 4 rfl ?_
              refine r_iload hC dX10_fills_85 0 rfl ?_
              refine r_isub hC dX10_fills_87 (fun x90_ e90 => ?_)
              try have t90 : x90_.toInt = x3_3.toInt - x2.toInt := by rw [e90]; exact ti_sub (by omega) (by omega)
              refine r_istore hC (lv' := [(6, .int x90_), (5, .int x2), (0, .ref a0), (1, .int x1), (2, .int x2), (3, .int x3_3), (4, .int x3_4)]) dX10_fills_88 (by decide) rfl ?_
              refine r_iload hC dX10_fills_90 0 rfl ?_
              refine r_aload_n hC dX10_fills_92 2 rfl ?_
              refine r_getr hC 3 (ci := 10) rfl u10_in (by decide) mT_4_238 dX10_fills_93 ka0 rfl rfl hbm ?_
              refine r_getiN hC 1 (ci := 9) rfl u9_in (by decide) nF_1 dX10_fills_96 khm rfl rfl (fun x91_ e91 => ?_)
              have f91 : x91_.toInt = (I3 hm 1).toInt := by rw [e91]
              have w91 : x91_ = M1 := by rw [e91]; exact (Eq.trans (hF3.get khm rfl) eM1.symm)
              have wt91 : x91_.toInt = M1.toInt := by rw [w91]
              have h99 : I3 hm 1 = x91_ := e91.symm
              have h99t : (I3 hm 1).toInt = x91_.toInt := congrArg Int32.toInt h99
              refine r_icmp_le hC (tgt := 112) dX10_fills_99 (by decide) (fun c92 => ?_) (fun c92 => ?_)
              · refine r_iload hC dX10_fills_112 0 rfl ?_
                refine r_istore hC (lv' := [(6, .int x90_), (5, .int x2), (0, .ref a0), (1, .int x1), (2, .int x2), (3, .int x3_3), (4, .int x3_4)]) dX10_fills_114 (by decide) rfl ?_
                refine r_iload hC dX10_fills_116 1 rfl ?_
                refine r_iload_n hC dX10_fills_118 5 rfl ?_
                refine r_icmp_le hC (tgt := 129) dX10_fills_119 (by decide) (fun c93 => ?_) (fun c93 => ?_)
                · refine r_iload_n hC dX10_fills_129 5 rfl ?_
                  refine r_iload hC dX10_fills_130 0 rfl ?_
                  refine r_isub hC dX10_fills_132 (fun x94_ e94 => ?_)
                  try have t94 : x94_.toInt = x3_3.toInt - x90_.toInt := by rw [e94]; exact ti_sub (by omega) (by omega)
                  refine r_istore_n hC (lv' := [(3, .int x94_), (6, .int x90_), (5, .int x2), (0, .ref a0), (1, .int x1), (2, .int x2), (4, .int x3_4)]) dX10_fills_133 (by decide) rfl ?_
                  have tf : x94_.toInt = Lp D (Gm D x1.toInt x2.toInt) (x3_4.toInt.toNat + 1) := by show _ = tw (D 0 2) (Gm D x1.toInt x2.toInt _) (Lp D (Gm D x1.toInt x2.toInt) _); first | exact tw_lt (by omega) (by omega) | exact tw_ge (by omega) (by omega)
                  refine r_aload_n hC dX10_fills_134 3 rfl ?_
                  refine r_getr hC 15 (ci := 10) rfl u10_in (by decide) mT_5_10 dX10_fills_135 ka0 rfl rfl hlr ?_
                  refine r_iload hC dX10_fills_138 6 rfl ?_
                  refine r_iload_n hC dX10_fills_140 0 rfl ?_
                  refine x_iastore hC klr llr (by decide) rfl rfl dX10_fills_141 (by omega) (by omega) (fun I95 eI95 => ?_)
                  have hs95 := hs3.put0 eI95 klr (rng_arr (by decide) _) rfl (xF_arr (by decide) _) (by decide)
                  have hF95 := hF3.put eI95 klr (inS_arr rfl _)
                  obtain ⟨x96_, e96⟩ : ∃ z : Int32, z = x3_4 + Int32.ofInt (1) := ⟨_, rfl⟩
                  refine r_iinc hC (j := 6) (v := x96_) (lv' := [(4, .int x96_), (3, .int x94_), (6, .int x90_), (5, .int x2), (0, .ref a0), (1, .int x1), (2, .int x2)]) dX10_fills_142 rfl (by rw [e96]) (by decide) rfl ?_
                  try have t96 : x96_.toInt = x3_4.toInt + (1) := by rw [e96]; exact (ti_add (b := Int32.ofInt (1)) (by show _ ≤ _ + (1 : Int); omega) (by show _ + (1 : Int) ≤ _; omega))
                  refine r_goto hC (tgt := 11) dX10_fills_145 (by decide) ?_
                  refine r_sub [4, 5, 6, 1, 0] rfl ?_
                  exact ih3 ((60 - x96_.toInt).toNat) (by omega) x96_ x94_ I95 hs95 hF95 (by omega) (by omega) (by first | (rw [show x96_.toInt.toNat = 0 by omega]; show _ = D 0 1; omega) | (rw [show x96_.toInt.toNat = x3_4.toInt.toNat + 1 by omega]; exact tf)) (by first | exact all_0 (P := fun j => (I lr j).toInt = Lp D (Gm D x1.toInt x2.toInt) (j + 1)) (q := 0) (by omega) | exact fillf_s (f := fun j => Lp D (Gm D x1.toInt x2.toInt) (j + 1)) (k := x3_4.toNatClampNeg) v3_3 eI95 (by have h9 := clampI (i := x3_4) (by omega); omega) (by rw [clx (i := x3_4) rfl (by omega)]; exact tf) (by omega)) rfl
                · refine r_iload_n hC dX10_fills_122 5 rfl ?_
                  refine r_iload hC dX10_fills_123 0 rfl ?_
                  refine r_iadd hC dX10_fills_125 (fun x97_ e97 => ?_)
                  try have t97 : x97_.toInt = x3_3.toInt + x90_.toInt := by rw [e97]; exact ti_add (by omega) (by omega)
                  refine r_goto hC (tgt := 133) dX10_fills_126 (by decide) ?_
                  refine r_istore_n hC (lv' := [(3, .int x97_), (6, .int x90_), (5, .int x2), (0, .ref a0), (1, .int x1), (2, .int x2), (4, .int x3_4)]) dX10_fills_133 (by decide) rfl ?_
                  have tf : x97_.toInt = Lp D (Gm D x1.toInt x2.toInt) (x3_4.toInt.toNat + 1) := by show _ = tw (D 0 2) (Gm D x1.toInt x2.toInt _) (Lp D (Gm D x1.toInt x2.toInt) _); first | exact tw_lt (by omega) (by omega) | exact tw_ge (by omega) (by omega)
                  refine r_aload_n hC dX10_fills_134 3 rfl ?_
                  refine r_getr hC 15 (ci := 10) rfl u10_in (by decide) mT_5_10 dX10_fills_135 ka0 rfl rfl hlr ?_
                  refine r_iload hC dX10_fills_138 6 rfl ?_
                  refine r_iload_n hC dX10_fills_140 0 rfl ?_
                  refine x_iastore hC klr llr (by decide) rfl rfl dX10_fills_141 (by omega) (by omega) (fun I98 eI98 => ?_)
                  have hs98 := hs3.put0 eI98 klr (rng_arr (by decide) _) rfl (xF_arr (by decide) _) (by decide)
                  have hF98 := hF3.put eI98 klr (inS_arr rfl _)
                  obtain ⟨x99_, e99⟩ : ∃ z : Int32, z = x3_4 + Int32.ofInt (1) := ⟨_, rfl⟩
                  refine r_iinc hC (j := 6) (v := x99_) (lv' := [(4, .int x99_), (3, .int x97_), (6, .int x90_), (5, .int x2), (0, .ref a0), (1, .int x1), (2, .int x2)]) dX10_fills_142 rfl (by rw [e99]) (by decide) rfl ?_
                  try have t99 : x99_.toInt = x3_4.toInt + (1) := by rw [e99]; exact (ti_add (b := Int32.ofInt (1)) (by show _ ≤ _ + (1 : Int); omega) (by show _ + (1 : Int) ≤ _; omega))
                  refine r_goto hC (tgt := 11) dX10_fills_145 (by decide) ?_
                  refine r_sub [4, 5, 6, 1, 0] rfl ?_
                  exact ih3 ((60 - x99_.toInt).toNat) (by omega) x99_ x97_ I98 hs98 hF98 (by omega) (by omega) (by first | (rw [show x99_.toInt.toNat = 0 by omega]; show _ = D 0 1; omega) | (rw [show x99_.toInt.toNat = x3_4.toInt.toNat + 1 by omega]; exact tf)) (by first | exact all_0 (P := fun j => (I lr j).toInt = Lp D (Gm D x1.toInt x2.toInt) (j + 1)) (q := 0) (by omega) | exact fillf_s (f := fun j => Lp D (Gm D x1.toInt x2.toInt) (j + 1)) (k := x3_4.toNatClampNeg) v3_3 eI98 (by have h9 := clampI (i := x3_4) (by omega); omega) (by rw [clx (i := x3_4) rfl (by omega)]; exact tf) (by omega)) rfl
              · refine r_aload_n hC dX10_fills_102 2 rfl ?_
                refine r_getr hC 3 (ci := 10) rfl u10_in (by decide) mT_4_238 dX10_fills_103 ka0 rfl rfl hbm ?_
                refine r_getiN hC 1 (ci := 9) rfl u9_in (by decide) nF_1 dX10_fills_106 khm rfl rfl (fun x100_ e100 => ?_)
                have f100 : x100_.toInt = (I3 hm 1).toInt := by rw [e100]
                have w100 : x100_ = x91_ := by rw [e100]; exact e91.symm
                have wt100 : x100_.toInt = x91_.toInt := by rw [w100]
                refine r_goto hC (tgt := 114) dX10_fills_109 (by decide) ?_
                refine r_istore hC (lv' := [(6, .int x100_), (5, .int x2), (0, .ref a0), (1, .int x1), (2, .int x2), (3, .int x3_3), (4, .int x3_4)]) dX10_fills_114 (by decide) rfl ?_
                refine r_iload hC dX10_fills_116 1 rfl ?_
                refine r_iload_n hC dX10_fills_118 5 rfl ?_
                refine r_icmp_le hC (tgt := 129) dX10_fills_119 (by decide) (fun c101 => ?_) (fun c101 => ?_)
                · refine r_iload_n hC dX10_fills_129 5 rfl ?_
                  refine r_iload hC dX10_fills_130 0 rfl ?_
                  refine r_isub hC dX10_fills_132 (fun x102_ e102 => ?_)
                  try have t102 : x102_.toInt = x3_3.toInt - x100_.toInt := by rw [e102]; exact ti_sub (by omega) (by omega)
                  refine r_istore_n hC (lv' := [(3, .int x102_), (6, .int x100_), (5, .int x2), (0, .ref a0), (1, .int x1), (2, .int x2), (4, .int x3_4)]) dX10_fills_133 (by decide) rfl ?_
                  have tf : x102_.toInt = Lp D (Gm D x1.toInt x2.toInt) (x3_4.toInt.toNat + 1) := by show _ = tw (D 0 2) (Gm D x1.toInt x2.toInt _) (Lp D (Gm D x1.toInt x2.toInt) _); first | exact tw_lt (by omega) (by omega) | exact tw_ge (by omega) (by omega)
                  refine r_aload_n hC dX10_fills_134 3 rfl ?_
                  refine r_getr hC 15 (ci := 10) rfl u10_in (by decide) mT_5_10 dX10_fills_135 ka0 rfl rfl hlr ?_
                  refine r_iload hC dX10_fills_138 6 rfl ?_
                  refine r_iload_n hC dX10_fills_140 0 rfl ?_
                  refine x_iastore hC klr llr (by decide) rfl rfl dX10_fills_141 (by omega) (by omega) (fun I103 eI103 => ?_)
                  have hs103 := hs3.put0 eI103 klr (rng_arr (by decide) _) rfl (xF_arr (by decide) _) (by decide)
                  have hF103 := hF3.put eI103 klr (inS_arr rfl _)
                  obtain ⟨x104_, e104⟩ : ∃ z : Int32, z = x3_4 + Int32.ofInt (1) := ⟨_, rfl⟩
                  refine r_iinc hC (j := 6) (v := x104_) (lv' := [(4, .int x104_), (3, .int x102_), (6, .int x100_), (5, .int x2), (0, .ref a0), (1, .int x1), (2, .int x2)]) dX10_fills_142 rfl (by rw [e104]) (by decide) rfl ?_
                  try have t104 : x104_.toInt = x3_4.toInt + (1) := by rw [e104]; exact (ti_add (b := Int32.ofInt (1)) (by show _ ≤ _ + (1 : Int); omega) (by show _ + (1 : Int) ≤ _; omega))
                  refine r_goto hC (tgt := 11) dX10_fills_145 (by decide) ?_
                  refine r_sub [4, 5, 6, 1, 0] rfl ?_
                  exact ih3 ((60 - x104_.toInt).toNat) (by omega) x104_ x102_ I103 hs103 hF103 (by omega) (by omega) (by first | (rw [show x104_.toInt.toNat = 0 by omega]; show _ = D 0 1; omega) | (rw [show x104_.toInt.toNat = x3_4.toInt.toNat + 1 by omega]; exact tf)) (by first | exact all_0 (P := fun j => (I lr j).toInt = Lp D (Gm D x1.toInt x2.toInt) (j + 1)) (q := 0) (by omega) | exact fillf_s (f := fun j => Lp D (Gm D x1.toInt x2.toInt) (j + 1)) (k := x3_4.toNatClampNeg) v3_3 eI103 (by have h9 := clampI (i := x3_4) (by omega); omega) (by rw [clx (i := x3_4) rfl (by omega)]; exact tf) (by omega)) rfl
                · refine r_iload_n hC dX10_fills_122 5 rfl ?_
                  refine r_iload hC dX10_fills_123 0 rfl ?_
                  refine r_iadd hC dX10_fills_125 (fun x105_ e105 => ?_)
                  try have t105 : x105_.toInt = x3_3.toInt + x100_.toInt := by rw [e105]; exact ti_add (by omega) (by omega)
                  refine r_goto hC (tgt := 133) dX10_fills_126 (by decide) ?_
                  refine r_istore_n hC (lv' := [(3, .int x105_), (6, .int x100_), (5, .int x2), (0, .ref a0), (1, .int x1), (2, .int x2), (4, .int x3_4)]) dX10_fills_133 (by decide) rfl ?_
                  have tf : x105_.toInt = Lp D (Gm D x1.toInt x2.toInt) (x3_4.toInt.toNat + 1) := by show _ = tw (D 0 2) (Gm D x1.toInt x2.toInt _) (Lp D (Gm D x1.toInt x2.toInt) _); first | exact tw_lt (by omega) (by omega) | exact tw_ge (by omega) (by omega)
                  refine r_aload_n hC dX10_fills_134 3 rfl ?_
                  refine r_getr hC 15 (ci := 10) rfl u10_in (by decide) mT_5_10 dX10_fills_135 ka0 rfl rfl hlr ?_
                  refine r_iload hC dX10_fills_138 6 rfl ?_
                  refine r_iload_n hC dX10_fills_140 0 rfl ?_
                  refine x_iastore hC klr llr (by decide) rfl rfl dX10_fills_141 (by omega) (by omega) (fun I106 eI106 => ?_)
                  have hs106 := hs3.put0 eI106 klr (rng_arr (by decide) _) rfl (xF_arr (by decide) _) (by decide)
                  have hF106 := hF3.put eI106 klr (inS_arr rfl _)
                  obtain ⟨x107_, e107⟩ : ∃ z : Int32, z = x3_4 + Int32.ofInt (1) := ⟨_, rfl⟩
                  refine r_iinc hC (j := 6) (v := x107_) (lv' := [(4, .int x107_), (3, .int x105_), (6, .int x100_), (5, .int x2), (0, .ref a0), (1, .int x1), (2, .int x2)]) dX10_fills_142 rfl (by rw [e107]) (by decide) rfl ?_
                  try have t107 : x107_.toInt = x3_4.toInt + (1) := by rw [e107]; exact (ti_add (b := Int32.ofInt (1)) (by show _ ≤ _ + (1 : Int); omega) (by show _ + (1 : Int) ≤ _; omega))
                  refine r_goto hC (tgt := 11) dX10_fills_145 (by decide) ?_
                  refine r_sub [4, 5, 6, 1, 0] rfl ?_
                  exact ih3 ((60 - x107_.toInt).toNat) (by omega) x107_ x105_ I106 hs106 hF106 (by omega) (by omega) (by first | (rw [show x107_.toInt.toNat = 0 by omega]; show _ = D 0 1; omega) | (rw [show x107_.toInt.toNat = x3_4.toInt.toNat + 1 by omega]; exact tf)) (by first | exact all_0 (P := fun j => (I lr j).toInt = Lp D (Gm D x1.toInt x2.toInt) (j + 1)) (q := 0) (by omega) | exact fillf_s (f := fun j => Lp D (Gm D x1.toInt x2.toInt) (j + 1)) (k := x3_4.toNatClampNeg) v3_3 eI106 (by have h9 := clampI (i := x3_4) (by omega); omega) (by rw [clx (i := x3_4) rfl (by omega)]; exact tf) (by omega)) rfl
            · refine r_iload hC dX10_fills_77 0 rfl ?_
              refine r_iload_n hC dX10_fills_79 4 rfl ?_
              refine r_isub hC dX10_fills_80 (fun x108_ e108 => ?_)
              try have t108 : x108_.toInt = x2.toInt - x3_3.toInt := by rw [e108]; exact ti_sub (by omega) (by omega)
              refine r_goto hC (tgt := 88) dX10_fills_81 (by decide) ?_
              refine r_istore hC (lv' := [(6, .int x108_), (5, .int x2), (0, .ref a0), (1, .int x1), (2, .int x2), (3, .int x3_3), (4, .int x3_4)]) dX10_fills_88 (by decide) rfl ?_
              refine r_iload hC dX10_fills_90 0 rfl ?_
              refine r_aload_n hC dX10_fills_92 2 rfl ?_
              refine r_getr hC 3 (ci := 10) rfl u10_in (by decide) mT_4_238 dX10_fills_93 ka0 rfl rfl hbm ?_
              refine r_getiN hC 1 (ci := 9) rfl u9_in (by decide) nF_1 dX10_fills_96 khm rfl rfl (fun x109_ e109 => ?_)
              have f109 : x109_.toInt = (I3 hm 1).toInt := by rw [e109]
              have w109 : x109_ = M1 := by rw [e109]; exact (Eq.trans (hF3.get khm rfl) eM1.symm)
              have wt109 : x109_.toInt = M1.toInt := by rw [w109]
              have h99 : I3 hm 1 = x109_ := e109.symm
              have h99t : (I3 hm 1).toInt = x109_.toInt := congrArg Int32.toInt h99
              refine r_icmp_le hC (tgt := 112) dX10_fills_99 (by decide) (fun c110 => ?_) (fun c110 => ?_)
              · refine r_iload hC dX10_fills_112 0 rfl ?_
                refine r_istore hC (lv' := [(6, .int x108_), (5, .int x2), (0, .ref a0), (1, .int x1), (2, .int x2), (3, .int x3_3), (4, .int x3_4)]) dX10_fills_114 (by decide) rfl ?_
                refine r_iload hC dX10_fills_116 1 rfl ?_
                refine r_iload_n hC dX10_fills_118 5 rfl ?_
                refine r_icmp_le hC (tgt := 129) dX10_fills_119 (by decide) (fun c111 => ?_) (fun c111 => ?_)
                · refine r_iload_n hC dX10_fills_129 5 rfl ?_
                  refine r_iload hC dX10_fills_130 0 rfl ?_
                  refine r_isub hC dX10_fills_132 (fun x112_ e112 => ?_)
                  try have t112 : x112_.toInt = x3_3.toInt - x108_.toInt := by rw [e112]; exact ti_sub (by omega) (by omega)
                  refine r_istore_n hC (lv' := [(3, .int x112_), (6, .int x108_), (5, .int x2), (0, .ref a0), (1, .int x1), (2, .int x2), (4, .int x3_4)]) dX10_fills_133 (by decide) rfl ?_
                  have tf : x112_.toInt = Lp D (Gm D x1.toInt x2.toInt) (x3_4.toInt.toNat + 1) := by show _ = tw (D 0 2) (Gm D x1.toInt x2.toInt _) (Lp D (Gm D x1.toInt x2.toInt) _); first | exact tw_lt (by omega) (by omega) | exact tw_ge (by omega) (by omega)
                  refine r_aload_n hC dX10_fills_134 3 rfl ?_
                  refine r_getr hC 15 (ci := 10) rfl u10_in (by decide) mT_5_10 dX10_fills_135 ka0 rfl rfl hlr ?_
                  refine r_iload hC dX10_fills_138 6 rfl ?_
                  refine r_iload_n hC dX10_fills_140 0 rfl ?_
                  refine x_iastore hC klr llr (by decide) rfl rfl dX10_fills_141 (by omega) (by omega) (fun I113 eI113 => ?_)
                  have hs113 := hs3.put0 eI113 klr (rng_arr (by decide) _) rfl (xF_arr (by decide) _) (by decide)
                  have hF113 := hF3.put eI113 klr (inS_arr rfl _)
                  obtain ⟨x114_, e114⟩ : ∃ z : Int32, z = x3_4 + Int32.ofInt (1) := ⟨_, rfl⟩
                  refine r_iinc hC (j := 6) (v := x114_) (lv' := [(4, .int x114_), (3, .int x112_), (6, .int x108_), (5, .int x2), (0, .ref a0), (1, .int x1), (2, .int x2)]) dX10_fills_142 rfl (by rw [e114]) (by decide) rfl ?_
                  try have t114 : x114_.toInt = x3_4.toInt + (1) := by rw [e114]; exact (ti_add (b := Int32.ofInt (1)) (by show _ ≤ _ + (1 : Int); omega) (by show _ + (1 : Int) ≤ _; omega))
                  refine r_goto hC (tgt := 11) dX10_fills_145 (by decide) ?_
                  refine r_sub [4, 5, 6, 1, 0] rfl ?_
                  exact ih3 ((60 - x114_.toInt).toNat) (by omega) x114_ x112_ I113 hs113 hF113 (by omega) (by omega) (by first | (rw [show x114_.toInt.toNat = 0 by omega]; show _ = D 0 1; omega) | (rw [show x114_.toInt.toNat = x3_4.toInt.toNat + 1 by omega]; exact tf)) (by first | exact all_0 (P := fun j => (I lr j).toInt = Lp D (Gm D x1.toInt x2.toInt) (j + 1)) (q := 0) (by omega) | exact fillf_s (f := fun j => Lp D (Gm D x1.toInt x2.toInt) (j + 1)) (k := x3_4.toNatClampNeg) v3_3 eI113 (by have h9 := clampI (i := x3_4) (by omega); omega) (by rw [clx (i := x3_4) rfl (by omega)]; exact tf) (by omega)) rfl
                · refine r_iload_n hC dX10_fills_122 5 rfl ?_
                  refine r_iload hC dX10_fills_123 0 rfl ?_
                  refine r_iadd hC dX10_fills_125 (fun x115_ e115 => ?_)
                  try have t115 : x115_.toInt = x3_3.toInt + x108_.toInt := by rw [e115]; exact ti_add (by omega) (by omega)
                  refine r_goto hC (tgt := 133) dX10_fills_126 (by decide) ?_
                  refine r_istore_n hC (lv' := [(3, .int x115_), (6, .int x108_), (5, .int x2), (0, .ref a0), (1, .int x1), (2, .int x2), (4, .int x3_4)]) dX10_fills_133 (by decide) rfl ?_
                  have tf : x115_.toInt = Lp D (Gm D x1.toInt x2.toInt) (x3_4.toInt.toNat + 1) := by show _ = tw (D 0 2) (Gm D x1.toInt x2.toInt _) (Lp D (Gm D x1.toInt x2.toInt) _); first | exact tw_lt (by omega) (by omega) | exact tw_ge (by omega) (by omega)
                  refine r_aload_n hC dX10_fills_134 3 rfl ?_
                  refine r_getr hC 15 (ci := 10) rfl u10_in (by decide) mT_5_10 dX10_fills_135 ka0 rfl rfl hlr ?_
                  refine r_iload hC dX10_fills_138 6 rfl ?_
                  refine r_iload_n hC dX10_fills_140 0 rfl ?_
                  refine x_iastore hC klr llr (by decide) rfl rfl dX10_fills_141 (by omega) (by omega) (fun I116 eI116 => ?_)
                  have hs116 := hs3.put0 eI116 klr (rng_arr (by decide) _) rfl (xF_arr (by decide) _) (by decide)
                  have hF116 := hF3.put eI116 klr (inS_arr rfl _)
                  obtain ⟨x117_, e117⟩ : ∃ z : Int32, z = x3_4 + Int32.ofInt (1) := ⟨_, rfl⟩
                  refine r_iinc hC (j := 6) (v := x117_) (lv' := [(4, .int x117_), (3, .int x115_), (6, .int x108_), (5, .int x2), (0, .ref a0), (1, .int x1), (2, .int x2)]) dX10_fills_142 rfl (by rw [e117]) (by decide) rfl ?_
                  try have t117 : x117_.toInt = x3_4.toInt + (1) := by rw [e117]; exact (ti_add (b := Int32.ofInt (1)) (by show _ ≤ _ + (1 : Int); omega) (by show _ + (1 : Int) ≤ _; omega))
                  refine r_goto hC (tgt := 11) dX10_fills_145 (by decide) ?_
                  refine r_sub [4, 5, 6, 1, 0] rfl ?_
                  exact ih3 ((60 - x117_.toInt).toNat) (by omega) x117_ x115_ I116 hs116 hF116 (by omega) (by omega) (by first | (rw [show x117_.toInt.toNat = 0 by omega]; show _ = D 0 1; omega) | (rw [show x117_.toInt.toNat = x3_4.toInt.toNat + 1 by omega]; exact tf)) (by first | exact all_0 (P := fun j => (I lr j).toInt = Lp D (Gm D x1.toInt x2.toInt) (j + 1)) (q := 0) (by omega) | exact fillf_s (f := fun j => Lp D (Gm D x1.toInt x2.toInt) (j + 1)) (k := x3_4.toNatClampNeg) v3_3 eI116 (by have h9 := clampI (i := x3_4) (by omega); omega) (by rw [clx (i := x3_4) rfl (by omega)]; exact tf) (by omega)) rfl
              · refine r_aload_n hC dX10_fills_102 2 rfl ?_
                refine r_getr hC 3 (ci := 10) rfl u10_in (by decide) mT_4_238 dX10_fills_103 ka0 rfl rfl hbm ?_
                refine r_getiN hC 1 (ci := 9) rfl u9_in (by decide) nF_1 dX10_fills_106 khm rfl rfl (fun x118_ e118 => ?_)
                have f118 : x118_.toInt = (I3 hm 1).toInt := by rw [e118]
                have w118 : x118_ = x109_ := by rw [e118]; exact e109.symm
                have wt118 : x118_.toInt = x109_.toInt := by rw [w118]
                refine r_goto hC (tgt := 114) dX10_fills_109 (by decide) ?_
                refine r_istore hC (lv' := [(6, .int x118_), (5, .int x2), (0, .ref a0), (1, .int x1), (2, .int x2), (3, .int x3_3), (4, .int x3_4)]) dX10_fills_114 (by decide) rfl ?_
                refine r_iload hC dX10_fills_116 1 rfl ?_
                refine r_iload_n hC dX10_fills_118 5 rfl ?_
                refine r_icmp_le hC (tgt := 129) dX10_fills_119 (by decide) (fun c119 => ?_) (fun c119 => ?_)
                · refine r_iload_n hC dX10_fills_129 5 rfl ?_
                  refine r_iload hC dX10_fills_130 0 rfl ?_
                  refine r_isub hC dX10_fills_132 (fun x120_ e120 => ?_)
                  try have t120 : x120_.toInt = x3_3.toInt - x118_.toInt := by rw [e120]; exact ti_sub (by omega) (by omega)
                  refine r_istore_n hC (lv' := [(3, .int x120_), (6, .int x118_), (5, .int x2), (0, .ref a0), (1, .int x1), (2, .int x2), (4, .int x3_4)]) dX10_fills_133 (by decide) rfl ?_
                  have tf : x120_.toInt = Lp D (Gm D x1.toInt x2.toInt) (x3_4.toInt.toNat + 1) := by show _ = tw (D 0 2) (Gm D x1.toInt x2.toInt _) (Lp D (Gm D x1.toInt x2.toInt) _); first | exact tw_lt (by omega) (by omega) | exact tw_ge (by omega) (by omega)
                  refine r_aload_n hC dX10_fills_134 3 rfl ?_
                  refine r_getr hC 15 (ci := 10) rfl u10_in (by decide) mT_5_10 dX10_fills_135 ka0 rfl rfl hlr ?_
                  refine r_iload hC dX10_fills_138 6 rfl ?_
                  refine r_iload_n hC dX10_fills_140 0 rfl ?_
                  refine x_iastore hC klr llr (by decide) rfl rfl dX10_fills_141 (by omega) (by omega) (fun I121 eI121 => ?_)
                  have hs121 := hs3.put0 eI121 klr (rng_arr (by decide) _) rfl (xF_arr (by decide) _) (by decide)
                  have hF121 := hF3.put eI121 klr (inS_arr rfl _)
                  obtain ⟨x122_, e122⟩ : ∃ z : Int32, z = x3_4 + Int32.ofInt (1) := ⟨_, rfl⟩
                  refine r_iinc hC (j := 6) (v := x122_) (lv' := [(4, .int x122_), (3, .int x120_), (6, .int x118_), (5, .int x2), (0, .ref a0), (1, .int x1), (2, .int x2)]) dX10_fills_142 rfl (by rw [e122]) (by decide) rfl ?_
                  try have t122 : x122_.toInt = x3_4.toInt + (1) := by rw [e122]; exact (ti_add (b := Int32.ofInt (1)) (by show _ ≤ _ + (1 : Int); omega) (by show _ + (1 : Int) ≤ _; omega))
                  refine r_goto hC (tgt := 11) dX10_fills_145 (by decide) ?_
                  refine r_sub [4, 5, 6, 1, 0] rfl ?_
                  exact ih3 ((60 - x122_.toInt).toNat) (by omega) x122_ x120_ I121 hs121 hF121 (by omega) (by omega) (by first | (rw [show x122_.toInt.toNat = 0 by omega]; show _ = D 0 1; omega) | (rw [show x122_.toInt.toNat = x3_4.toInt.toNat + 1 by omega]; exact tf)) (by first | exact all_0 (P := fun j => (I lr j).toInt = Lp D (Gm D x1.toInt x2.toInt) (j + 1)) (q := 0) (by omega) | exact fillf_s (f := fun j => Lp D (Gm D x1.toInt x2.toInt) (j + 1)) (k := x3_4.toNatClampNeg) v3_3 eI121 (by have h9 := clampI (i := x3_4) (by omega); omega) (by rw [clx (i := x3_4) rfl (by omega)]; exact tf) (by omega)) rfl
                · refine r_iload_n hC dX10_fills_122 5 rfl ?_
                  refine r_iload hC dX10_fills_123 0 rfl ?_
                  refine r_iadd hC dX10_fills_125 (fun x123_ e123 => ?_)
                  try have t123 : x123_.toInt = x3_3.toInt + x118_.toInt := by rw [e123]; exact ti_add (by omega) (by omega)
                  refine r_goto hC (tgt := 133) dX10_fills_126 (by decide) ?_
                  refine r_istore_n hC (lv' := [(3, .int x123_), (6, .int x118_), (5, .int x2), (0, .ref a0), (1, .int x1), (2, .int x2), (4, .int x3_4)]) dX10_fills_133 (by decide) rfl ?_
                  have tf : x123_.toInt = Lp D (Gm D x1.toInt x2.toInt) (x3_4.toInt.toNat + 1) := by show _ = tw (D 0 2) (Gm D x1.toInt x2.toInt _) (Lp D (Gm D x1.toInt x2.toInt) _); first | exact tw_lt (by omega) (by omega) | exact tw_ge (by omega) (by omega)
                  refine r_aload_n hC dX10_fills_134 3 rfl ?_
                  refine r_getr hC 15 (ci := 10) rfl u10_in (by decide) mT_5_10 dX10_fills_135 ka0 rfl rfl hlr ?_
                  refine r_iload hC dX10_fills_138 6 rfl ?_
                  refine r_iload_n hC dX10_fills_140 0 rfl ?_
                  refine x_iastore hC klr llr (by decide) rfl rfl dX10_fills_141 (by omega) (by omega) (fun I124 eI124 => ?_)
                  have hs124 := hs3.put0 eI124 klr (rng_arr (by decide) _) rfl (xF_arr (by decide) _) (by decide)
                  have hF124 := hF3.put eI124 klr (inS_arr rfl _)
                  obtain ⟨x125_, e125⟩ : ∃ z : Int32, z = x3_4 + Int32.ofInt (1) := ⟨_, rfl⟩
                  refine r_iinc hC (j := 6) (v := x125_) (lv' := [(4, .int x125_), (3, .int x123_), (6, .int x118_), (5, .int x2), (0, .ref a0), (1, .int x1), (2, .int x2)]) dX10_fills_142 rfl (by rw [e125]) (by decide) rfl ?_
                  try have t125 : x125_.toInt = x3_4.toInt + (1) := by rw [e125]; exact (ti_add (b := Int32.ofInt (1)) (by show _ ≤ _ + (1 : Int); omega) (by show _ + (1 : Int) ≤ _; omega))
                  refine r_goto hC (tgt := 11) dX10_fills_145 (by decide) ?_
                  refine r_sub [4, 5, 6, 1, 0] rfl ?_
                  exact ih3 ((60 - x125_.toInt).toNat) (by omega) x125_ x123_ I124 hs124 hF124 (by omega) (by omega) (by first | (rw [show x125_.toInt.toNat = 0 by omega]; show _ = D 0 1; omega) | (rw [show x125_.toInt.toNat = x3_4.toInt.toNat + 1 by omega]; exact tf)) (by first | exact all_0 (P := fun j => (I lr j).toInt = Lp D (Gm D x1.toInt x2.toInt) (j + 1)) (q := 0) (by omega) | exact fillf_s (f := fun j => Lp D (Gm D x1.toInt x2.toInt) (j + 1)) (k := x3_4.toNatClampNeg) v3_3 eI124 (by have h9 := clampI (i := x3_4) (by omega); omega) (by rw [clx (i := x3_4) rfl (by omega)]; exact tf) (by omega)) rfl
          · refine r_aload_n hC dX10_fills_57 1 rfl ?_
            refine r_getr hC 3 (ci := 10) rfl u10_in (by decide) mT_4_238 dX10_fills_58 ka0 rfl rfl hbm ?_
            refine r_getiN hC 2 (ci := 9) rfl u9_in (by decide) nF_2 dX10_fills_61 khm rfl rfl (fun x126_ e126 => ?_)
            have f126 : x126_.toInt = (I3 hm 2).toInt := by rw [e126]
            have w126 : x126_ = x87_ := by rw [e126]; exact e87.symm
            have wt126 : x126_.toInt = x87_.toInt := by rw [w126]
            refine r_goto hC (tgt := 69) dX10_fills_64 (by decide) ?_
            refine r_istore hC (lv' := [(5, .int x126_), (0, .ref a0), (1, .int x1), (2, .int x2), (3, .int x3_3), (4, .int x3_4)]) dX10_fills_69 (by decide) rfl ?_
            have gb := Gm_b hJ (down := x1.toInt) (goal := x2.toInt) (d := x3_4.toInt.toNat) p0
            have lb := Lp_b hJ (G := (Gm D x1.toInt x2.toInt)) (fun d => Gm_b hJ p0) x3_4.toInt.toNat
            have d2 := hJ.2.2.2.2.1
            have gg : x126_.toInt = Gm D x1.toInt x2.toInt x3_4.toInt.toNat := by first | (rw [Gm_1 (by omega)]; omega) | (rw [Gm_2 (by omega) (by omega)]; omega)
            refine r_iload hC dX10_fills_71 0 rfl ?_
            refine r_iload_n hC dX10_fills_73 4 rfl ?_
            refine r_icmp_le hC (tgt := 84) dX10_fills_74 (by decide) (fun c127 => ?_) (fun c127 => ?_)
            · refine r_iload_n hC dX10_fills_84 4 rfl ?_
              refine r_iload hC dX10_fills_85 0 rfl ?_
              refine r_isub hC dX10_fills_87 (fun x128_ e128 => ?_)
              try have t128 : x128_.toInt = x3_3.toInt - x126_.toInt := by rw [e128]; exact ti_sub (by omega) (by omega)
              refine r_istore hC (lv' := [(6, .int x128_), (5, .int x126_), (0, .ref a0), (1, .int x1), (2, .int x2), (3, .int x3_3), (4, .int x3_4)]) dX10_fills_88 (by decide) rfl ?_
              refine r_iload hC dX10_fills_90 0 rfl ?_
              refine r_aload_n hC dX10_fills_92 2 rfl ?_
              refine r_getr hC 3 (ci := 10) rfl u10_in (by decide) mT_4_238 dX10_fills_93 ka0 rfl rfl hbm ?_
              refine r_getiN hC 1 (ci := 9) rfl u9_in (by decide) nF_1 dX10_fills_96 khm rfl rfl (fun x129_ e129 => ?_)
              have f129 : x129_.toInt = (I3 hm 1).toInt := by rw [e129]
              have w129 : x129_ = M1 := by rw [e129]; exact (Eq.trans (hF3.get khm rfl) eM1.symm)
              have wt129 : x129_.toInt = M1.toInt := by rw [w129]
              have h99 : I3 hm 1 = x129_ := e129.symm
              have h99t : (I3 hm 1).toInt = x129_.toInt := congrArg Int32.toInt h99
              refine r_icmp_le hC (tgt := 112) dX10_fills_99 (by decide) (fun c130 => ?_) (fun c130 => ?_)
              · refine r_iload hC dX10_fills_112 0 rfl ?_
                refine r_istore hC (lv' := [(6, .int x128_), (5, .int x126_), (0, .ref a0), (1, .int x1), (2, .int x2), (3, .int x3_3), (4, .int x3_4)]) dX10_fills_114 (by decide) rfl ?_
                refine r_iload hC dX10_fills_116 1 rfl ?_
                refine r_iload_n hC dX10_fills_118 5 rfl ?_
                refine r_icmp_le hC (tgt := 129) dX10_fills_119 (by decide) (fun c131 => ?_) (fun c131 => ?_)
                · refine r_iload_n hC dX10_fills_129 5 rfl ?_
                  refine r_iload hC dX10_fills_130 0 rfl ?_
                  refine r_isub hC dX10_fills_132 (fun x132_ e132 => ?_)
                  try have t132 : x132_.toInt = x3_3.toInt - x128_.toInt := by rw [e132]; exact ti_sub (by omega) (by omega)
                  refine r_istore_n hC (lv' := [(3, .int x132_), (6, .int x128_), (5, .int x126_), (0, .ref a0), (1, .int x1), (2, .int x2), (4, .int x3_4)]) dX10_fills_133 (by decide) rfl ?_
                  have tf : x132_.toInt = Lp D (Gm D x1.toInt x2.toInt) (x3_4.toInt.toNat + 1) := by show _ = tw (D 0 2) (Gm D x1.toInt x2.toInt _) (Lp D (Gm D x1.toInt x2.toInt) _); first | exact tw_lt (by omega) (by omega) | exact tw_ge (by omega) (by omega)
                  refine r_aload_n hC dX10_fills_134 3 rfl ?_
                  refine r_getr hC 15 (ci := 10) rfl u10_in (by decide) mT_5_10 dX10_fills_135 ka0 rfl rfl hlr ?_
                  refine r_iload hC dX10_fills_138 6 rfl ?_
                  refine r_iload_n hC dX10_fills_140 0 rfl ?_
                  refine x_iastore hC klr llr (by decide) rfl rfl dX10_fills_141 (by omega) (by omega) (fun I133 eI133 => ?_)
                  have hs133 := hs3.put0 eI133 klr (rng_arr (by decide) _) rfl (xF_arr (by decide) _) (by decide)
                  have hF133 := hF3.put eI133 klr (inS_arr rfl _)
                  obtain ⟨x134_, e134⟩ : ∃ z : Int32, z = x3_4 + Int32.ofInt (1) := ⟨_, rfl⟩
                  refine r_iinc hC (j := 6) (v := x134_) (lv' := [(4, .int x134_), (3, .int x132_), (6, .int x128_), (5, .int x126_), (0, .ref a0), (1, .int x1), (2, .int x2)]) dX10_fills_142 rfl (by rw [e134]) (by decide) rfl ?_
                  try have t134 : x134_.toInt = x3_4.toInt + (1) := by rw [e134]; exact (ti_add (b := Int32.ofInt (1)) (by show _ ≤ _ + (1 : Int); omega) (by show _ + (1 : Int) ≤ _; omega))
                  refine r_goto hC (tgt := 11) dX10_fills_145 (by decide) ?_
                  refine r_sub [4, 5, 6, 1, 0] rfl ?_
                  exact ih3 ((60 - x134_.toInt).toNat) (by omega) x134_ x132_ I133 hs133 hF133 (by omega) (by omega) (by first | (rw [show x134_.toInt.toNat = 0 by omega]; show _ = D 0 1; omega) | (rw [show x134_.toInt.toNat = x3_4.toInt.toNat + 1 by omega]; exact tf)) (by first | exact all_0 (P := fun j => (I lr j).toInt = Lp D (Gm D x1.toInt x2.toInt) (j + 1)) (q := 0) (by omega) | exact fillf_s (f := fun j => Lp D (Gm D x1.toInt x2.toInt) (j + 1)) (k := x3_4.toNatClampNeg) v3_3 eI133 (by have h9 := clampI (i := x3_4) (by omega); omega) (by rw [clx (i := x3_4) rfl (by omega)]; exact tf) (by omega)) rfl
                · refine r_iload_n hC dX10_fills_122 5 rfl ?_
                  refine r_iload hC dX10_fills_123 0 rfl ?_
                  refine r_iadd hC dX10_fills_125 (fun x135_ e135 => ?_)
                  try have t135 : x135_.toInt = x3_3.toInt + x128_.toInt := by rw [e135]; exact ti_add (by omega) (by omega)
                  refine r_goto hC (tgt := 133) dX10_fills_126 (by decide) ?_
                  refine r_istore_n hC (lv' := [(3, .int x135_), (6, .int x128_), (5, .int x126_), (0, .ref a0), (1, .int x1), (2, .int x2), (4, .int x3_4)]) dX10_fills_133 (by decide) rfl ?_
                  have tf : x135_.toInt = Lp D (Gm D x1.toInt x2.toInt) (x3_4.toInt.toNat + 1) := by show _ = tw (D 0 2) (Gm D x1.toInt x2.toInt _) (Lp D (Gm D x1.toInt x2.toInt) _); first | exact tw_lt (by omega) (by omega) | exact tw_ge (by omega) (by omega)
                  refine r_aload_n hC dX10_fills_134 3 rfl ?_
                  refine r_getr hC 15 (ci := 10) rfl u10_in (by decide) mT_5_10 dX10_fills_135 ka0 rfl rfl hlr ?_
                  refine r_iload hC dX10_fills_138 6 rfl ?_
                  refine r_iload_n hC dX10_fills_140 0 rfl ?_
                  refine x_iastore hC klr llr (by decide) rfl rfl dX10_fills_141 (by omega) (by omega) (fun I136 eI136 => ?_)
                  have hs136 := hs3.put0 eI136 klr (rng_arr (by decide) _) rfl (xF_arr (by decide) _) (by decide)
                  have hF136 := hF3.put eI136 klr (inS_arr rfl _)
                  obtain ⟨x137_, e137⟩ : ∃ z : Int32, z = x3_4 + Int32.ofInt (1) := ⟨_, rfl⟩
                  refine r_iinc hC (j := 6) (v := x137_) (lv' := [(4, .int x137_), (3, .int x135_), (6, .int x128_), (5, .int x126_), (0, .ref a0), (1, .int x1), (2, .int x2)]) dX10_fills_142 rfl (by rw [e137]) (by decide) rfl ?_
                  try have t137 : x137_.toInt = x3_4.toInt + (1) := by rw [e137]; exact (ti_add (b := Int32.ofInt (1)) (by show _ ≤ _ + (1 : Int); omega) (by show _ + (1 : Int) ≤ _; omega))
                  refine r_goto hC (tgt := 11) dX10_fills_145 (by decide) ?_
                  refine r_sub [4, 5, 6, 1, 0] rfl ?_
                  exact ih3 ((60 - x137_.toInt).toNat) (by omega) x137_ x135_ I136 hs136 hF136 (by omega) (by omega) (by first | (rw [show x137_.toInt.toNat = 0 by omega]; show _ = D 0 1; omega) | (rw [show x137_.toInt.toNat = x3_4.toInt.toNat + 1 by omega]; exact tf)) (by first | exact all_0 (P := fun j => (I lr j).toInt = Lp D (Gm D x1.toInt x2.toInt) (j + 1)) (q := 0) (by omega) | exact fillf_s (f := fun j => Lp D (Gm D x1.toInt x2.toInt) (j + 1)) (k := x3_4.toNatClampNeg) v3_3 eI136 (by have h9 := clampI (i := x3_4) (by omega); omega) (by rw [clx (i := x3_4) rfl (by omega)]; exact tf) (by omega)) rfl
              · refine r_aload_n hC dX10_fills_102 2 rfl ?_
                refine r_getr hC 3 (ci := 10) rfl u10_in (by decide) mT_4_238 dX10_fills_103 ka0 rfl rfl hbm ?_
                refine r_getiN hC 1 (ci := 9) rfl u9_in (by decide) nF_1 dX10_fills_106 khm rfl rfl (fun x138_ e138 => ?_)
                have f138 : x138_.toInt = (I3 hm 1).toInt := by rw [e138]
                have w138 : x138_ = x129_ := by rw [e138]; exact e129.symm
                have wt138 : x138_.toInt = x129_.toInt := by rw [w138]
                refine r_goto hC (tgt := 114) dX10_fills_109 (by decide) ?_
                refine r_istore hC (lv' := [(6, .int x138_), (5, .int x126_), (0, .ref a0), (1, .int x1), (2, .int x2), (3, .int x3_3), (4, .int x3_4)]) dX10_fills_114 (by decide) rfl ?_
                refine r_iload hC dX10_fills_116 1 rfl ?_
                refine r_iload_n hC dX10_fills_118 5 rfl ?_
                refine r_icmp_le hC (tgt := 129) dX10_fills_119 (by decide) (fun c139 => ?_) (fun c139 => ?_)
                · refine r_iload_n hC dX10_fills_129 5 rfl ?_
                  refine r_iload hC dX10_fills_130 0 rfl ?_
                  refine r_isub hC dX10_fills_132 (fun x140_ e140 => ?_)
                  try have t140 : x140_.toInt = x3_3.toInt - x138_.toInt := by rw [e140]; exact ti_sub (by omega) (by omega)
                  refine r_istore_n hC (lv' := [(3, .int x140_), (6, .int x138_), (5, .int x126_), (0, .ref a0), (1, .int x1), (2, .int x2), (4, .int x3_4)]) dX10_fills_133 (by decide) rfl ?_
                  have tf : x140_.toInt = Lp D (Gm D x1.toInt x2.toInt) (x3_4.toInt.toNat + 1) := by show _ = tw (D 0 2) (Gm D x1.toInt x2.toInt _) (Lp D (Gm D x1.toInt x2.toInt) _); first | exact tw_lt (by omega) (by omega) | exact tw_ge (by omega) (by omega)
                  refine r_aload_n hC dX10_fills_134 3 rfl ?_
                  refine r_getr hC 15 (ci := 10) rfl u10_in (by decide) mT_5_10 dX10_fills_135 ka0 rfl rfl hlr ?_
                  refine r_iload hC dX10_fills_138 6 rfl ?_
                  refine r_iload_n hC dX10_fills_140 0 rfl ?_
                  refine x_iastore hC klr llr (by decide) rfl rfl dX10_fills_141 (by omega) (by omega) (fun I141 eI141 => ?_)
                  have hs141 := hs3.put0 eI141 klr (rng_arr (by decide) _) rfl (xF_arr (by decide) _) (by decide)
                  have hF141 := hF3.put eI141 klr (inS_arr rfl _)
                  obtain ⟨x142_, e142⟩ : ∃ z : Int32, z = x3_4 + Int32.ofInt (1) := ⟨_, rfl⟩
                  refine r_iinc hC (j := 6) (v := x142_) (lv' := [(4, .int x142_), (3, .int x140_), (6, .int x138_), (5, .int x126_), (0, .ref a0), (1, .int x1), (2, .int x2)]) dX10_fills_142 rfl (by rw [e142]) (by decide) rfl ?_
                  try have t142 : x142_.toInt = x3_4.toInt + (1) := by rw [e142]; exact (ti_add (b := Int32.ofInt (1)) (by show _ ≤ _ + (1 : Int); omega) (by show _ + (1 : Int) ≤ _; omega))
                  refine r_goto hC (tgt := 11) dX10_fills_145 (by decide) ?_
                  refine r_sub [4, 5, 6, 1, 0] rfl ?_
                  exact ih3 ((60 - x142_.toInt).toNat) (by omega) x142_ x140_ I141 hs141 hF141 (by omega) (by omega) (by first | (rw [show x142_.toInt.toNat = 0 by omega]; show _ = D 0 1; omega) | (rw [show x142_.toInt.toNat = x3_4.toInt.toNat + 1 by omega]; exact tf)) (by first | exact all_0 (P := fun j => (I lr j).toInt = Lp D (Gm D x1.toInt x2.toInt) (j + 1)) (q := 0) (by omega) | exact fillf_s (f := fun j => Lp D (Gm D x1.toInt x2.toInt) (j + 1)) (k := x3_4.toNatClampNeg) v3_3 eI141 (by have h9 := clampI (i := x3_4) (by omega); omega) (by rw [clx (i := x3_4) rfl (by omega)]; exact tf) (by omega)) rfl
                · refine r_iload_n hC dX10_fills_122 5 rfl ?_
                  refine r_iload hC dX10_fills_123 0 rfl ?_
                  refine r_iadd hC dX10_fills_125 (fun x143_ e143 => ?_)
                  try have t143 : x143_.toInt = x3_3.toInt + x138_.toInt := by rw [e143]; exact ti_add (by omega) (by omega)
                  refine r_goto hC (tgt := 133) dX10_fills_126 (by decide) ?_
                  refine r_istore_n hC (lv' := [(3, .int x143_), (6, .int x138_), (5, .int x126_), (0, .ref a0), (1, .int x1), (2, .int x2), (4, .int x3_4)]) dX10_fills_133 (by decide) rfl ?_
                  have tf : x143_.toInt = Lp D (Gm D x1.toInt x2.toInt) (x3_4.toInt.toNat + 1) := by show _ = tw (D 0 2) (Gm D x1.toInt x2.toInt _) (Lp D (Gm D x1.toInt x2.toInt) _); first | exact tw_lt (by omega) (by omega) | exact tw_ge (by omega) (by omega)
                  refine r_aload_n hC dX10_fills_134 3 rfl ?_
                  refine r_getr hC 15 (ci := 10) rfl u10_in (by decide) mT_5_10 dX10_fills_135 ka0 rfl rfl hlr ?_
                  refine r_iload hC dX10_fills_138 6 rfl ?_
                  refine r_iload_n hC dX10_fills_140 0 rfl ?_
                  refine x_iastore hC klr llr (by decide) rfl rfl dX10_fills_141 (by omega) (by omega) (fun I144 eI144 => ?_)
                  have hs144 := hs3.put0 eI144 klr (rng_arr (by decide) _) rfl (xF_arr (by decide) _) (by decide)
                  have hF144 := hF3.put eI144 klr (inS_arr rfl _)
                  obtain ⟨x145_, e145⟩ : ∃ z : Int32, z = x3_4 + Int32.ofInt (1) := ⟨_, rfl⟩
                  refine r_iinc hC (j := 6) (v := x145_) (lv' := [(4, .int x145_), (3, .int x143_), (6, .int x138_), (5, .int x126_), (0, .ref a0), (1, .int x1), (2, .int x2)]) dX10_fills_142 rfl (by rw [e145]) (by decide) rfl ?_
                  try have t145 : x145_.toInt = x3_4.toInt + (1) := by rw [e145]; exact (ti_add (b := Int32.ofInt (1)) (by show _ ≤ _ + (1 : Int); omega) (by show _ + (1 : Int) ≤ _; omega))
                  refine r_goto hC (tgt := 11) dX10_fills_145 (by decide) ?_
                  refine r_sub [4, 5, 6, 1, 0] rfl ?_
                  exact ih3 ((60 - x145_.toInt).toNat) (by omega) x145_ x143_ I144 hs144 hF144 (by omega) (by omega) (by first | (rw [show x145_.toInt.toNat = 0 by omega]; show _ = D 0 1; omega) | (rw [show x145_.toInt.toNat = x3_4.toInt.toNat + 1 by omega]; exact tf)) (by first | exact all_0 (P := fun j => (I lr j).toInt = Lp D (Gm D x1.toInt x2.toInt) (j + 1)) (q := 0) (by omega) | exact fillf_s (f := fun j => Lp D (Gm D x1.toInt x2.toInt) (j + 1)) (k := x3_4.toNatClampNeg) v3_3 eI144 (by have h9 := clampI (i := x3_4) (by omega); omega) (by rw [clx (i := x3_4) rfl (by omega)]; exact tf) (by omega)) rfl
            · refine r_iload hC dX10_fills_77 0 rfl ?_
              refine r_iload_n hC dX10_fills_79 4 rfl ?_
              refine r_isub hC dX10_fills_80 (fun x146_ e146 => ?_)
              try have t146 : x146_.toInt = x126_.toInt - x3_3.toInt := by rw [e146]; exact ti_sub (by omega) (by omega)
              refine r_goto hC (tgt := 88) dX10_fills_81 (by decide) ?_
              refine r_istore hC (lv' := [(6, .int x146_), (5, .int x126_), (0, .ref a0), (1, .int x1), (2, .int x2), (3, .int x3_3), (4, .int x3_4)]) dX10_fills_88 (by decide) rfl ?_
              refine r_iload hC dX10_fills_90 0 rfl ?_
              refine r_aload_n hC dX10_fills_92 2 rfl ?_
              refine r_getr hC 3 (ci := 10) rfl u10_in (by decide) mT_4_238 dX10_fills_93 ka0 rfl rfl hbm ?_
              refine r_getiN hC 1 (ci := 9) rfl u9_in (by decide) nF_1 dX10_fills_96 khm rfl rfl (fun x147_ e147 => ?_)
              have f147 : x147_.toInt = (I3 hm 1).toInt := by rw [e147]
              have w147 : x147_ = M1 := by rw [e147]; exact (Eq.trans (hF3.get khm rfl) eM1.symm)
              have wt147 : x147_.toInt = M1.toInt := by rw [w147]
              have h99 : I3 hm 1 = x147_ := e147.symm
              have h99t : (I3 hm 1).toInt = x147_.toInt := congrArg Int32.toInt h99
              refine r_icmp_le hC (tgt := 112) dX10_fills_99 (by decide) (fun c148 => ?_) (fun c148 => ?_)
              · refine r_iload hC dX10_fills_112 0 rfl ?_
                refine r_istore hC (lv' := [(6, .int x146_), (5, .int x126_), (0, .ref a0), (1, .int x1), (2, .int x2), (3, .int x3_3), (4, .int x3_4)]) dX10_fills_114 (by decide) rfl ?_
                refine r_iload hC dX10_fills_116 1 rfl ?_
                refine r_iload_n hC dX10_fills_118 5 rfl ?_
                refine r_icmp_le hC (tgt := 129) dX10_fills_119 (by decide) (fun c149 => ?_) (fun c149 => ?_)
                · refine r_iload_n hC dX10_fills_129 5 rfl ?_
                  refine r_iload hC dX10_fills_130 0 rfl ?_
                  refine r_isub hC dX10_fills_132 (fun x150_ e150 => ?_)
                  try have t150 : x150_.toInt = x3_3.toInt - x146_.toInt := by rw [e150]; exact ti_sub (by omega) (by omega)
                  refine r_istore_n hC (lv' := [(3, .int x150_), (6, .int x146_), (5, .int x126_), (0, .ref a0), (1, .int x1), (2, .int x2), (4, .int x3_4)]) dX10_fills_133 (by decide) rfl ?_
                  have tf : x150_.toInt = Lp D (Gm D x1.toInt x2.toInt) (x3_4.toInt.toNat + 1) := by show _ = tw (D 0 2) (Gm D x1.toInt x2.toInt _) (Lp D (Gm D x1.toInt x2.toInt) _); first | exact tw_lt (by omega) (by omega) | exact tw_ge (by omega) (by omega)
                  refine r_aload_n hC dX10_fills_134 3 rfl ?_
                  refine r_getr hC 15 (ci := 10) rfl u10_in (by decide) mT_5_10 dX10_fills_135 ka0 rfl rfl hlr ?_
                  refine r_iload hC dX10_fills_138 6 rfl ?_
                  refine r_iload_n hC dX10_fills_140 0 rfl ?_
                  refine x_iastore hC klr llr (by decide) rfl rfl dX10_fills_141 (by omega) (by omega) (fun I151 eI151 => ?_)
                  have hs151 := hs3.put0 eI151 klr (rng_arr (by decide) _) rfl (xF_arr (by decide) _) (by decide)
                  have hF151 := hF3.put eI151 klr (inS_arr rfl _)
                  obtain ⟨x152_, e152⟩ : ∃ z : Int32, z = x3_4 + Int32.ofInt (1) := ⟨_, rfl⟩
                  refine r_iinc hC (j := 6) (v := x152_) (lv' := [(4, .int x152_), (3, .int x150_), (6, .int x146_), (5, .int x126_), (0, .ref a0), (1, .int x1), (2, .int x2)]) dX10_fills_142 rfl (by rw [e152]) (by decide) rfl ?_
                  try have t152 : x152_.toInt = x3_4.toInt + (1) := by rw [e152]; exact (ti_add (b := Int32.ofInt (1)) (by show _ ≤ _ + (1 : Int); omega) (by show _ + (1 : Int) ≤ _; omega))
                  refine r_goto hC (tgt := 11) dX10_fills_145 (by decide) ?_
                  refine r_sub [4, 5, 6, 1, 0] rfl ?_
                  exact ih3 ((60 - x152_.toInt).toNat) (by omega) x152_ x150_ I151 hs151 hF151 (by omega) (by omega) (by first | (rw [show x152_.toInt.toNat = 0 by omega]; show _ = D 0 1; omega) | (rw [show x152_.toInt.toNat = x3_4.toInt.toNat + 1 by omega]; exact tf)) (by first | exact all_0 (P := fun j => (I lr j).toInt = Lp D (Gm D x1.toInt x2.toInt) (j + 1)) (q := 0) (by omega) | exact fillf_s (f := fun j => Lp D (Gm D x1.toInt x2.toInt) (j + 1)) (k := x3_4.toNatClampNeg) v3_3 eI151 (by have h9 := clampI (i := x3_4) (by omega); omega) (by rw [clx (i := x3_4) rfl (by omega)]; exact tf) (by omega)) rfl
                · refine r_iload_n hC dX10_fills_122 5 rfl ?_
                  refine r_iload hC dX10_fills_123 0 rfl ?_
                  refine r_iadd hC dX10_fills_125 (fun x153_ e153 => ?_)
                  try have t153 : x153_.toInt = x3_3.toInt + x146_.toInt := by rw [e153]; exact ti_add (by omega) (by omega)
                  refine r_goto hC (tgt := 133) dX10_fills_126 (by decide) ?_
                  refine r_istore_n hC (lv' := [(3, .int x153_), (6, .int x146_), (5, .int x126_), (0, .ref a0), (1, .int x1), (2, .int x2), (4, .int x3_4)]) dX10_fills_133 (by decide) rfl ?_
                  have tf : x153_.toInt = Lp D (Gm D x1.toInt x2.toInt) (x3_4.toInt.toNat + 1) := by show _ = tw (D 0 2) (Gm D x1.toInt x2.toInt _) (Lp D (Gm D x1.toInt x2.toInt) _); first | exact tw_lt (by omega) (by omega) | exact tw_ge (by omega) (by omega)
                  refine r_aload_n hC dX10_fills_134 3 rfl ?_
                  refine r_getr hC 15 (ci := 10) rfl u10_in (by decide) mT_5_10 dX10_fills_135 ka0 rfl rfl hlr ?_
                  refine r_iload hC dX10_fills_138 6 rfl ?_
                  refine r_iload_n hC dX10_fills_140 0 rfl ?_
                  refine x_iastore hC klr llr (by decide) rfl rfl dX10_fills_141 (by omega) (by omega) (fun I154 eI154 => ?_)
                  have hs154 := hs3.put0 eI154 klr (rng_arr (by decide) _) rfl (xF_arr (by decide) _) (by decide)
                  have hF154 := hF3.put eI154 klr (inS_arr rfl _)
                  obtain ⟨x155_, e155⟩ : ∃ z : Int32, z = x3_4 + Int32.ofInt (1) := ⟨_, rfl⟩
                  refine r_iinc hC (j := 6) (v := x155_) (lv' := [(4, .int x155_), (3, .int x153_), (6, .int x146_), (5, .int x126_), (0, .ref a0), (1, .int x1), (2, .int x2)]) dX10_fills_142 rfl (by rw [e155]) (by decide) rfl ?_
                  try have t155 : x155_.toInt = x3_4.toInt + (1) := by rw [e155]; exact (ti_add (b := Int32.ofInt (1)) (by show _ ≤ _ + (1 : Int); omega) (by show _ + (1 : Int) ≤ _; omega))
                  refine r_goto hC (tgt := 11) dX10_fills_145 (by decide) ?_
                  refine r_sub [4, 5, 6, 1, 0] rfl ?_
                  exact ih3 ((60 - x155_.toInt).toNat) (by omega) x155_ x153_ I154 hs154 hF154 (by omega) (by omega) (by first | (rw [show x155_.toInt.toNat = 0 by omega]; show _ = D 0 1; omega) | (rw [show x155_.toInt.toNat = x3_4.toInt.toNat + 1 by omega]; exact tf)) (by first | exact all_0 (P := fun j => (I lr j).toInt = Lp D (Gm D x1.toInt x2.toInt) (j + 1)) (q := 0) (by omega) | exact fillf_s (f := fun j => Lp D (Gm D x1.toInt x2.toInt) (j + 1)) (k := x3_4.toNatClampNeg) v3_3 eI154 (by have h9 := clampI (i := x3_4) (by omega); omega) (by rw [clx (i := x3_4) rfl (by omega)]; exact tf) (by omega)) rfl
              · refine r_aload_n hC dX10_fills_102 2 rfl ?_
                refine r_getr hC 3 (ci := 10) rfl u10_in (by decide) mT_4_238 dX10_fills_103 ka0 rfl rfl hbm ?_
                refine r_getiN hC 1 (ci := 9) rfl u9_in (by decide) nF_1 dX10_fills_106 khm rfl rfl (fun x156_ e156 => ?_)
                have f156 : x156_.toInt = (I3 hm 1).toInt := by rw [e156]
                have w156 : x156_ = x147_ := by rw [e156]; exact e147.symm
                have wt156 : x156_.toInt = x147_.toInt := by rw [w156]
                refine r_goto hC (tgt := 114) dX10_fills_109 (by decide) ?_
                refine r_istore hC (lv' := [(6, .int x156_), (5, .int x126_), (0, .ref a0), (1, .int x1), (2, .int x2), (3, .int x3_3), (4, .int x3_4)]) dX10_fills_114 (by decide) rfl ?_
                refine r_iload hC dX10_fills_116 1 rfl ?_
                refine r_iload_n hC dX10_fills_118 5 rfl ?_
                refine r_icmp_le hC (tgt := 129) dX10_fills_119 (by decide) (fun c157 => ?_) (fun c157 => ?_)
                · refine r_iload_n hC dX10_fills_129 5 rfl ?_
                  refine r_iload hC dX10_fills_130 0 rfl ?_
                  refine r_isub hC dX10_fills_132 (fun x158_ e158 => ?_)
                  try have t158 : x158_.toInt = x3_3.toInt - x156_.toInt := by rw [e158]; exact ti_sub (by omega) (by omega)
                  refine r_istore_n hC (lv' := [(3, .int x158_), (6, .int x156_), (5, .int x126_), (0, .ref a0), (1, .int x1), (2, .int x2), (4, .int x3_4)]) dX10_fills_133 (by decide) rfl ?_
                  have tf : x158_.toInt = Lp D (Gm D x1.toInt x2.toInt) (x3_4.toInt.toNat + 1) := by show _ = tw (D 0 2) (Gm D x1.toInt x2.toInt _) (Lp D (Gm D x1.toInt x2.toInt) _); first | exact tw_lt (by omega) (by omega) | exact tw_ge (by omega) (by omega)
                  refine r_aload_n hC dX10_fills_134 3 rfl ?_
                  refine r_getr hC 15 (ci := 10) rfl u10_in (by decide) mT_5_10 dX10_fills_135 ka0 rfl rfl hlr ?_
                  refine r_iload hC dX10_fills_138 6 rfl ?_
                  refine r_iload_n hC dX10_fills_140 0 rfl ?_
                  refine x_iastore hC klr llr (by decide) rfl rfl dX10_fills_141 (by omega) (by omega) (fun I159 eI159 => ?_)
                  have hs159 := hs3.put0 eI159 klr (rng_arr (by decide) _) rfl (xF_arr (by decide) _) (by decide)
                  have hF159 := hF3.put eI159 klr (inS_arr rfl _)
                  obtain ⟨x160_, e160⟩ : ∃ z : Int32, z = x3_4 + Int32.ofInt (1) := ⟨_, rfl⟩
                  refine r_iinc hC (j := 6) (v := x160_) (lv' := [(4, .int x160_), (3, .int x158_), (6, .int x156_), (5, .int x126_), (0, .ref a0), (1, .int x1), (2, .int x2)]) dX10_fills_142 rfl (by rw [e160]) (by decide) rfl ?_
                  try have t160 : x160_.toInt = x3_4.toInt + (1) := by rw [e160]; exact (ti_add (b := Int32.ofInt (1)) (by show _ ≤ _ + (1 : Int); omega) (by show _ + (1 : Int) ≤ _; omega))
                  refine r_goto hC (tgt := 11) dX10_fills_145 (by decide) ?_
                  refine r_sub [4, 5, 6, 1, 0] rfl ?_
                  exact ih3 ((60 - x160_.toInt).toNat) (by omega) x160_ x158_ I159 hs159 hF159 (by omega) (by omega) (by first | (rw [show x160_.toInt.toNat = 0 by omega]; show _ = D 0 1; omega) | (rw [show x160_.toInt.toNat = x3_4.toInt.toNat + 1 by omega]; exact tf)) (by first | exact all_0 (P := fun j => (I lr j).toInt = Lp D (Gm D x1.toInt x2.toInt) (j + 1)) (q := 0) (by omega) | exact fillf_s (f := fun j => Lp D (Gm D x1.toInt x2.toInt) (j + 1)) (k := x3_4.toNatClampNeg) v3_3 eI159 (by have h9 := clampI (i := x3_4) (by omega); omega) (by rw [clx (i := x3_4) rfl (by omega)]; exact tf) (by omega)) rfl
                · refine r_iload_n hC dX10_fills_122 5 rfl ?_
                  refine r_iload hC dX10_fills_123 0 rfl ?_
                  refine r_iadd hC dX10_fills_125 (fun x161_ e161 => ?_)
                  try have t161 : x161_.toInt = x3_3.toInt + x156_.toInt := by rw [e161]; exact ti_add (by omega) (by omega)
                  refine r_goto hC (tgt := 133) dX10_fills_126 (by decide) ?_
                  refine r_istore_n hC (lv' := [(3, .int x161_), (6, .int x156_), (5, .int x126_), (0, .ref a0), (1, .int x1), (2, .int x2), (4, .int x3_4)]) dX10_fills_133 (by decide) rfl ?_
                  have tf : x161_.toInt = Lp D (Gm D x1.toInt x2.toInt) (x3_4.toInt.toNat + 1) := by show _ = tw (D 0 2) (Gm D x1.toInt x2.toInt _) (Lp D (Gm D x1.toInt x2.toInt) _); first | exact tw_lt (by omega) (by omega) | exact tw_ge (by omega) (by omega)
                  refine r_aload_n hC dX10_fills_134 3 rfl ?_
                  refine r_getr hC 15 (ci := 10) rfl u10_in (by decide) mT_5_10 dX10_fills_135 ka0 rfl rfl hlr ?_
                  refine r_iload hC dX10_fills_138 6 rfl ?_
                  refine r_iload_n hC dX10_fills_140 0 rfl ?_
                  refine x_iastore hC klr llr (by decide) rfl rfl dX10_fills_141 (by omega) (by omega) (fun I162 eI162 => ?_)
                  have hs162 := hs3.put0 eI162 klr (rng_arr (by decide) _) rfl (xF_arr (by decide) _) (by decide)
                  have hF162 := hF3.put eI162 klr (inS_arr rfl _)
                  obtain ⟨x163_, e163⟩ : ∃ z : Int32, z = x3_4 + Int32.ofInt (1) := ⟨_, rfl⟩
                  refine r_iinc hC (j := 6) (v := x163_) (lv' := [(4, .int x163_), (3, .int x161_), (6, .int x156_), (5, .int x126_), (0, .ref a0), (1, .int x1), (2, .int x2)]) dX10_fills_142 rfl (by rw [e163]) (by decide) rfl ?_
                  try have t163 : x163_.toInt = x3_4.toInt + (1) := by rw [e163]; exact (ti_add (b := Int32.ofInt (1)) (by show _ ≤ _ + (1 : Int); omega) (by show _ + (1 : Int) ≤ _; omega))
                  refine r_goto hC (tgt := 11) dX10_fills_145 (by decide) ?_
                  refine r_sub [4, 5, 6, 1, 0] rfl ?_
                  exact ih3 ((60 - x163_.toInt).toNat) (by omega) x163_ x161_ I162 hs162 hF162 (by omega) (by omega) (by first | (rw [show x163_.toInt.toNat = 0 by omega]; show _ = D 0 1; omega) | (rw [show x163_.toInt.toNat = x3_4.toInt.toNat + 1 by omega]; exact tf)) (by first | exact all_0 (P := fun j => (I lr j).toInt = Lp D (Gm D x1.toInt x2.toInt) (j + 1)) (q := 0) (by omega) | exact fillf_s (f := fun j => Lp D (Gm D x1.toInt x2.toInt) (j + 1)) (k := x3_4.toNatClampNeg) v3_3 eI162 (by have h9 := clampI (i := x3_4) (by omega); omega) (by rw [clx (i := x3_4) rfl (by omega)]; exact tf) (by omega)) rfl
      · refine r_iconst hC (v := (0)) dX10_fills_24 (by decide) (by decide) (fun x164_ e164 t164 => ?_)
        refine r_goto hC (tgt := 43) dX10_fills_25 (by decide) ?_
        refine r_istore hC (lv' := [(5, .int x164_), (0, .ref a0), (1, .int x1), (2, .int x2), (3, .int x3_3), (4, .int x3_4)]) dX10_fills_43 (by decide) rfl ?_
        refine r_iload hC dX10_fills_45 0 rfl ?_
        refine r_aload_n hC dX10_fills_47 1 rfl ?_
        refine r_getr hC 3 (ci := 10) rfl u10_in (by decide) mT_4_238 dX10_fills_48 ka0 rfl rfl hbm ?_
        refine r_getiN hC 2 (ci := 9) rfl u9_in (by decide) nF_2 dX10_fills_51 khm rfl rfl (fun x165_ e165 => ?_)
        have f165 : x165_.toInt = (I3 hm 2).toInt := by rw [e165]
        have w165 : x165_ = T2 := by rw [e165]; exact (Eq.trans (hF3.get khm rfl) eT2.symm)
        have wt165 : x165_.toInt = T2.toInt := by rw [w165]
        have h54 : I3 hm 2 = x165_ := e165.symm
        have h54t : (I3 hm 2).toInt = x165_.toInt := congrArg Int32.toInt h54
        refine r_icmp_le hC (tgt := 67) dX10_fills_54 (by decide) (fun c166 => ?_) (fun c166 => ?_)
        · refine r_iload hC dX10_fills_67 0 rfl ?_
          refine r_istore hC (lv' := [(5, .int x164_), (0, .ref a0), (1, .int x1), (2, .int x2), (3, .int x3_3), (4, .int x3_4)]) dX10_fills_69 (by decide) rfl ?_
          have gb := Gm_b hJ (down := x1.toInt) (goal := x2.toInt) (d := x3_4.toInt.toNat) p0
          have lb := Lp_b hJ (G := (Gm D x1.toInt x2.toInt)) (fun d => Gm_b hJ p0) x3_4.toInt.toNat
          have d2 := hJ.2.2.2.2.1
          have gg : x164_.toInt = Gm D x1.toInt x2.toInt x3_4.toInt.toNat := by first | (rw [Gm_1 (by omega)]; omega) | (rw [Gm_2 (by omega) (by omega)]; omega)
          refine r_iload hC dX10_fills_71 0 rfl ?_
          refine r_iload_n hC dX10_fills_73 4 rfl ?_
          refine r_icmp_le hC (tgt := 84) dX10_fills_74 (by decide) (fun c167 => ?_) (fun c167 => ?_)
          · refine r_iload_n hC dX10_fills_84 4 rfl ?_
            refine r_iload hC dX10_fills_85 0 rfl ?_
            refine r_isub hC dX10_fills_87 (fun x168_ e168 => ?_)
            try have t168 : x168_.toInt = x3_3.toInt - x164_.toInt := by rw [e168]; exact ti_sub (by omega) (by omega)
            refine r_istore hC (lv' := [(6, .int x168_), (5, .int x164_), (0, .ref a0), (1, .int x1), (2, .int x2), (3, .int x3_3), (4, .int x3_4)]) dX10_fills_88 (by decide) rfl ?_
            refine r_iload hC dX10_fills_90 0 rfl ?_
            refine r_aload_n hC dX10_fills_92 2 rfl ?_
            refine r_getr hC 3 (ci := 10) rfl u10_in (by decide) mT_4_238 dX10_fills_93 ka0 rfl rfl hbm ?_
            refine r_getiN hC 1 (ci := 9) rfl u9_in (by decide) nF_1 dX10_fills_96 khm rfl rfl (fun x169_ e169 => ?_)
            have f169 : x169_.toInt = (I3 hm 1).toInt := by rw [e169]
            have w169 : x169_ = M1 := by rw [e169]; exact (Eq.trans (hF3.get khm rfl) eM1.symm)
            have wt169 : x169_.toInt = M1.toInt := by rw [w169]
            have h99 : I3 hm 1 = x169_ := e169.symm
            have h99t : (I3 hm 1).toInt = x169_.toInt := congrArg Int32.toInt h99
            refine r_icmp_le hC (tgt := 112) dX10_fills_99 (by decide) (fun c170 => ?_) (fun c170 => ?_)
            · refine r_iload hC dX10_fills_112 0 rfl ?_
              refine r_istore hC (lv' := [(6, .int x168_), (5, .int x164_), (0, .ref a0), (1, .int x1), (2, .int x2), (3, .int x3_3), (4, .int x3_4)]) dX10_fills_114 (by decide) rfl ?_
              refine r_iload hC dX10_fills_116 1 rfl ?_
              refine r_iload_n hC dX10_fills_118 5 rfl ?_
              refine r_icmp_le hC (tgt := 129) dX10_fills_119 (by decide) (fun c171 => ?_) (fun c171 => ?_)
              · refine r_iload_n hC dX10_fills_129 5 rfl ?_
                refine r_iload hC dX10_fills_130 0 rfl ?_
                refine r_isub hC dX10_fills_132 (fun x172_ e172 => ?_)
                try have t172 : x172_.toInt = x3_3.toInt - x168_.toInt := by rw [e172]; exact ti_sub (by omega) (by omega)
                refine r_istore_n hC (lv' := [(3, .int x172_), (6, .int x168_), (5, .int x164_), (0, .ref a0), (1, .int x1), (2, .int x2), (4, .int x3_4)]) dX10_fills_133 (by decide) rfl ?_
                have tf : x172_.toInt = Lp D (Gm D x1.toInt x2.toInt) (x3_4.toInt.toNat + 1) := by show _ = tw (D 0 2) (Gm D x1.toInt x2.toInt _) (Lp D (Gm D x1.toInt x2.toInt) _); first | exact tw_lt (by omega) (by omega) | exact tw_ge (by omega) (by omega)
                refine r_aload_n hC dX10_fills_134 3 rfl ?_
                refine r_getr hC 15 (ci := 10) rfl u10_in (by decide) mT_5_10 dX10_fills_135 ka0 rfl rfl hlr ?_
                refine r_iload hC dX10_fills_138 6 rfl ?_
                refine r_iload_n hC dX10_fills_140 0 rfl ?_
                refine x_iastore hC klr llr (by decide) rfl rfl dX10_fills_141 (by omega) (by omega) (fun I173 eI173 => ?_)
                have hs173 := hs3.put0 eI173 klr (rng_arr (by decide) _) rfl (xF_arr (by decide) _) (by decide)
                have hF173 := hF3.put eI173 klr (inS_arr rfl _)
                obtain ⟨x174_, e174⟩ : ∃ z : Int32, z = x3_4 + Int32.ofInt (1) := ⟨_, rfl⟩
                refine r_iinc hC (j := 6) (v := x174_) (lv' := [(4, .int x174_), (3, .int x172_), (6, .int x168_), (5, .int x164_), (0, .ref a0), (1, .int x1), (2, .int x2)]) dX10_fills_142 rfl (by rw [e174]) (by decide) rfl ?_
                try have t174 : x174_.toInt = x3_4.toInt + (1) := by rw [e174]; exact (ti_add (b := Int32.ofInt (1)) (by show _ ≤ _ + (1 : Int); omega) (by show _ + (1 : Int) ≤ _; omega))
                refine r_goto hC (tgt := 11) dX10_fills_145 (by decide) ?_
                refine r_sub [4, 5, 6, 1, 0] rfl ?_
                exact ih3 ((60 - x174_.toInt).toNat) (by omega) x174_ x172_ I173 hs173 hF173 (by omega) (by omega) (by first | (rw [show x174_.toInt.toNat = 0 by omega]; show _ = D 0 1; omega) | (rw [show x174_.toInt.toNat = x3_4.toInt.toNat + 1 by omega]; exact tf)) (by first | exact all_0 (P := fun j => (I lr j).toInt = Lp D (Gm D x1.toInt x2.toInt) (j + 1)) (q := 0) (by omega) | exact fillf_s (f := fun j => Lp D (Gm D x1.toInt x2.toInt) (j + 1)) (k := x3_4.toNatClampNeg) v3_3 eI173 (by have h9 := clampI (i := x3_4) (by omega); omega) (by rw [clx (i := x3_4) rfl (by omega)]; exact tf) (by omega)) rfl
              · refine r_iload_n hC dX10_fills_122 5 rfl ?_
                refine r_iload hC dX10_fills_123 0 rfl ?_
                refine r_iadd hC dX10_fills_125 (fun x175_ e175 => ?_)
                try have t175 : x175_.toInt = x3_3.toInt + x168_.toInt := by rw [e175]; exact ti_add (by omega) (by omega)
                refine r_goto hC (tgt := 133) dX10_fills_126 (by decide) ?_
                refine r_istore_n hC (lv' := [(3, .int x175_), (6, .int x168_), (5, .int x164_), (0, .ref a0), (1, .int x1), (2, .int x2), (4, .int x3_4)]) dX10_fills_133 (by decide) rfl ?_
                have tf : x175_.toInt = Lp D (Gm D x1.toInt x2.toInt) (x3_4.toInt.toNat + 1) := by show _ = tw (D 0 2) (Gm D x1.toInt x2.toInt _) (Lp D (Gm D x1.toInt x2.toInt) _); first | exact tw_lt (by omega) (by omega) | exact tw_ge (by omega) (by omega)
                refine r_aload_n hC dX10_fills_134 3 rfl ?_
                refine r_getr hC 15 (ci := 10) rfl u10_in (by decide) mT_5_10 dX10_fills_135 ka0 rfl rfl hlr ?_
                refine r_iload hC dX10_fills_138 6 rfl ?_
                refine r_iload_n hC dX10_fills_140 0 rfl ?_
                refine x_iastore hC klr llr (by decide) rfl rfl dX10_fills_141 (by omega) (by omega) (fun I176 eI176 => ?_)
                have hs176 := hs3.put0 eI176 klr (rng_arr (by decide) _) rfl (xF_arr (by decide) _) (by decide)
                have hF176 := hF3.put eI176 klr (inS_arr rfl _)
                obtain ⟨x177_, e177⟩ : ∃ z : Int32, z = x3_4 + Int32.ofInt (1) := ⟨_, rfl⟩
                refine r_iinc hC (j := 6) (v := x177_) (lv' := [(4, .int x177_), (3, .int x175_), (6, .int x168_), (5, .int x164_), (0, .ref a0), (1, .int x1), (2, .int x2)]) dX10_fills_142 rfl (by rw [e177]) (by decide) rfl ?_
                try have t177 : x177_.toInt = x3_4.toInt + (1) := by rw [e177]; exact (ti_add (b := Int32.ofInt (1)) (by show _ ≤ _ + (1 : Int); omega) (by show _ + (1 : Int) ≤ _; omega))
                refine r_goto hC (tgt := 11) dX10_fills_145 (by decide) ?_
                refine r_sub [4, 5, 6, 1, 0] rfl ?_
                exact ih3 ((60 - x177_.toInt).toNat) (by omega) x177_ x175_ I176 hs176 hF176 (by omega) (by omega) (by first | (rw [show x177_.toInt.toNat = 0 by omega]; show _ = D 0 1; omega) | (rw [show x177_.toInt.toNat = x3_4.toInt.toNat + 1 by omega]; exact tf)) (by first | exact all_0 (P := fun j => (I lr j).toInt = Lp D (Gm D x1.toInt x2.toInt) (j + 1)) (q := 0) (by omega) | exact fillf_s (f := fun j => Lp D (Gm D x1.toInt x2.toInt) (j + 1)) (k := x3_4.toNatClampNeg) v3_3 eI176 (by have h9 := clampI (i := x3_4) (by omega); omega) (by rw [clx (i := x3_4) rfl (by omega)]; exact tf) (by omega)) rfl
            · refine r_aload_n hC dX10_fills_102 2 rfl ?_
              refine r_getr hC 3 (ci := 10) rfl u10_in (by decide) mT_4_238 dX10_fills_103 ka0 rfl rfl hbm ?_
              refine r_getiN hC 1 (ci := 9) rfl u9_in (by decide) nF_1 dX10_fills_106 khm rfl rfl (fun x178_ e178 => ?_)
              have f178 : x178_.toInt = (I3 hm 1).toInt := by rw [e178]
              have w178 : x178_ = x169_ := by rw [e178]; exact e169.symm
              have wt178 : x178_.toInt = x169_.toInt := by rw [w178]
              refine r_goto hC (tgt := 114) dX10_fills_109 (by decide) ?_
              refine r_istore hC (lv' := [(6, .int x178_), (5, .int x164_), (0, .ref a0), (1, .int x1), (2, .int x2), (3, .int x3_3), (4, .int x3_4)]) dX10_fills_114 (by decide) rfl ?_
              refine r_iload hC dX10_fills_116 1 rfl ?_
              refine r_iload_n hC dX10_fills_118 5 rfl ?_
              refine r_icmp_le hC (tgt := 129) dX10_fills_119 (by decide) (fun c179 => ?_) (fun c179 => ?_)
              · refine r_iload_n hC dX10_fills_129 5 rfl ?_
                refine r_iload hC dX10_fills_130 0 rfl ?_
                refine r_isub hC dX10_fills_132 (fun x180_ e180 => ?_)
                try have t180 : x180_.toInt = x3_3.toInt - x178_.toInt := by rw [e180]; exact ti_sub (by omega) (by omega)
                refine r_istore_n hC (lv' := [(3, .int x180_), (6, .int x178_), (5, .int x164_), (0, .ref a0), (1, .int x1), (2, .int x2), (4, .int x3_4)]) dX10_fills_133 (by decide) rfl ?_
                have tf : x180_.toInt = Lp D (Gm D x1.toInt x2.toInt) (x3_4.toInt.toNat + 1) := by show _ = tw (D 0 2) (Gm D x1.toInt x2.toInt _) (Lp D (Gm D x1.toInt x2.toInt) _); first | exact tw_lt (by omega) (by omega) | exact tw_ge (by omega) (by omega)
                refine r_aload_n hC dX10_fills_134 3 rfl ?_
                refine r_getr hC 15 (ci := 10) rfl u10_in (by decide) mT_5_10 dX10_fills_135 ka0 rfl rfl hlr ?_
                refine r_iload hC dX10_fills_138 6 rfl ?_
                refine r_iload_n hC dX10_fills_140 0 rfl ?_
                refine x_iastore hC klr llr (by decide) rfl rfl dX10_fills_141 (by omega) (by omega) (fun I181 eI181 => ?_)
                have hs181 := hs3.put0 eI181 klr (rng_arr (by decide) _) rfl (xF_arr (by decide) _) (by decide)
                have hF181 := hF3.put eI181 klr (inS_arr rfl _)
                obtain ⟨x182_, e182⟩ : ∃ z : Int32, z = x3_4 + Int32.ofInt (1) := ⟨_, rfl⟩
                refine r_iinc hC (j := 6) (v := x182_) (lv' := [(4, .int x182_), (3, .int x180_), (6, .int x178_), (5, .int x164_), (0, .ref a0), (1, .int x1), (2, .int x2)]) dX10_fills_142 rfl (by rw [e182]) (by decide) rfl ?_
                try have t182 : x182_.toInt = x3_4.toInt + (1) := by rw [e182]; exact (ti_add (b := Int32.ofInt (1)) (by show _ ≤ _ + (1 : Int); omega) (by show _ + (1 : Int) ≤ _; omega))
                refine r_goto hC (tgt := 11) dX10_fills_145 (by decide) ?_
                refine r_sub [4, 5, 6, 1, 0] rfl ?_
                exact ih3 ((60 - x182_.toInt).toNat) (by omega) x182_ x180_ I181 hs181 hF181 (by omega) (by omega) (by first | (rw [show x182_.toInt.toNat = 0 by omega]; show _ = D 0 1; omega) | (rw [show x182_.toInt.toNat = x3_4.toInt.toNat + 1 by omega]; exact tf)) (by first | exact all_0 (P := fun j => (I lr j).toInt = Lp D (Gm D x1.toInt x2.toInt) (j + 1)) (q := 0) (by omega) | exact fillf_s (f := fun j => Lp D (Gm D x1.toInt x2.toInt) (j + 1)) (k := x3_4.toNatClampNeg) v3_3 eI181 (by have h9 := clampI (i := x3_4) (by omega); omega) (by rw [clx (i := x3_4) rfl (by omega)]; exact tf) (by omega)) rfl
              · refine r_iload_n hC dX10_fills_122 5 rfl ?_
                refine r_iload hC dX10_fills_123 0 rfl ?_
                refine r_iadd hC dX10_fills_125 (fun x183_ e183 => ?_)
                try have t183 : x183_.toInt = x3_3.toInt + x178_.toInt := by rw [e183]; exact ti_add (by omega) (by omega)
                refine r_goto hC (tgt := 133) dX10_fills_126 (by decide) ?_
                refine r_istore_n hC (lv' := [(3, .int x183_), (6, .int x178_), (5, .int x164_), (0, .ref a0), (1, .int x1), (2, .int x2), (4, .int x3_4)]) dX10_fills_133 (by decide) rfl ?_
                have tf : x183_.toInt = Lp D (Gm D x1.toInt x2.toInt) (x3_4.toInt.toNat + 1) := by show _ = tw (D 0 2) (Gm D x1.toInt x2.toInt _) (Lp D (Gm D x1.toInt x2.toInt) _); first | exact tw_lt (by omega) (by omega) | exact tw_ge (by omega) (by omega)
                refine r_aload_n hC dX10_fills_134 3 rfl ?_
                refine r_getr hC 15 (ci := 10) rfl u10_in (by decide) mT_5_10 dX10_fills_135 ka0 rfl rfl hlr ?_
                refine r_iload hC dX10_fills_138 6 rfl ?_
                refine r_iload_n hC dX10_fills_140 0 rfl ?_
                refine x_iastore hC klr llr (by decide) rfl rfl dX10_fills_141 (by omega) (by omega) (fun I184 eI184 => ?_)
                have hs184 := hs3.put0 eI184 klr (rng_arr (by decide) _) rfl (xF_arr (by decide) _) (by decide)
                have hF184 := hF3.put eI184 klr (inS_arr rfl _)
                obtain ⟨x185_, e185⟩ : ∃ z : Int32, z = x3_4 + Int32.ofInt (1) := ⟨_, rfl⟩
                refine r_iinc hC (j := 6) (v := x185_) (lv' := [(4, .int x185_), (3, .int x183_), (6, .int x178_), (5, .int x164_), (0, .ref a0), (1, .int x1), (2, .int x2)]) dX10_fills_142 rfl (by rw [e185]) (by decide) rfl ?_
                try have t185 : x185_.toInt = x3_4.toInt + (1) := by rw [e185]; exact (ti_add (b := Int32.ofInt (1)) (by show _ ≤ _ + (1 : Int); omega) (by show _ + (1 : Int) ≤ _; omega))
                refine r_goto hC (tgt := 11) dX10_fills_145 (by decide) ?_
                refine r_sub [4, 5, 6, 1, 0] rfl ?_
                exact ih3 ((60 - x185_.toInt).toNat) (by omega) x185_ x183_ I184 hs184 hF184 (by omega) (by omega) (by first | (rw [show x185_.toInt.toNat = 0 by omega]; show _ = D 0 1; omega) | (rw [show x185_.toInt.toNat = x3_4.toInt.toNat + 1 by omega]; exact tf)) (by first | exact all_0 (P := fun j => (I lr j).toInt = Lp D (Gm D x1.toInt x2.toInt) (j + 1)) (q := 0) (by omega) | exact fillf_s (f := fun j => Lp D (Gm D x1.toInt x2.toInt) (j + 1)) (k := x3_4.toNatClampNeg) v3_3 eI184 (by have h9 := clampI (i := x3_4) (by omega); omega) (by rw [clx (i := x3_4) rfl (by omega)]; exact tf) (by omega)) rfl
          · refine r_iload hC dX10_fills_77 0 rfl ?_
            refine r_iload_n hC dX10_fills_79 4 rfl ?_
            refine r_isub hC dX10_fills_80 (fun x186_ e186 => ?_)
            try have t186 : x186_.toInt = x164_.toInt - x3_3.toInt := by rw [e186]; exact ti_sub (by omega) (by omega)
            refine r_goto hC (tgt := 88) dX10_fills_81 (by decide) ?_
            refine r_istore hC (lv' := [(6, .int x186_), (5, .int x164_), (0, .ref a0), (1, .int x1), (2, .int x2), (3, .int x3_3), (4, .int x3_4)]) dX10_fills_88 (by decide) rfl ?_
            refine r_iload hC dX10_fills_90 0 rfl ?_
            refine r_aload_n hC dX10_fills_92 2 rfl ?_
            refine r_getr hC 3 (ci := 10) rfl u10_in (by decide) mT_4_238 dX10_fills_93 ka0 rfl rfl hbm ?_
            refine r_getiN hC 1 (ci := 9) rfl u9_in (by decide) nF_1 dX10_fills_96 khm rfl rfl (fun x187_ e187 => ?_)
            have f187 : x187_.toInt = (I3 hm 1).toInt := by rw [e187]
            have w187 : x187_ = M1 := by rw [e187]; exact (Eq.trans (hF3.get khm rfl) eM1.symm)
            have wt187 : x187_.toInt = M1.toInt := by rw [w187]
            have h99 : I3 hm 1 = x187_ := e187.symm
            have h99t : (I3 hm 1).toInt = x187_.toInt := congrArg Int32.toInt h99
            refine r_icmp_le hC (tgt := 112) dX10_fills_99 (by decide) (fun c188 => ?_) (fun c188 => ?_)
            · refine r_iload hC dX10_fills_112 0 rfl ?_
              refine r_istore hC (lv' := [(6, .int x186_), (5, .int x164_), (0, .ref a0), (1, .int x1), (2, .int x2), (3, .int x3_3), (4, .int x3_4)]) dX10_fills_114 (by decide) rfl ?_
              refine r_iload hC dX10_fills_116 1 rfl ?_
              refine r_iload_n hC dX10_fills_118 5 rfl ?_
              refine r_icmp_le hC (tgt := 129) dX10_fills_119 (by decide) (fun c189 => ?_) (fun c189 => ?_)
              · refine r_iload_n hC dX10_fills_129 5 rfl ?_
                refine r_iload hC dX10_fills_130 0 rfl ?_
                refine r_isub hC dX10_fills_132 (fun x190_ e190 => ?_)
                try have t190 : x190_.toInt = x3_3.toInt - x186_.toInt := by rw [e190]; exact ti_sub (by omega) (by omega)
                refine r_istore_n hC (lv' := [(3, .int x190_), (6, .int x186_), (5, .int x164_), (0, .ref a0), (1, .int x1), (2, .int x2), (4, .int x3_4)]) dX10_fills_133 (by decide) rfl ?_
                have tf : x190_.toInt = Lp D (Gm D x1.toInt x2.toInt) (x3_4.toInt.toNat + 1) := by show _ = tw (D 0 2) (Gm D x1.toInt x2.toInt _) (Lp D (Gm D x1.toInt x2.toInt) _); first | exact tw_lt (by omega) (by omega) | exact tw_ge (by omega) (by omega)
                refine r_aload_n hC dX10_fills_134 3 rfl ?_
                refine r_getr hC 15 (ci := 10) rfl u10_in (by decide) mT_5_10 dX10_fills_135 ka0 rfl rfl hlr ?_
                refine r_iload hC dX10_fills_138 6 rfl ?_
                refine r_iload_n hC dX10_fills_140 0 rfl ?_
                refine x_iastore hC klr llr (by decide) rfl rfl dX10_fills_141 (by omega) (by omega) (fun I191 eI191 => ?_)
                have hs191 := hs3.put0 eI191 klr (rng_arr (by decide) _) rfl (xF_arr (by decide) _) (by decide)
                have hF191 := hF3.put eI191 klr (inS_arr rfl _)
                obtain ⟨x192_, e192⟩ : ∃ z : Int32, z = x3_4 + Int32.ofInt (1) := ⟨_, rfl⟩
                refine r_iinc hC (j := 6) (v := x192_) (lv' := [(4, .int x192_), (3, .int x190_), (6, .int x186_), (5, .int x164_), (0, .ref a0), (1, .int x1), (2, .int x2)]) dX10_fills_142 rfl (by rw [e192]) (by decide) rfl ?_
                try have t192 : x192_.toInt = x3_4.toInt + (1) := by rw [e192]; exact (ti_add (b := Int32.ofInt (1)) (by show _ ≤ _ + (1 : Int); omega) (by show _ + (1 : Int) ≤ _; omega))
                refine r_goto hC (tgt := 11) dX10_fills_145 (by decide) ?_
                refine r_sub [4, 5, 6, 1, 0] rfl ?_
                exact ih3 ((60 - x192_.toInt).toNat) (by omega) x192_ x190_ I191 hs191 hF191 (by omega) (by omega) (by first | (rw [show x192_.toInt.toNat = 0 by omega]; show _ = D 0 1; omega) | (rw [show x192_.toInt.toNat = x3_4.toInt.toNat + 1 by omega]; exact tf)) (by first | exact all_0 (P := fun j => (I lr j).toInt = Lp D (Gm D x1.toInt x2.toInt) (j + 1)) (q := 0) (by omega) | exact fillf_s (f := fun j => Lp D (Gm D x1.toInt x2.toInt) (j + 1)) (k := x3_4.toNatClampNeg) v3_3 eI191 (by have h9 := clampI (i := x3_4) (by omega); omega) (by rw [clx (i := x3_4) rfl (by omega)]; exact tf) (by omega)) rfl
              · refine r_iload_n hC dX10_fills_122 5 rfl ?_
                refine r_iload hC dX10_fills_123 0 rfl ?_
                refine r_iadd hC dX10_fills_125 (fun x193_ e193 => ?_)
                try have t193 : x193_.toInt = x3_3.toInt + x186_.toInt := by rw [e193]; exact ti_add (by omega) (by omega)
                refine r_goto hC (tgt := 133) dX10_fills_126 (by decide) ?_
                refine r_istore_n hC (lv' := [(3, .int x193_), (6, .int x186_), (5, .int x164_), (0, .ref a0), (1, .int x1), (2, .int x2), (4, .int x3_4)]) dX10_fills_133 (by decide) rfl ?_
                have tf : x193_.toInt = Lp D (Gm D x1.toInt x2.toInt) (x3_4.toInt.toNat + 1) := by show _ = tw (D 0 2) (Gm D x1.toInt x2.toInt _) (Lp D (Gm D x1.toInt x2.toInt) _); first | exact tw_lt (by omega) (by omega) | exact tw_ge (by omega) (by omega)
                refine r_aload_n hC dX10_fills_134 3 rfl ?_
                refine r_getr hC 15 (ci := 10) rfl u10_in (by decide) mT_5_10 dX10_fills_135 ka0 rfl rfl hlr ?_
                refine r_iload hC dX10_fills_138 6 rfl ?_
                refine r_iload_n hC dX10_fills_140 0 rfl ?_
                refine x_iastore hC klr llr (by decide) rfl rfl dX10_fills_141 (by omega) (by omega) (fun I194 eI194 => ?_)
                have hs194 := hs3.put0 eI194 klr (rng_arr (by decide) _) rfl (xF_arr (by decide) _) (by decide)
                have hF194 := hF3.put eI194 klr (inS_arr rfl _)
                obtain ⟨x195_, e195⟩ : ∃ z : Int32, z = x3_4 + Int32.ofInt (1) := ⟨_, rfl⟩
                refine r_iinc hC (j := 6) (v := x195_) (lv' := [(4, .int x195_), (3, .int x193_), (6, .int x186_), (5, .int x164_), (0, .ref a0), (1, .int x1), (2, .int x2)]) dX10_fills_142 rfl (by rw [e195]) (by decide) rfl ?_
                try have t195 : x195_.toInt = x3_4.toInt + (1) := by rw [e195]; exact (ti_add (b := Int32.ofInt (1)) (by show _ ≤ _ + (1 : Int); omega) (by show _ + (1 : Int) ≤ _; omega))
                refine r_goto hC (tgt := 11) dX10_fills_145 (by decide) ?_
                refine r_sub [4, 5, 6, 1, 0] rfl ?_
                exact ih3 ((60 - x195_.toInt).toNat) (by omega) x195_ x193_ I194 hs194 hF194 (by omega) (by omega) (by first | (rw [show x195_.toInt.toNat = 0 by omega]; show _ = D 0 1; omega) | (rw [show x195_.toInt.toNat = x3_4.toInt.toNat + 1 by omega]; exact tf)) (by first | exact all_0 (P := fun j => (I lr j).toInt = Lp D (Gm D x1.toInt x2.toInt) (j + 1)) (q := 0) (by omega) | exact fillf_s (f := fun j => Lp D (Gm D x1.toInt x2.toInt) (j + 1)) (k := x3_4.toNatClampNeg) v3_3 eI194 (by have h9 := clampI (i := x3_4) (by omega); omega) (by rw [clx (i := x3_4) rfl (by omega)]; exact tf) (by omega)) rfl
            · refine r_aload_n hC dX10_fills_102 2 rfl ?_
              refine r_getr hC 3 (ci := 10) rfl u10_in (by decide) mT_4_238 dX10_fills_103 ka0 rfl rfl hbm ?_
              refine r_getiN hC 1 (ci := 9) rfl u9_in (by decide) nF_1 dX10_fills_106 khm rfl rfl (fun x196_ e196 => ?_)
              have f196 : x196_.toInt = (I3 hm 1).toInt := by rw [e196]
              have w196 : x196_ = x187_ := by rw [e196]; exact e187.symm
              have wt196 : x196_.toInt = x187_.toInt := by rw [w196]
              refine r_goto hC (tgt := 114) dX10_fills_109 (by decide) ?_
              refine r_istore hC (lv' := [(6, .int x196_), (5, .int x164_), (0, .ref a0), (1, .int x1), (2, .int x2), (3, .int x3_3), (4, .int x3_4)]) dX10_fills_114 (by decide) rfl ?_
              refine r_iload hC dX10_fills_116 1 rfl ?_
              refine r_iload_n hC dX10_fills_118 5 rfl ?_
              refine r_icmp_le hC (tgt := 129) dX10_fills_119 (by decide) (fun c197 => ?_) (fun c197 => ?_)
              · refine r_iload_n hC dX10_fills_129 5 rfl ?_
                refine r_iload hC dX10_fills_130 0 rfl ?_
                refine r_isub hC dX10_fills_132 (fun x198_ e198 => ?_)
                try have t198 : x198_.toInt = x3_3.toInt - x196_.toInt := by rw [e198]; exact ti_sub (by omega) (by omega)
                refine r_istore_n hC (lv' := [(3, .int x198_), (6, .int x196_), (5, .int x164_), (0, .ref a0), (1, .int x1), (2, .int x2), (4, .int x3_4)]) dX10_fills_133 (by decide) rfl ?_
                have tf : x198_.toInt = Lp D (Gm D x1.toInt x2.toInt) (x3_4.toInt.toNat + 1) := by show _ = tw (D 0 2) (Gm D x1.toInt x2.toInt _) (Lp D (Gm D x1.toInt x2.toInt) _); first | exact tw_lt (by omega) (by omega) | exact tw_ge (by omega) (by omega)
                refine r_aload_n hC dX10_fills_134 3 rfl ?_
                refine r_getr hC 15 (ci := 10) rfl u10_in (by decide) mT_5_10 dX10_fills_135 ka0 rfl rfl hlr ?_
                refine r_iload hC dX10_fills_138 6 rfl ?_
                refine r_iload_n hC dX10_fills_140 0 rfl ?_
                refine x_iastore hC klr llr (by decide) rfl rfl dX10_fills_141 (by omega) (by omega) (fun I199 eI199 => ?_)
                have hs199 := hs3.put0 eI199 klr (rng_arr (by decide) _) rfl (xF_arr (by decide) _) (by decide)
                have hF199 := hF3.put eI199 klr (inS_arr rfl _)
                obtain ⟨x200_, e200⟩ : ∃ z : Int32, z = x3_4 + Int32.ofInt (1) := ⟨_, rfl⟩
                refine r_iinc hC (j := 6) (v := x200_) (lv' := [(4, .int x200_), (3, .int x198_), (6, .int x196_), (5, .int x164_), (0, .ref a0), (1, .int x1), (2, .int x2)]) dX10_fills_142 rfl (by rw [e200]) (by decide) rfl ?_
                try have t200 : x200_.toInt = x3_4.toInt + (1) := by rw [e200]; exact (ti_add (b := Int32.ofInt (1)) (by show _ ≤ _ + (1 : Int); omega) (by show _ + (1 : Int) ≤ _; omega))
                refine r_goto hC (tgt := 11) dX10_fills_145 (by decide) ?_
                refine r_sub [4, 5, 6, 1, 0] rfl ?_
                exact ih3 ((60 - x200_.toInt).toNat) (by omega) x200_ x198_ I199 hs199 hF199 (by omega) (by omega) (by first | (rw [show x200_.toInt.toNat = 0 by omega]; show _ = D 0 1; omega) | (rw [show x200_.toInt.toNat = x3_4.toInt.toNat + 1 by omega]; exact tf)) (by first | exact all_0 (P := fun j => (I lr j).toInt = Lp D (Gm D x1.toInt x2.toInt) (j + 1)) (q := 0) (by omega) | exact fillf_s (f := fun j => Lp D (Gm D x1.toInt x2.toInt) (j + 1)) (k := x3_4.toNatClampNeg) v3_3 eI199 (by have h9 := clampI (i := x3_4) (by omega); omega) (by rw [clx (i := x3_4) rfl (by omega)]; exact tf) (by omega)) rfl
              · refine r_iload_n hC dX10_fills_122 5 rfl ?_
                refine r_iload hC dX10_fills_123 0 rfl ?_
                refine r_iadd hC dX10_fills_125 (fun x201_ e201 => ?_)
                try have t201 : x201_.toInt = x3_3.toInt + x196_.toInt := by rw [e201]; exact ti_add (by omega) (by omega)
                refine r_goto hC (tgt := 133) dX10_fills_126 (by decide) ?_
                refine r_istore_n hC (lv' := [(3, .int x201_), (6, .int x196_), (5, .int x164_), (0, .ref a0), (1, .int x1), (2, .int x2), (4, .int x3_4)]) dX10_fills_133 (by decide) rfl ?_
                have tf : x201_.toInt = Lp D (Gm D x1.toInt x2.toInt) (x3_4.toInt.toNat + 1) := by show _ = tw (D 0 2) (Gm D x1.toInt x2.toInt _) (Lp D (Gm D x1.toInt x2.toInt) _); first | exact tw_lt (by omega) (by omega) | exact tw_ge (by omega) (by omega)
                refine r_aload_n hC dX10_fills_134 3 rfl ?_
                refine r_getr hC 15 (ci := 10) rfl u10_in (by decide) mT_5_10 dX10_fills_135 ka0 rfl rfl hlr ?_
                refine r_iload hC dX10_fills_138 6 rfl ?_
                refine r_iload_n hC dX10_fills_140 0 rfl ?_
                refine x_iastore hC klr llr (by decide) rfl rfl dX10_fills_141 (by omega) (by omega) (fun I202 eI202 => ?_)
                have hs202 := hs3.put0 eI202 klr (rng_arr (by decide) _) rfl (xF_arr (by decide) _) (by decide)
                have hF202 := hF3.put eI202 klr (inS_arr rfl _)
                obtain ⟨x203_, e203⟩ : ∃ z : Int32, z = x3_4 + Int32.ofInt (1) := ⟨_, rfl⟩
                refine r_iinc hC (j := 6) (v := x203_) (lv' := [(4, .int x203_), (3, .int x201_), (6, .int x196_), (5, .int x164_), (0, .ref a0), (1, .int x1), (2, .int x2)]) dX10_fills_142 rfl (by rw [e203]) (by decide) rfl ?_
                try have t203 : x203_.toInt = x3_4.toInt + (1) := by rw [e203]; exact (ti_add (b := Int32.ofInt (1)) (by show _ ≤ _ + (1 : Int); omega) (by show _ + (1 : Int) ≤ _; omega))
                refine r_goto hC (tgt := 11) dX10_fills_145 (by decide) ?_
                refine r_sub [4, 5, 6, 1, 0] rfl ?_
                exact ih3 ((60 - x203_.toInt).toNat) (by omega) x203_ x201_ I202 hs202 hF202 (by omega) (by omega) (by first | (rw [show x203_.toInt.toNat = 0 by omega]; show _ = D 0 1; omega) | (rw [show x203_.toInt.toNat = x3_4.toInt.toNat + 1 by omega]; exact tf)) (by first | exact all_0 (P := fun j => (I lr j).toInt = Lp D (Gm D x1.toInt x2.toInt) (j + 1)) (q := 0) (by omega) | exact fillf_s (f := fun j => Lp D (Gm D x1.toInt x2.toInt) (j + 1)) (k := x3_4.toNatClampNeg) v3_3 eI202 (by have h9 := clampI (i := x3_4) (by omega); omega) (by rw [clx (i := x3_4) rfl (by omega)]; exact tf) (by omega)) rfl
        · refine r_aload_n hC dX10_fills_57 1 rfl ?_
          refine r_getr hC 3 (ci := 10) rfl u10_in (by decide) mT_4_238 dX10_fills_58 ka0 rfl rfl hbm ?_
          refine r_getiN hC 2 (ci := 9) rfl u9_in (by decide) nF_2 dX10_fills_61 khm rfl rfl (fun x204_ e204 => ?_)
          have f204 : x204_.toInt = (I3 hm 2).toInt := by rw [e204]
          have w204 : x204_ = x165_ := by rw [e204]; exact e165.symm
          have wt204 : x204_.toInt = x165_.toInt := by rw [w204]
          refine r_goto hC (tgt := 69) dX10_fills_64 (by decide) ?_
          refine r_istore hC (lv' := [(5, .int x204_), (0, .ref a0), (1, .int x1), (2, .int x2), (3, .int x3_3), (4, .int x3_4)]) dX10_fills_69 (by decide) rfl ?_
          have gb := Gm_b hJ (down := x1.toInt) (goal := x2.toInt) (d := x3_4.toInt.toNat) p0
          have lb := Lp_b hJ (G := (Gm D x1.toInt x2.toInt)) (fun d => Gm_b hJ p0) x3_4.toInt.toNat
          have d2 := hJ.2.2.2.2.1
          have gg : x204_.toInt = Gm D x1.toInt x2.toInt x3_4.toInt.toNat := by first | (rw [Gm_1 (by omega)]; omega) | (rw [Gm_2 (by omega) (by omega)]; omega)
          refine r_iload hC dX10_fills_71 0 rfl ?_
          refine r_iload_n hC dX10_fills_73 4 rfl ?_
          refine r_icmp_le hC (tgt := 84) dX10_fills_74 (by decide) (fun c205 => ?_) (fun c205 => ?_)
          · refine r_iload_n hC dX10_fills_84 4 rfl ?_
            refine r_iload hC dX10_fills_85 0 rfl ?_
            refine r_isub hC dX10_fills_87 (fun x206_ e206 => ?_)
            try have t206 : x206_.toInt = x3_3.toInt - x204_.toInt := by rw [e206]; exact ti_sub (by omega) (by omega)
            refine r_istore hC (lv' := [(6, .int x206_), (5, .int x204_), (0, .ref a0), (1, .int x1), (2, .int x2), (3, .int x3_3), (4, .int x3_4)]) dX10_fills_88 (by decide) rfl ?_
            refine r_iload hC dX10_fills_90 0 rfl ?_
            refine r_aload_n hC dX10_fills_92 2 rfl ?_
            refine r_getr hC 3 (ci := 10) rfl u10_in (by decide) mT_4_238 dX10_fills_93 ka0 rfl rfl hbm ?_
            refine r_getiN hC 1 (ci := 9) rfl u9_in (by decide) nF_1 dX10_fills_96 khm rfl rfl (fun x207_ e207 => ?_)
            have f207 : x207_.toInt = (I3 hm 1).toInt := by rw [e207]
            have w207 : x207_ = M1 := by rw [e207]; exact (Eq.trans (hF3.get khm rfl) eM1.symm)
            have wt207 : x207_.toInt = M1.toInt := by rw [w207]
            have h99 : I3 hm 1 = x207_ := e207.symm
            have h99t : (I3 hm 1).toInt = x207_.toInt := congrArg Int32.toInt h99
            refine r_icmp_le hC (tgt := 112) dX10_fills_99 (by decide) (fun c208 => ?_) (fun c208 => ?_)
            · refine r_iload hC dX10_fills_112 0 rfl ?_
              refine r_istore hC (lv' := [(6, .int x206_), (5, .int x204_), (0, .ref a0), (1, .int x1), (2, .int x2), (3, .int x3_3), (4, .int x3_4)]) dX10_fills_114 (by decide) rfl ?_
              refine r_iload hC dX10_fills_116 1 rfl ?_
              refine r_iload_n hC dX10_fills_118 5 rfl ?_
              refine r_icmp_le hC (tgt := 129) dX10_fills_119 (by decide) (fun c209 => ?_) (fun c209 => ?_)
              · refine r_iload_n hC dX10_fills_129 5 rfl ?_
                refine r_iload hC dX10_fills_130 0 rfl ?_
                refine r_isub hC dX10_fills_132 (fun x210_ e210 => ?_)
                try have t210 : x210_.toInt = x3_3.toInt - x206_.toInt := by rw [e210]; exact ti_sub (by omega) (by omega)
                refine r_istore_n hC (lv' := [(3, .int x210_), (6, .int x206_), (5, .int x204_), (0, .ref a0), (1, .int x1), (2, .int x2), (4, .int x3_4)]) dX10_fills_133 (by decide) rfl ?_
                have tf : x210_.toInt = Lp D (Gm D x1.toInt x2.toInt) (x3_4.toInt.toNat + 1) := by show _ = tw (D 0 2) (Gm D x1.toInt x2.toInt _) (Lp D (Gm D x1.toInt x2.toInt) _); first | exact tw_lt (by omega) (by omega) | exact tw_ge (by omega) (by omega)
                refine r_aload_n hC dX10_fills_134 3 rfl ?_
                refine r_getr hC 15 (ci := 10) rfl u10_in (by decide) mT_5_10 dX10_fills_135 ka0 rfl rfl hlr ?_
                refine r_iload hC dX10_fills_138 6 rfl ?_
                refine r_iload_n hC dX10_fills_140 0 rfl ?_
                refine x_iastore hC klr llr (by decide) rfl rfl dX10_fills_141 (by omega) (by omega) (fun I211 eI211 => ?_)
                have hs211 := hs3.put0 eI211 klr (rng_arr (by decide) _) rfl (xF_arr (by decide) _) (by decide)
                have hF211 := hF3.put eI211 klr (inS_arr rfl _)
                obtain ⟨x212_, e212⟩ : ∃ z : Int32, z = x3_4 + Int32.ofInt (1) := ⟨_, rfl⟩
                refine r_iinc hC (j := 6) (v := x212_) (lv' := [(4, .int x212_), (3, .int x210_), (6, .int x206_), (5, .int x204_), (0, .ref a0), (1, .int x1), (2, .int x2)]) dX10_fills_142 rfl (by rw [e212]) (by decide) rfl ?_
                try have t212 : x212_.toInt = x3_4.toInt + (1) := by rw [e212]; exact (ti_add (b := Int32.ofInt (1)) (by show _ ≤ _ + (1 : Int); omega) (by show _ + (1 : Int) ≤ _; omega))
                refine r_goto hC (tgt := 11) dX10_fills_145 (by decide) ?_
                refine r_sub [4, 5, 6, 1, 0] rfl ?_
                exact ih3 ((60 - x212_.toInt).toNat) (by omega) x212_ x210_ I211 hs211 hF211 (by omega) (by omega) (by first | (rw [show x212_.toInt.toNat = 0 by omega]; show _ = D 0 1; omega) | (rw [show x212_.toInt.toNat = x3_4.toInt.toNat + 1 by omega]; exact tf)) (by first | exact all_0 (P := fun j => (I lr j).toInt = Lp D (Gm D x1.toInt x2.toInt) (j + 1)) (q := 0) (by omega) | exact fillf_s (f := fun j => Lp D (Gm D x1.toInt x2.toInt) (j + 1)) (k := x3_4.toNatClampNeg) v3_3 eI211 (by have h9 := clampI (i := x3_4) (by omega); omega) (by rw [clx (i := x3_4) rfl (by omega)]; exact tf) (by omega)) rfl
              · refine r_iload_n hC dX10_fills_122 5 rfl ?_
                refine r_iload hC dX10_fills_123 0 rfl ?_
                refine r_iadd hC dX10_fills_125 (fun x213_ e213 => ?_)
                try have t213 : x213_.toInt = x3_3.toInt + x206_.toInt := by rw [e213]; exact ti_add (by omega) (by omega)
                refine r_goto hC (tgt := 133) dX10_fills_126 (by decide) ?_
                refine r_istore_n hC (lv' := [(3, .int x213_), (6, .int x206_), (5, .int x204_), (0, .ref a0), (1, .int x1), (2, .int x2), (4, .int x3_4)]) dX10_fills_133 (by decide) rfl ?_
                have tf : x213_.toInt = Lp D (Gm D x1.toInt x2.toInt) (x3_4.toInt.toNat + 1) := by show _ = tw (D 0 2) (Gm D x1.toInt x2.toInt _) (Lp D (Gm D x1.toInt x2.toInt) _); first | exact tw_lt (by omega) (by omega) | exact tw_ge (by omega) (by omega)
                refine r_aload_n hC dX10_fills_134 3 rfl ?_
                refine r_getr hC 15 (ci := 10) rfl u10_in (by decide) mT_5_10 dX10_fills_135 ka0 rfl rfl hlr ?_
                refine r_iload hC dX10_fills_138 6 rfl ?_
                refine r_iload_n hC dX10_fills_140 0 rfl ?_
                refine x_iastore hC klr llr (by decide) rfl rfl dX10_fills_141 (by omega) (by omega) (fun I214 eI214 => ?_)
                have hs214 := hs3.put0 eI214 klr (rng_arr (by decide) _) rfl (xF_arr (by decide) _) (by decide)
                have hF214 := hF3.put eI214 klr (inS_arr rfl _)
                obtain ⟨x215_, e215⟩ : ∃ z : Int32, z = x3_4 + Int32.ofInt (1) := ⟨_, rfl⟩
                refine r_iinc hC (j := 6) (v := x215_) (lv' := [(4, .int x215_), (3, .int x213_), (6, .int x206_), (5, .int x204_), (0, .ref a0), (1, .int x1), (2, .int x2)]) dX10_fills_142 rfl (by rw [e215]) (by decide) rfl ?_
                try have t215 : x215_.toInt = x3_4.toInt + (1) := by rw [e215]; exact (ti_add (b := Int32.ofInt (1)) (by show _ ≤ _ + (1 : Int); omega) (by show _ + (1 : Int) ≤ _; omega))
                refine r_goto hC (tgt := 11) dX10_fills_145 (by decide) ?_
                refine r_sub [4, 5, 6, 1, 0] rfl ?_
                exact ih3 ((60 - x215_.toInt).toNat) (by omega) x215_ x213_ I214 hs214 hF214 (by omega) (by omega) (by first | (rw [show x215_.toInt.toNat = 0 by omega]; show _ = D 0 1; omega) | (rw [show x215_.toInt.toNat = x3_4.toInt.toNat + 1 by omega]; exact tf)) (by first | exact all_0 (P := fun j => (I lr j).toInt = Lp D (Gm D x1.toInt x2.toInt) (j + 1)) (q := 0) (by omega) | exact fillf_s (f := fun j => Lp D (Gm D x1.toInt x2.toInt) (j + 1)) (k := x3_4.toNatClampNeg) v3_3 eI214 (by have h9 := clampI (i := x3_4) (by omega); omega) (by rw [clx (i := x3_4) rfl (by omega)]; exact tf) (by omega)) rfl
            · refine r_aload_n hC dX10_fills_102 2 rfl ?_
              refine r_getr hC 3 (ci := 10) rfl u10_in (by decide) mT_4_238 dX10_fills_103 ka0 rfl rfl hbm ?_
              refine r_getiN hC 1 (ci := 9) rfl u9_in (by decide) nF_1 dX10_fills_106 khm rfl rfl (fun x216_ e216 => ?_)
              have f216 : x216_.toInt = (I3 hm 1).toInt := by rw [e216]
              have w216 : x216_ = x207_ := by rw [e216]; exact e207.symm
              have wt216 : x216_.toInt = x207_.toInt := by rw [w216]
              refine r_goto hC (tgt := 114) dX10_fills_109 (by decide) ?_
              refine r_istore hC (lv' := [(6, .int x216_), (5, .int x204_), (0, .ref a0), (1, .int x1), (2, .int x2), (3, .int x3_3), (4, .int x3_4)]) dX10_fills_114 (by decide) rfl ?_
              refine r_iload hC dX10_fills_116 1 rfl ?_
              refine r_iload_n hC dX10_fills_118 5 rfl ?_
              refine r_icmp_le hC (tgt := 129) dX10_fills_119 (by decide) (fun c217 => ?_) (fun c217 => ?_)
              · refine r_iload_n hC dX10_fills_129 5 rfl ?_
                refine r_iload hC dX10_fills_130 0 rfl ?_
                refine r_isub hC dX10_fills_132 (fun x218_ e218 => ?_)
                try have t218 : x218_.toInt = x3_3.toInt - x216_.toInt := by rw [e218]; exact ti_sub (by omega) (by omega)
                refine r_istore_n hC (lv' := [(3, .int x218_), (6, .int x216_), (5, .int x204_), (0, .ref a0), (1, .int x1), (2, .int x2), (4, .int x3_4)]) dX10_fills_133 (by decide) rfl ?_
                have tf : x218_.toInt = Lp D (Gm D x1.toInt x2.toInt) (x3_4.toInt.toNat + 1) := by show _ = tw (D 0 2) (Gm D x1.toInt x2.toInt _) (Lp D (Gm D x1.toInt x2.toInt) _); first | exact tw_lt (by omega) (by omega) | exact tw_ge (by omega) (by omega)
                refine r_aload_n hC dX10_fills_134 3 rfl ?_
                refine r_getr hC 15 (ci := 10) rfl u10_in (by decide) mT_5_10 dX10_fills_135 ka0 rfl rfl hlr ?_
                refine r_iload hC dX10_fills_138 6 rfl ?_
                refine r_iload_n hC dX10_fills_140 0 rfl ?_
                refine x_iastore hC klr llr (by decide) rfl rfl dX10_fills_141 (by omega) (by omega) (fun I219 eI219 => ?_)
                have hs219 := hs3.put0 eI219 klr (rng_arr (by decide) _) rfl (xF_arr (by decide) _) (by decide)
                have hF219 := hF3.put eI219 klr (inS_arr rfl _)
                obtain ⟨x220_, e220⟩ : ∃ z : Int32, z = x3_4 + Int32.ofInt (1) := ⟨_, rfl⟩
                refine r_iinc hC (j := 6) (v := x220_) (lv' := [(4, .int x220_), (3, .int x218_), (6, .int x216_), (5, .int x204_), (0, .ref a0), (1, .int x1), (2, .int x2)]) dX10_fills_142 rfl (by rw [e220]) (by decide) rfl ?_
                try have t220 : x220_.toInt = x3_4.toInt + (1) := by rw [e220]; exact (ti_add (b := Int32.ofInt (1)) (by show _ ≤ _ + (1 : Int); omega) (by show _ + (1 : Int) ≤ _; omega))
                refine r_goto hC (tgt := 11) dX10_fills_145 (by decide) ?_
                refine r_sub [4, 5, 6, 1, 0] rfl ?_
                exact ih3 ((60 - x220_.toInt).toNat) (by omega) x220_ x218_ I219 hs219 hF219 (by omega) (by omega) (by first | (rw [show x220_.toInt.toNat = 0 by omega]; show _ = D 0 1; omega) | (rw [show x220_.toInt.toNat = x3_4.toInt.toNat + 1 by omega]; exact tf)) (by first | exact all_0 (P := fun j => (I lr j).toInt = Lp D (Gm D x1.toInt x2.toInt) (j + 1)) (q := 0) (by omega) | exact fillf_s (f := fun j => Lp D (Gm D x1.toInt x2.toInt) (j + 1)) (k := x3_4.toNatClampNeg) v3_3 eI219 (by have h9 := clampI (i := x3_4) (by omega); omega) (by rw [clx (i := x3_4) rfl (by omega)]; exact tf) (by omega)) rfl
              · refine r_iload_n hC dX10_fills_122 5 rfl ?_
                refine r_iload hC dX10_fills_123 0 rfl ?_
                refine r_iadd hC dX10_fills_125 (fun x221_ e221 => ?_)
                try have t221 : x221_.toInt = x3_3.toInt + x216_.toInt := by rw [e221]; exact ti_add (by omega) (by omega)
                refine r_goto hC (tgt := 133) dX10_fills_126 (by decide) ?_
                refine r_istore_n hC (lv' := [(3, .int x221_), (6, .int x216_), (5, .int x204_), (0, .ref a0), (1, .int x1), (2, .int x2), (4, .int x3_4)]) dX10_fills_133 (by decide) rfl ?_
                have tf : x221_.toInt = Lp D (Gm D x1.toInt x2.toInt) (x3_4.toInt.toNat + 1) := by show _ = tw (D 0 2) (Gm D x1.toInt x2.toInt _) (Lp D (Gm D x1.toInt x2.toInt) _); first | exact tw_lt (by omega) (by omega) | exact tw_ge (by omega) (by omega)
                refine r_aload_n hC dX10_fills_134 3 rfl ?_
                refine r_getr hC 15 (ci := 10) rfl u10_in (by decide) mT_5_10 dX10_fills_135 ka0 rfl rfl hlr ?_
                refine r_iload hC dX10_fills_138 6 rfl ?_
                refine r_iload_n hC dX10_fills_140 0 rfl ?_
                refine x_iastore hC klr llr (by decide) rfl rfl dX10_fills_141 (by omega) (by omega) (fun I222 eI222 => ?_)
                have hs222 := hs3.put0 eI222 klr (rng_arr (by decide) _) rfl (xF_arr (by decide) _) (by decide)
                have hF222 := hF3.put eI222 klr (inS_arr rfl _)
                obtain ⟨x223_, e223⟩ : ∃ z : Int32, z = x3_4 + Int32.ofInt (1) := ⟨_, rfl⟩
                refine r_iinc hC (j := 6) (v := x223_) (lv' := [(4, .int x223_), (3, .int x221_), (6, .int x216_), (5, .int x204_), (0, .ref a0), (1, .int x1), (2, .int x2)]) dX10_fills_142 rfl (by rw [e223]) (by decide) rfl ?_
                try have t223 : x223_.toInt = x3_4.toInt + (1) := by rw [e223]; exact (ti_add (b := Int32.ofInt (1)) (by show _ ≤ _ + (1 : Int); omega) (by show _ + (1 : Int) ≤ _; omega))
                refine r_goto hC (tgt := 11) dX10_fills_145 (by decide) ?_
                refine r_sub [4, 5, 6, 1, 0] rfl ?_
                exact ih3 ((60 - x223_.toInt).toNat) (by omega) x223_ x221_ I222 hs222 hF222 (by omega) (by omega) (by first | (rw [show x223_.toInt.toNat = 0 by omega]; show _ = D 0 1; omega) | (rw [show x223_.toInt.toNat = x3_4.toInt.toNat + 1 by omega]; exact tf)) (by first | exact all_0 (P := fun j => (I lr j).toInt = Lp D (Gm D x1.toInt x2.toInt) (j + 1)) (q := 0) (by omega) | exact fillf_s (f := fun j => Lp D (Gm D x1.toInt x2.toInt) (j + 1)) (k := x3_4.toNatClampNeg) v3_3 eI222 (by have h9 := clampI (i := x3_4) (by omega); omega) (by rw [clx (i := x3_4) rfl (by omega)]; exact tf) (by omega)) rfl
          · refine r_iload hC dX10_fills_77 0 rfl ?_
            refine r_iload_n hC dX10_fills_79 4 rfl ?_
            refine r_isub hC dX10_fills_80 (fun x224_ e224 => ?_)
            try have t224 : x224_.toInt = x204_.toInt - x3_3.toInt := by rw [e224]; exact ti_sub (by omega) (by omega)
            refine r_goto hC (tgt := 88) dX10_fills_81 (by decide) ?_
            refine r_istore hC (lv' := [(6, .int x224_), (5, .int x204_), (0, .ref a0), (1, .int x1), (2, .int x2), (3, .int x3_3), (4, .int x3_4)]) dX10_fills_88 (by decide) rfl ?_
            refine r_iload hC dX10_fills_90 0 rfl ?_
            refine r_aload_n hC dX10_fills_92 2 rfl ?_
            refine r_getr hC 3 (ci := 10) rfl u10_in (by decide) mT_4_238 dX10_fills_93 ka0 rfl rfl hbm ?_
            refine r_getiN hC 1 (ci := 9) rfl u9_in (by decide) nF_1 dX10_fills_96 khm rfl rfl (fun x225_ e225 => ?_)
            have f225 : x225_.toInt = (I3 hm 1).toInt := by rw [e225]
            have w225 : x225_ = M1 := by rw [e225]; exact (Eq.trans (hF3.get khm rfl) eM1.symm)
            have wt225 : x225_.toInt = M1.toInt := by rw [w225]
            have h99 : I3 hm 1 = x225_ := e225.symm
            have h99t : (I3 hm 1).toInt = x225_.toInt := congrArg Int32.toInt h99
            refine r_icmp_le hC (tgt := 112) dX10_fills_99 (by decide) (fun c226 => ?_) (fun c226 => ?_)
            · refine r_iload hC dX10_fills_112 0 rfl ?_
              refine r_istore hC (lv' := [(6, .int x224_), (5, .int x204_), (0, .ref a0), (1, .int x1), (2, .int x2), (3, .int x3_3), (4, .int x3_4)]) dX10_fills_114 (by decide) rfl ?_
              refine r_iload hC dX10_fills_116 1 rfl ?_
              refine r_iload_n hC dX10_fills_118 5 rfl ?_
              refine r_icmp_le hC (tgt := 129) dX10_fills_119 (by decide) (fun c227 => ?_) (fun c227 => ?_)
              · refine r_iload_n hC dX10_fills_129 5 rfl ?_
                refine r_iload hC dX10_fills_130 0 rfl ?_
                refine r_isub hC dX10_fills_132 (fun x228_ e228 => ?_)
                try have t228 : x228_.toInt = x3_3.toInt - x224_.toInt := by rw [e228]; exact ti_sub (by omega) (by omega)
                refine r_istore_n hC (lv' := [(3, .int x228_), (6, .int x224_), (5, .int x204_), (0, .ref a0), (1, .int x1), (2, .int x2), (4, .int x3_4)]) dX10_fills_133 (by decide) rfl ?_
                have tf : x228_.toInt = Lp D (Gm D x1.toInt x2.toInt) (x3_4.toInt.toNat + 1) := by show _ = tw (D 0 2) (Gm D x1.toInt x2.toInt _) (Lp D (Gm D x1.toInt x2.toInt) _); first | exact tw_lt (by omega) (by omega) | exact tw_ge (by omega) (by omega)
                refine r_aload_n hC dX10_fills_134 3 rfl ?_
                refine r_getr hC 15 (ci := 10) rfl u10_in (by decide) mT_5_10 dX10_fills_135 ka0 rfl rfl hlr ?_
                refine r_iload hC dX10_fills_138 6 rfl ?_
                refine r_iload_n hC dX10_fills_140 0 rfl ?_
                refine x_iastore hC klr llr (by decide) rfl rfl dX10_fills_141 (by omega) (by omega) (fun I229 eI229 => ?_)
                have hs229 := hs3.put0 eI229 klr (rng_arr (by decide) _) rfl (xF_arr (by decide) _) (by decide)
                have hF229 := hF3.put eI229 klr (inS_arr rfl _)
                obtain ⟨x230_, e230⟩ : ∃ z : Int32, z = x3_4 + Int32.ofInt (1) := ⟨_, rfl⟩
                refine r_iinc hC (j := 6) (v := x230_) (lv' := [(4, .int x230_), (3, .int x228_), (6, .int x224_), (5, .int x204_), (0, .ref a0), (1, .int x1), (2, .int x2)]) dX10_fills_142 rfl (by rw [e230]) (by decide) rfl ?_
                try have t230 : x230_.toInt = x3_4.toInt + (1) := by rw [e230]; exact (ti_add (b := Int32.ofInt (1)) (by show _ ≤ _ + (1 : Int); omega) (by show _ + (1 : Int) ≤ _; omega))
                refine r_goto hC (tgt := 11) dX10_fills_145 (by decide) ?_
                refine r_sub [4, 5, 6, 1, 0] rfl ?_
                exact ih3 ((60 - x230_.toInt).toNat) (by omega) x230_ x228_ I229 hs229 hF229 (by omega) (by omega) (by first | (rw [show x230_.toInt.toNat = 0 by omega]; show _ = D 0 1; omega) | (rw [show x230_.toInt.toNat = x3_4.toInt.toNat + 1 by omega]; exact tf)) (by first | exact all_0 (P := fun j => (I lr j).toInt = Lp D (Gm D x1.toInt x2.toInt) (j + 1)) (q := 0) (by omega) | exact fillf_s (f := fun j => Lp D (Gm D x1.toInt x2.toInt) (j + 1)) (k := x3_4.toNatClampNeg) v3_3 eI229 (by have h9 := clampI (i := x3_4) (by omega); omega) (by rw [clx (i := x3_4) rfl (by omega)]; exact tf) (by omega)) rfl
              · refine r_iload_n hC dX10_fills_122 5 rfl ?_
                refine r_iload hC dX10_fills_123 0 rfl ?_
                refine r_iadd hC dX10_fills_125 (fun x231_ e231 => ?_)
                try have t231 : x231_.toInt = x3_3.toInt + x224_.toInt := by rw [e231]; exact ti_add (by omega) (by omega)
                refine r_goto hC (tgt := 133) dX10_fills_126 (by decide) ?_
                refine r_istore_n hC (lv' := [(3, .int x231_), (6, .int x224_), (5, .int x204_), (0, .ref a0), (1, .int x1), (2, .int x2), (4, .int x3_4)]) dX10_fills_133 (by decide) rfl ?_
                have tf : x231_.toInt = Lp D (Gm D x1.toInt x2.toInt) (x3_4.toInt.toNat + 1) := by show _ = tw (D 0 2) (Gm D x1.toInt x2.toInt _) (Lp D (Gm D x1.toInt x2.toInt) _); first | exact tw_lt (by omega) (by omega) | exact tw_ge (by omega) (by omega)
                refine r_aload_n hC dX10_fills_134 3 rfl ?_
                refine r_getr hC 15 (ci := 10) rfl u10_in (by decide) mT_5_10 dX10_fills_135 ka0 rfl rfl hlr ?_
                refine r_iload hC dX10_fills_138 6 rfl ?_
                refine r_iload_n hC dX10_fills_140 0 rfl ?_
                refine x_iastore hC klr llr (by decide) rfl rfl dX10_fills_141 (by omega) (by omega) (fun I232 eI232 => ?_)
                have hs232 := hs3.put0 eI232 klr (rng_arr (by decide) _) rfl (xF_arr (by decide) _) (by decide)
                have hF232 := hF3.put eI232 klr (inS_arr rfl _)
                obtain ⟨x233_, e233⟩ : ∃ z : Int32, z = x3_4 + Int32.ofInt (1) := ⟨_, rfl⟩
                refine r_iinc hC (j := 6) (v := x233_) (lv' := [(4, .int x233_), (3, .int x231_), (6, .int x224_), (5, .int x204_), (0, .ref a0), (1, .int x1), (2, .int x2)]) dX10_fills_142 rfl (by rw [e233]) (by decide) rfl ?_
                try have t233 : x233_.toInt = x3_4.toInt + (1) := by rw [e233]; exact (ti_add (b := Int32.ofInt (1)) (by show _ ≤ _ + (1 : Int); omega) (by show _ + (1 : Int) ≤ _; omega))
                refine r_goto hC (tgt := 11) dX10_fills_145 (by decide) ?_
                refine r_sub [4, 5, 6, 1, 0] rfl ?_
                exact ih3 ((60 - x233_.toInt).toNat) (by omega) x233_ x231_ I232 hs232 hF232 (by omega) (by omega) (by first | (rw [show x233_.toInt.toNat = 0 by omega]; show _ = D 0 1; omega) | (rw [show x233_.toInt.toNat = x3_4.toInt.toNat + 1 by omega]; exact tf)) (by first | exact all_0 (P := fun j => (I lr j).toInt = Lp D (Gm D x1.toInt x2.toInt) (j + 1)) (q := 0) (by omega) | exact fillf_s (f := fun j => Lp D (Gm D x1.toInt x2.toInt) (j + 1)) (k := x3_4.toNatClampNeg) v3_3 eI232 (by have h9 := clampI (i := x3_4) (by omega); omega) (by rw [clx (i := x3_4) rfl (by omega)]; exact tf) (by omega)) rfl
            · refine r_aload_n hC dX10_fills_102 2 rfl ?_
              refine r_getr hC 3 (ci := 10) rfl u10_in (by decide) mT_4_238 dX10_fills_103 ka0 rfl rfl hbm ?_
              refine r_getiN hC 1 (ci := 9) rfl u9_in (by decide) nF_1 dX10_fills_106 khm rfl rfl (fun x234_ e234 => ?_)
              have f234 : x234_.toInt = (I3 hm 1).toInt := by rw [e234]
              have w234 : x234_ = x225_ := by rw [e234]; exact e225.symm
              have wt234 : x234_.toInt = x225_.toInt := by rw [w234]
              refine r_goto hC (tgt := 114) dX10_fills_109 (by decide) ?_
              refine r_istore hC (lv' := [(6, .int x234_), (5, .int x204_), (0, .ref a0), (1, .int x1), (2, .int x2), (3, .int x3_3), (4, .int x3_4)]) dX10_fills_114 (by decide) rfl ?_
              refine r_iload hC dX10_fills_116 1 rfl ?_
              refine r_iload_n hC dX10_fills_118 5 rfl ?_
              refine r_icmp_le hC (tgt := 129) dX10_fills_119 (by decide) (fun c235 => ?_) (fun c235 => ?_)
              · refine r_iload_n hC dX10_fills_129 5 rfl ?_
                refine r_iload hC dX10_fills_130 0 rfl ?_
                refine r_isub hC dX10_fills_132 (fun x236_ e236 => ?_)
                try have t236 : x236_.toInt = x3_3.toInt - x234_.toInt := by rw [e236]; exact ti_sub (by omega) (by omega)
                refine r_istore_n hC (lv' := [(3, .int x236_), (6, .int x234_), (5, .int x204_), (0, .ref a0), (1, .int x1), (2, .int x2), (4, .int x3_4)]) dX10_fills_133 (by decide) rfl ?_
                have tf : x236_.toInt = Lp D (Gm D x1.toInt x2.toInt) (x3_4.toInt.toNat + 1) := by show _ = tw (D 0 2) (Gm D x1.toInt x2.toInt _) (Lp D (Gm D x1.toInt x2.toInt) _); first | exact tw_lt (by omega) (by omega) | exact tw_ge (by omega) (by omega)
                refine r_aload_n hC dX10_fills_134 3 rfl ?_
                refine r_getr hC 15 (ci := 10) rfl u10_in (by decide) mT_5_10 dX10_fills_135 ka0 rfl rfl hlr ?_
                refine r_iload hC dX10_fills_138 6 rfl ?_
                refine r_iload_n hC dX10_fills_140 0 rfl ?_
                refine x_iastore hC klr llr (by decide) rfl rfl dX10_fills_141 (by omega) (by omega) (fun I237 eI237 => ?_)
                have hs237 := hs3.put0 eI237 klr (rng_arr (by decide) _) rfl (xF_arr (by decide) _) (by decide)
                have hF237 := hF3.put eI237 klr (inS_arr rfl _)
                obtain ⟨x238_, e238⟩ : ∃ z : Int32, z = x3_4 + Int32.ofInt (1) := ⟨_, rfl⟩
                refine r_iinc hC (j := 6) (v := x238_) (lv' := [(4, .int x238_), (3, .int x236_), (6, .int x234_), (5, .int x204_), (0, .ref a0), (1, .int x1), (2, .int x2)]) dX10_fills_142 rfl (by rw [e238]) (by decide) rfl ?_
                try have t238 : x238_.toInt = x3_4.toInt + (1) := by rw [e238]; exact (ti_add (b := Int32.ofInt (1)) (by show _ ≤ _ + (1 : Int); omega) (by show _ + (1 : Int) ≤ _; omega))
                refine r_goto hC (tgt := 11) dX10_fills_145 (by decide) ?_
                refine r_sub [4, 5, 6, 1, 0] rfl ?_
                exact ih3 ((60 - x238_.toInt).toNat) (by omega) x238_ x236_ I237 hs237 hF237 (by omega) (by omega) (by first | (rw [show x238_.toInt.toNat = 0 by omega]; show _ = D 0 1; omega) | (rw [show x238_.toInt.toNat = x3_4.toInt.toNat + 1 by omega]; exact tf)) (by first | exact all_0 (P := fun j => (I lr j).toInt = Lp D (Gm D x1.toInt x2.toInt) (j + 1)) (q := 0) (by omega) | exact fillf_s (f := fun j => Lp D (Gm D x1.toInt x2.toInt) (j + 1)) (k := x3_4.toNatClampNeg) v3_3 eI237 (by have h9 := clampI (i := x3_4) (by omega); omega) (by rw [clx (i := x3_4) rfl (by omega)]; exact tf) (by omega)) rfl
              · refine r_iload_n hC dX10_fills_122 5 rfl ?_
                refine r_iload hC dX10_fills_123 0 rfl ?_
                refine r_iadd hC dX10_fills_125 (fun x239_ e239 => ?_)
                try have t239 : x239_.toInt = x3_3.toInt + x234_.toInt := by rw [e239]; exact ti_add (by omega) (by omega)
                refine r_goto hC (tgt := 133) dX10_fills_126 (by decide) ?_
                refine r_istore_n hC (lv' := [(3, .int x239_), (6, .int x234_), (5, .int x204_), (0, .ref a0), (1, .int x1), (2, .int x2), (4, .int x3_4)]) dX10_fills_133 (by decide) rfl ?_
                have tf : x239_.toInt = Lp D (Gm D x1.toInt x2.toInt) (x3_4.toInt.toNat + 1) := by show _ = tw (D 0 2) (Gm D x1.toInt x2.toInt _) (Lp D (Gm D x1.toInt x2.toInt) _); first | exact tw_lt (by omega) (by omega) | exact tw_ge (by omega) (by omega)
                refine r_aload_n hC dX10_fills_134 3 rfl ?_
                refine r_getr hC 15 (ci := 10) rfl u10_in (by decide) mT_5_10 dX10_fills_135 ka0 rfl rfl hlr ?_
                refine r_iload hC dX10_fills_138 6 rfl ?_
                refine r_iload_n hC dX10_fills_140 0 rfl ?_
                refine x_iastore hC klr llr (by decide) rfl rfl dX10_fills_141 (by omega) (by omega) (fun I240 eI240 => ?_)
                have hs240 := hs3.put0 eI240 klr (rng_arr (by decide) _) rfl (xF_arr (by decide) _) (by decide)
                have hF240 := hF3.put eI240 klr (inS_arr rfl _)
                obtain ⟨x241_, e241⟩ : ∃ z : Int32, z = x3_4 + Int32.ofInt (1) := ⟨_, rfl⟩
                refine r_iinc hC (j := 6) (v := x241_) (lv' := [(4, .int x241_), (3, .int x239_), (6, .int x234_), (5, .int x204_), (0, .ref a0), (1, .int x1), (2, .int x2)]) dX10_fills_142 rfl (by rw [e241]) (by decide) rfl ?_
                try have t241 : x241_.toInt = x3_4.toInt + (1) := by rw [e241]; exact (ti_add (b := Int32.ofInt (1)) (by show _ ≤ _ + (1 : Int); omega) (by show _ + (1 : Int) ≤ _; omega))
                refine r_goto hC (tgt := 11) dX10_fills_145 (by decide) ?_
                refine r_sub [4, 5, 6, 1, 0] rfl ?_
                exact ih3 ((60 - x241_.toInt).toNat) (by omega) x241_ x239_ I240 hs240 hF240 (by omega) (by omega) (by first | (rw [show x241_.toInt.toNat = 0 by omega]; show _ = D 0 1; omega) | (rw [show x241_.toInt.toNat = x3_4.toInt.toNat + 1 by omega]; exact tf)) (by first | exact all_0 (P := fun j => (I lr j).toInt = Lp D (Gm D x1.toInt x2.toInt) (j + 1)) (q := 0) (by omega) | exact fillf_s (f := fun j => Lp D (Gm D x1.toInt x2.toInt) (j + 1)) (k := x3_4.toNatClampNeg) v3_3 eI240 (by have h9 := clampI (i := x3_4) (by omega); omega) (by rw [clx (i := x3_4) rfl (by omega)]; exact tf) (by omega)) rfl
  refine r_sub [2, 3, 4, 1, 0] rfl ?_
  exact LP3 _ x2_ x1_ I hs hF (by omega) (by omega) (by first | (rw [show x2_.toInt.toNat = 0 by omega]; show _ = D 0 1; omega) | (rw [show x2_.toInt.toNat = x3_4.toInt.toNat + 1 by omega]; exact tf)) (by first | exact all_0 (P := fun j => (I lr j).toInt = Lp D (Gm D x1.toInt x2.toInt) (j + 1)) (q := 0) (by omega) | exact fillf_s (f := fun j => Lp D (Gm D x1.toInt x2.toInt) (j + 1)) (k := x3_4.toNatClampNeg) v3_3 eI (by have h9 := clampI (i := x3_4) (by omega); omega) (by rw [clx (i := x3_4) rfl (by omega)]; exact tf) (by omega)) rfl

