abbrev rmX10_agrees : Room := { frames := 4, cells := 0, slots := 0, locals := 98 }
abbrev rmX10_weighs : Room := { frames := 5, cells := 0, slots := 0, locals := 122 }
abbrev rmX10_fitsUpTo : Room := { frames := 5, cells := 0, slots := 0, locals := 122 }
abbrev rmX10_isLetting : Room := { frames := 1, cells := 0, slots := 0, locals := 21 }
abbrev rmX10_lettingsOf : Room := { frames := 2, cells := 0, slots := 0, locals := 42 }
abbrev rmX10_isHeld : Room := { frames := 1, cells := 0, slots := 0, locals := 23 }
abbrev rmX10_tapOf : Room := { frames := 4, cells := 0, slots := 0, locals := 98 }
abbrev rmX10_isHelp : Room := { frames := 3, cells := 0, slots := 0, locals := 77 }
abbrev rmX10_foundBy : Room := { frames := 0, cells := 0, slots := 0, locals := 0 }
abbrev rmX10_alikeAt : Room := { frames := 1, cells := 0, slots := 0, locals := 23 }
abbrev rmX10_isStruck : Room := { frames := 2, cells := 0, slots := 0, locals := 43 }
set_option maxHeartbeats 4000000 in
set_option maxRecDepth 100000 in
theorem c_X10_agrees (g : GG) (l : Launch) (K len : Nat → Nat) (I : Nat → Nat → Int32) (J : Nat → Nat → Int64) (R : Nat → Nat → Option Nat) (hs : Sf K len I R) (a0 : Nat) (ka0 : K a0 = 11) (x1 : Int32) (x2 : Int32) (hm : Nat) (hbm : R a0 3 = some hm) (khm : K hm = 10) (ps1 : x1.toInt < (I hm 7).toInt) (p0 : 0 ≤ x1.toInt) (p1 : x1.toInt ≤ 5) : Ct g l yX10_agrees cX10_agrees 5 (Option.some Jvm.ClassFile.FieldType.boolean) rmX10_agrees [.ref a0, .int x1, .int x2] (K, len, I, J, R) (pI1 (K, len, I, J, R) (fun r I' => Sf K len I' R ∧ Fr K [(11, 19), (85, 999), (86, 999), (87, 999), (88, 999)] I I' ∧ (0 ≤ r.toInt) ∧ (r.toInt ≤ 1))) := by
  refine Ct_intro (by decide +kernel) (Nat.le_of_ble_eq_true rfl) (fun X hC hL hKK hNm hr hlk hQ => ?_)
  subst hL
  have hC : Cx g X cX10_agrees "HillTapModel" 5 rmX10_agrees := hC
  show P g X 5 0 [(0, .ref a0), (1, .int x1), (2, .int x2)] [] 0 0 (K, len, I, J, R)
  have hF : Fr K [(11, 19), (85, 999), (86, 999), (87, 999), (88, 999)] I I := Fr.refl
  have b_x1 := ti_rng x1
  have b_x2 := ti_rng x2
  obtain ⟨S0, eS0⟩ : ∃ z : Int32, z = I hm 7 := ⟨_, rfl⟩
  have fS0 : S0.toInt = (I hm 7).toInt := by rw [eS0]
  have rS0 := hs.rng khm rfl eS0
  refine r_aload_n hC dX10_agrees_0 0 rfl ?_
  refine r_iload_n hC dX10_agrees_1 1 rfl ?_
  have hv1 : I hm 7 = S0 := eS0.symm
  refine r_callV hC (As := [.int x1]) (rest := []) (ci := 10) (c_X10_runsAsTold g (xL X) K len I J R hs a0 ka0 x1 hm hbm khm (by rw [hv1]; omega) (by omega) (by omega)) mT_6_127 mT_1_10 mT_6_124 mT_6_126 mP_73 okX10_runsAsTold ⟨by decide, by decide⟩ rfl (by show kO (K a0) = _; rw [ka0]; rfl) rfl rfl (Nat.le_of_ble_eq_true rfl) ⟨by decide, by decide⟩ dX10_agrees_2 (aV1 (F := fun st M => P g X 5 5 [(0, .ref a0), (1, .int x1), (2, .int x2)] st _ _ M) (M := (K, len, I, J, R)) fun I2 h2 => ?_)
  obtain ⟨hs2, hf2⟩ := h2
  show P g X 5 5 [(0, .ref a0), (1, .int x1), (2, .int x2)] [] _ _ (K, len, I2, J, R)
  have hF2 : Fr K [(11, 19), (85, 999), (86, 999), (87, 999), (88, 999)] I I2 := hF.trans hf2 rfl rfl
  refine r_iconst hC (v := (0)) dX10_agrees_5 (by decide) (by decide) (fun x3_ e3 t3 => ?_)
  refine r_istore_n hC (lv' := [(3, .int x3_), (0, .ref a0), (1, .int x1), (2, .int x2)]) dX10_agrees_6 (by decide) rfl ?_
  have LP4 : ∀ (mu : Nat) (x4_3 : Int32) (v4_0 : 0 ≤ x4_3.toInt) (v4_1 : x4_3.toInt ≤ 24), (24 - x4_3.toInt).toNat = mu → P g X 5 7 [(0, .ref a0), (1, .int x1), (2, .int x2), (3, .int x4_3)] [] 0 0 (K, len, I2, J, R) := by
    intro mu; induction mu using Nat.strongRecOn with | ind mu ih => ?_
    intro x4_3 v4_0 v4_1 hmu
    have ih4 := ih
    clear ih
    have hmu4 := hmu
    clear hmu
    refine r_iload_n hC dX10_agrees_7 3 rfl ?_
    refine r_aload_n hC dX10_agrees_8 0 rfl ?_
    refine r_geti hC 20 (ci := 10) rfl u10_in (by decide) mT_5_15 dX10_agrees_9 ka0 rfl rfl (fun x5_ e5 => ?_)
    have r5 := hs2.rng ka0 rfl e5
    refine r_icmp_ge hC (tgt := 89) dX10_agrees_12 (by decide) (fun c6 => ?_) (fun c6 => ?_)
    · refine r_iconst hC (v := (1)) dX10_agrees_89 (by decide) (by decide) (fun x7_ e7 t7 => ?_)
      exact r_iret hC hQ hlk hr (by rw [e7]; rfl) (by decide) (by decide) dX10_agrees_90 ⟨_, _, rfl, rfl, ⟨hs2, hF2, (by omega), (by omega)⟩⟩
    · refine r_aload_n hC dX10_agrees_15 0 rfl ?_
      obtain ⟨a8_, hb8, hk8, hn8⟩ := hs2.row ka0 22 90 24 (by decide) (by decide)
      refine r_getr hC 22 (ci := 10) rfl u10_in (by decide) mT_5_17 dX10_agrees_16 ka0 rfl rfl hb8 ?_
      refine r_iload_n hC dX10_agrees_19 3 rfl ?_
      refine x_iaload hC hk8 hn8 (by decide) rfl rfl dX10_agrees_20 (by omega) (by omega) (fun x9_ e9 => ?_)
      have r9 := hs2.arr hk8 hn8 rfl (by omega) (by omega) e9
      refine r_iload_n hC dX10_agrees_21 2 rfl ?_
      refine r_icmp_le hC (tgt := 28) dX10_agrees_22 (by decide) (fun c10 => ?_) (fun c10 => ?_)
      · refine r_aload_n hC dX10_agrees_28 0 rfl ?_
        obtain ⟨a11_, hb11, hk11, hn11⟩ := hs2.row ka0 17 87 300 (by decide) (by decide)
        refine r_getr hC 17 (ci := 10) rfl u10_in (by decide) mT_5_12 dX10_agrees_29 ka0 rfl rfl hb11 ?_
        refine r_bipush hC (v := (60)) dX10_agrees_32 (by decide) (by decide) (fun x12_ e12 t12 => ?_)
        refine r_aload_n hC dX10_agrees_34 0 rfl ?_
        obtain ⟨a13_, hb13, hk13, hn13⟩ := hs2.row ka0 21 89 24 (by decide) (by decide)
        refine r_getr hC 21 (ci := 10) rfl u10_in (by decide) mT_5_16 dX10_agrees_35 ka0 rfl rfl hb13 ?_
        refine r_iload_n hC dX10_agrees_38 3 rfl ?_
        refine x_iaload hC hk13 hn13 (by decide) rfl rfl dX10_agrees_39 (by omega) (by omega) (fun x14_ e14 => ?_)
        have r14 := hs2.arr hk13 hn13 rfl (by omega) (by omega) e14
        refine r_imul hC dX10_agrees_40 (fun x15_ e15 => ?_)
        try have t15 : x15_.toInt = (60) * x14_.toInt := by rw [e15]; exact ti_mul (by omega) rfl (by omega) (by omega)
        refine r_aload_n hC dX10_agrees_41 0 rfl ?_
        refine r_getr hC 22 (ci := 10) rfl u10_in (by decide) mT_5_17 dX10_agrees_42 ka0 rfl rfl hb8 ?_
        refine r_iload_n hC dX10_agrees_45 3 rfl ?_
        refine x_iaload hC hk8 hn8 (by decide) rfl rfl dX10_agrees_46 (by omega) (by omega) (fun x16_ e16 => ?_)
        have r16 := hs2.arr hk8 hn8 rfl (by omega) (by omega) e16
        refine r_iadd hC dX10_agrees_47 (fun x17_ e17 => ?_)
        try have t17 : x17_.toInt = x15_.toInt + x16_.toInt := by rw [e17]; exact ti_add (by omega) (by omega)
        refine x_iaload hC hk11 hn11 (by decide) rfl rfl dX10_agrees_48 (by omega) (by omega) (fun x18_ e18 => ?_)
        refine r_aload_n hC dX10_agrees_49 0 rfl ?_
        obtain ⟨a19_, hb19, hk19, hn19⟩ := hs2.row ka0 23 91 24 (by decide) (by decide)
        refine r_getr hC 23 (ci := 10) rfl u10_in (by decide) mT_5_18 dX10_agrees_50 ka0 rfl rfl hb19 ?_
        refine r_iload_n hC dX10_agrees_53 3 rfl ?_
        refine x_iaload hC hk19 hn19 (by decide) rfl rfl dX10_agrees_54 (by omega) (by omega) (fun x20_ e20 => ?_)
        refine r_isub hC dX10_agrees_55 (fun x21_ e21 => ?_)
        try have t21 : x21_.toInt = x18_.toInt - x20_.toInt := by rw [e21]; exact ti_sub (by omega) (by omega)
        refine r_istore hC (lv' := [(4, .int x21_), (0, .ref a0), (1, .int x1), (2, .int x2), (3, .int x4_3)]) dX10_agrees_56 (by decide) rfl ?_
        refine r_iload hC dX10_agrees_58 0 rfl ?_
        refine r_aload_n hC dX10_agrees_60 1 rfl ?_
        obtain ⟨a22_, hb22, hk22, hn22⟩ := hs2.row ka0 24 92 24 (by decide) (by decide)
        refine r_getr hC 24 (ci := 10) rfl u10_in (by decide) mT_5_19 dX10_agrees_61 ka0 rfl rfl hb22 ?_
        refine r_iload_n hC dX10_agrees_64 4 rfl ?_
        refine x_iaload hC hk22 hn22 (by decide) rfl rfl dX10_agrees_65 (by omega) (by omega) (fun x23_ e23 => ?_)
        refine r_icmp_gt hC (tgt := 81) dX10_agrees_66 (by decide) (fun c24 => ?_) (fun c24 => ?_)
        · refine r_iconst hC (v := (0)) dX10_agrees_81 (by decide) (by decide) (fun x25_ e25 t25 => ?_)
          exact r_iret hC hQ hlk hr (by rw [e25]; rfl) (by decide) (by decide) dX10_agrees_82 ⟨_, _, rfl, rfl, ⟨hs2, hF2, (by omega), (by omega)⟩⟩
        · refine r_iload hC dX10_agrees_69 0 rfl ?_
          refine r_ineg hC dX10_agrees_71 (fun x26_ e26 => ?_)
          refine r_aload_n hC dX10_agrees_72 1 rfl ?_
          refine r_getr hC 24 (ci := 10) rfl u10_in (by decide) mT_5_19 dX10_agrees_73 ka0 rfl rfl hb22 ?_
          refine r_iload_n hC dX10_agrees_76 4 rfl ?_
          refine x_iaload hC hk22 hn22 (by decide) rfl rfl dX10_agrees_77 (by omega) (by omega) (fun x27_ e27 => ?_)
          refine r_icmp_le hC (tgt := 83) dX10_agrees_78 (by decide) (fun c28 => ?_) (fun c28 => ?_)
          · obtain ⟨x29_, e29⟩ : ∃ z : Int32, z = x4_3 + Int32.ofInt (1) := ⟨_, rfl⟩
            refine r_iinc hC (j := 4) (v := x29_) (lv' := [(3, .int x29_), (4, .int x21_), (0, .ref a0), (1, .int x1), (2, .int x2)]) dX10_agrees_83 rfl (by rw [e29]) (by decide) rfl ?_
            try have t29 : x29_.toInt = x4_3.toInt + (1) := by rw [e29]; exact (ti_add (b := Int32.ofInt (1)) (by show _ ≤ _ + (1 : Int); omega) (by show _ + (1 : Int) ≤ _; omega))
            refine r_goto hC (tgt := 7) dX10_agrees_86 (by decide) ?_
            refine r_sub [2, 3, 4, 0] rfl ?_
            exact ih4 ((24 - x29_.toInt).toNat) (by omega) x29_ (by omega) (by omega) rfl
          · refine r_iconst hC (v := (0)) dX10_agrees_81 (by decide) (by decide) (fun x30_ e30 t30 => ?_)
            exact r_iret hC hQ hlk hr (by rw [e30]; rfl) (by decide) (by decide) dX10_agrees_82 ⟨_, _, rfl, rfl, ⟨hs2, hF2, (by omega), (by omega)⟩⟩
      · refine r_goto hC (tgt := 83) dX10_agrees_25 (by decide) ?_
        obtain ⟨x31_, e31⟩ : ∃ z : Int32, z = x4_3 + Int32.ofInt (1) := ⟨_, rfl⟩
        refine r_iinc hC (j := 3) (v := x31_) (lv' := [(3, .int x31_), (0, .ref a0), (1, .int x1), (2, .int x2)]) dX10_agrees_83 rfl (by rw [e31]) (by decide) rfl ?_
        try have t31 : x31_.toInt = x4_3.toInt + (1) := by rw [e31]; exact (ti_add (b := Int32.ofInt (1)) (by show _ ≤ _ + (1 : Int); omega) (by show _ + (1 : Int) ≤ _; omega))
        refine r_goto hC (tgt := 7) dX10_agrees_86 (by decide) ?_
        refine r_sub [1, 2, 3, 0] rfl ?_
        exact ih4 ((24 - x31_.toInt).toNat) (by omega) x31_ (by omega) (by omega) rfl
  refine r_sub [1, 2, 3, 0] rfl ?_
  exact LP4 _ x3_ (by omega) (by omega) rfl
set_option maxHeartbeats 4000000 in
set_option maxRecDepth 100000 in
theorem c_X10_weighs (g : GG) (l : Launch) (K len : Nat → Nat) (I : Nat → Nat → Int32) (J : Nat → Nat → Int64) (R : Nat → Nat → Option Nat) (hs : Sf K len I R) (a0 : Nat) (ka0 : K a0 = 11) (hm : Nat) (hbm : R a0 3 = some hm) (khm : K hm = 10) : Ct g l yX10_weighs cX10_weighs 3 (Option.some Jvm.ClassFile.FieldType.int) rmX10_weighs [.ref a0] (K, len, I, J, R) (pI1 (K, len, I, J, R) (fun r I' => Sf K len I' R ∧ Fr K [(11, 19), (85, 999), (86, 999), (87, 999), (88, 999), (93, 999)] I I')) := by
  refine Ct_intro (by decide +kernel) (Nat.le_of_ble_eq_true rfl) (fun X hC hL hKK hNm hr hlk hQ => ?_)
  subst hL
  have hC : Cx g X cX10_weighs "HillTapModel" 3 rmX10_weighs := hC
  show P g X 3 0 [(0, .ref a0)] [] 0 0 (K, len, I, J, R)
  have hF : Fr K [(11, 19), (85, 999), (86, 999), (87, 999), (88, 999), (93, 999)] I I := Fr.refl
  obtain ⟨S0, eS0⟩ : ∃ z : Int32, z = I hm 7 := ⟨_, rfl⟩
  have fS0 : S0.toInt = (I hm 7).toInt := by rw [eS0]
  have rS0 := hs.rng khm rfl eS0
  refine r_iconst hC (v := (0)) dX10_weighs_0 (by decide) (by decide) (fun x1_ e1 t1 => ?_)
  refine r_istore_n hC (lv' := [(1, .int x1_), (0, .ref a0)]) dX10_weighs_1 (by decide) rfl ?_
  refine r_iconst hC (v := (0)) dX10_weighs_2 (by decide) (by decide) (fun x2_ e2 t2 => ?_)
  refine r_istore_n hC (lv' := [(2, .int x2_), (1, .int x1_), (0, .ref a0)]) dX10_weighs_3 (by decide) rfl ?_
  have LP3 : ∀ (mu : Nat) (x3_2 : Int32) (x3_1 : Int32) (I3 : Nat → Nat → Int32) (hs3 : Sf K len I3 R) (hF3 : Fr K [(11, 19), (85, 999), (86, 999), (87, 999), (88, 999), (93, 999)] I I3) (v3_0 : 0 ≤ x3_2.toInt) (v3_1 : x3_2.toInt ≤ 6), (6 - x3_2.toInt).toNat = mu → P g X 3 4 [(0, .ref a0), (1, .int x3_1), (2, .int x3_2)] [] 0 0 (K, len, I3, J, R) := by
    intro mu; induction mu using Nat.strongRecOn with | ind mu ih => ?_
    intro x3_2 x3_1 I3 hs3 hF3 v3_0 v3_1 hmu
    have ih3 := ih
    clear ih
    have hmu3 := hmu
    clear hmu
    refine r_iload_n hC dX10_weighs_4 2 rfl ?_
    refine r_aload_n hC dX10_weighs_5 0 rfl ?_
    refine r_getr hC 3 (ci := 10) rfl u10_in (by decide) mT_4_238 dX10_weighs_6 ka0 rfl rfl hbm ?_
    refine r_getiN hC 7 (ci := 9) rfl u9_in (by decide) nF_7 dX10_weighs_9 khm rfl rfl (fun x4_ e4 => ?_)
    have r4 := hs3.rng khm rfl e4
    have f4 : x4_.toInt = (I3 hm 7).toInt := by rw [e4]
    have w4 : x4_ = S0 := by rw [e4]; exact (Eq.trans (hF3.get khm rfl) eS0.symm)
    have wt4 : x4_.toInt = S0.toInt := by rw [w4]
    refine r_icmp_ge hC (tgt := 59) dX10_weighs_12 (by decide) (fun c5 => ?_) (fun c5 => ?_)
    · refine r_iload_n hC dX10_weighs_59 1 rfl ?_
      exact r_iret hC hQ hlk hr rfl (by decide) (by decide) dX10_weighs_60 ⟨_, _, rfl, rfl, ⟨hs3, hF3⟩⟩
    · refine r_aload_n hC dX10_weighs_15 0 rfl ?_
      obtain ⟨a6_, hb6, hk6, hn6⟩ := hs3.row ka0 25 93 6 (by decide) (by decide)
      refine r_getr hC 25 (ci := 10) rfl u10_in (by decide) mT_5_20 dX10_weighs_16 ka0 rfl rfl hb6 ?_
      refine r_iload_n hC dX10_weighs_19 2 rfl ?_
      refine r_aload_n hC dX10_weighs_20 0 rfl ?_
      refine r_iload_n hC dX10_weighs_21 2 rfl ?_
      refine r_bipush hC (v := (59)) dX10_weighs_22 (by decide) (by decide) (fun x7_ e7 t7 => ?_)
      have hv8 : I3 hm 7 = x4_ := e4.symm
      refine r_callV hC (As := [.int x3_2, .int x7_]) (rest := [.int x3_2, .ref a6_]) (ci := 10) (c_X10_agrees g (xL X) K len I3 J R hs3 a0 ka0 x3_2 x7_ hm hbm khm (by rw [hv8]; omega) (by omega) (by omega)) mT_6_188 mT_1_10 mT_6_185 mT_6_187 mP_83 okX10_agrees ⟨by decide, by decide⟩ rfl (by show kO (K a0) = _; rw [ka0]; rfl) rfl rfl (Nat.le_of_ble_eq_true rfl) ⟨by decide, by decide⟩ dX10_weighs_24 (aI1 (F := fun st M => P g X 3 27 [(0, .ref a0), (1, .int x3_1), (2, .int x3_2)] st _ _ M) (M := (K, len, I3, J, R)) fun x9_ I9 h9 => ?_)
      obtain ⟨hs9, hf9, k9_0, k9_1⟩ := h9
      show P g X 3 27 [(0, .ref a0), (1, .int x3_1), (2, .int x3_2)] [.int x9_, .int x3_2, .ref a6_] _ _ (K, len, I9, J, R)
      have hF9 : Fr K [(11, 19), (85, 999), (86, 999), (87, 999), (88, 999), (93, 999)] I I9 := hF3.trans hf9 rfl rfl
      refine x_zastore hC hk6 hn6 (by decide) rfl rfl dX10_weighs_27 (by omega) (by omega) (fun I10 eI10 => ?_)
      have hs10 := hs9.put0 eI10 hk6 (rng_arr (by decide) _) rfl (xF_arr (by decide) _) (by decide)
      have hF10 := hF9.put eI10 hk6 (inS_arr rfl _)
      refine r_iload_n hC dX10_weighs_28 1 rfl ?_
      refine r_aload_n hC dX10_weighs_29 0 rfl ?_
      refine r_getr hC 25 (ci := 10) rfl u10_in (by decide) mT_5_20 dX10_weighs_30 ka0 rfl rfl hb6 ?_
      refine r_iload_n hC dX10_weighs_33 2 rfl ?_
      refine x_zaload hC hk6 hn6 (by decide) rfl rfl dX10_weighs_34 (by omega) (by omega) (fun x11_ e11 => ?_)
      refine r_if_eq hC (tgt := 50) dX10_weighs_35 (by decide) (fun c12 => ?_) (fun c12 => ?_)
      · refine r_iconst hC (v := (0)) dX10_weighs_50 (by decide) (by decide) (fun x13_ e13 t13 => ?_)
        refine r_iadd hC dX10_weighs_51 (fun x14_ e14 => ?_)
        try have t14 : x14_.toInt = x3_1.toInt + x13_.toInt := by rw [e14]; exact ti_add (by omega) (by omega)
        refine r_istore_n hC (lv' := [(1, .int x14_), (0, .ref a0), (2, .int x3_2)]) dX10_weighs_52 (by decide) rfl ?_
        obtain ⟨x15_, e15⟩ : ∃ z : Int32, z = x3_2 + Int32.ofInt (1) := ⟨_, rfl⟩
        refine r_iinc hC (j := 2) (v := x15_) (lv' := [(2, .int x15_), (1, .int x14_), (0, .ref a0)]) dX10_weighs_53 rfl (by rw [e15]) (by decide) rfl ?_
        try have t15 : x15_.toInt = x3_2.toInt + (1) := by rw [e15]; exact (ti_add (b := Int32.ofInt (1)) (by show _ ≤ _ + (1 : Int); omega) (by show _ + (1 : Int) ≤ _; omega))
        refine r_goto hC (tgt := 4) dX10_weighs_56 (by decide) ?_
        refine r_sub [2, 1, 0] rfl ?_
        exact ih3 ((6 - x15_.toInt).toNat) (by omega) x15_ x14_ I10 hs10 hF10 (by omega) (by omega) rfl
      · refine r_aload_n hC dX10_weighs_38 0 rfl ?_
        refine r_getr hC 3 (ci := 10) rfl u10_in (by decide) mT_4_238 dX10_weighs_39 ka0 rfl rfl hbm ?_
        obtain ⟨a16_, hb16, hk16, hn16⟩ := hs10.row khm 16 75 6 (by decide) (by decide)
        refine r_getrN hC 16 (ci := 9) rfl u9_in (by decide) nF_16 dX10_weighs_42 khm rfl rfl hb16 ?_
        refine r_iload_n hC dX10_weighs_45 2 rfl ?_
        refine x_iaload hC hk16 hn16 (by decide) rfl rfl dX10_weighs_46 (by omega) (by omega) (fun x17_ e17 => ?_)
        refine r_goto hC (tgt := 51) dX10_weighs_47 (by decide) ?_
        refine r_iadd hC dX10_weighs_51 (fun x18_ e18 => ?_)
        try have t18 : x18_.toInt = x3_1.toInt + x17_.toInt := by rw [e18]; exact ti_add (by omega) (by omega)
        refine r_istore_n hC (lv' := [(1, .int x18_), (0, .ref a0), (2, .int x3_2)]) dX10_weighs_52 (by decide) rfl ?_
        obtain ⟨x19_, e19⟩ : ∃ z : Int32, z = x3_2 + Int32.ofInt (1) := ⟨_, rfl⟩
        refine r_iinc hC (j := 2) (v := x19_) (lv' := [(2, .int x19_), (1, .int x18_), (0, .ref a0)]) dX10_weighs_53 rfl (by rw [e19]) (by decide) rfl ?_
        try have t19 : x19_.toInt = x3_2.toInt + (1) := by rw [e19]; exact (ti_add (b := Int32.ofInt (1)) (by show _ ≤ _ + (1 : Int); omega) (by show _ + (1 : Int) ≤ _; omega))
        refine r_goto hC (tgt := 4) dX10_weighs_56 (by decide) ?_
        refine r_sub [2, 1, 0] rfl ?_
        exact ih3 ((6 - x19_.toInt).toNat) (by omega) x19_ x18_ I10 hs10 hF10 (by omega) (by omega) rfl
  refine r_sub [2, 1, 0] rfl ?_
  exact LP3 _ x2_ x1_ I hs hF (by omega) (by omega) rfl
set_option maxHeartbeats 4000000 in
set_option maxRecDepth 100000 in
theorem c_X10_fitsUpTo (g : GG) (l : Launch) (K len : Nat → Nat) (I : Nat → Nat → Int32) (J : Nat → Nat → Int64) (R : Nat → Nat → Option Nat) (hs : Sf K len I R) (a0 : Nat) (ka0 : K a0 = 11) (x1 : Int32) (hm : Nat) (hbm : R a0 3 = some hm) (khm : K hm = 10) : Ct g l yX10_fitsUpTo cX10_fitsUpTo 4 (Option.some Jvm.ClassFile.FieldType.int) rmX10_fitsUpTo [.ref a0, .int x1] (K, len, I, J, R) (pI1 (K, len, I, J, R) (fun r I' => Sf K len I' R ∧ Fr K [(11, 19), (85, 999), (86, 999), (87, 999), (88, 999)] I I')) := by
  refine Ct_intro (by decide +kernel) (Nat.le_of_ble_eq_true rfl) (fun X hC hL hKK hNm hr hlk hQ => ?_)
  subst hL
  have hC : Cx g X cX10_fitsUpTo "HillTapModel" 4 rmX10_fitsUpTo := hC
  show P g X 4 0 [(0, .ref a0), (1, .int x1)] [] 0 0 (K, len, I, J, R)
  have hF : Fr K [(11, 19), (85, 999), (86, 999), (87, 999), (88, 999)] I I := Fr.refl
  have b_x1 := ti_rng x1
  obtain ⟨S0, eS0⟩ : ∃ z : Int32, z = I hm 7 := ⟨_, rfl⟩
  have fS0 : S0.toInt = (I hm 7).toInt := by rw [eS0]
  have rS0 := hs.rng khm rfl eS0
  refine r_iconst hC (v := (0)) dX10_fitsUpTo_0 (by decide) (by decide) (fun x1_ e1 t1 => ?_)
  refine r_istore_n hC (lv' := [(2, .int x1_), (0, .ref a0), (1, .int x1)]) dX10_fitsUpTo_1 (by decide) rfl ?_
  refine r_iconst hC (v := (0)) dX10_fitsUpTo_2 (by decide) (by decide) (fun x2_ e2 t2 => ?_)
  refine r_istore_n hC (lv' := [(3, .int x2_), (2, .int x1_), (0, .ref a0), (1, .int x1)]) dX10_fitsUpTo_3 (by decide) rfl ?_
  have LP3 : ∀ (mu : Nat) (x3_3 : Int32) (x3_2 : Int32) (I3 : Nat → Nat → Int32) (hs3 : Sf K len I3 R) (hF3 : Fr K [(11, 19), (85, 999), (86, 999), (87, 999), (88, 999)] I I3) (v3_0 : 0 ≤ x3_3.toInt) (v3_1 : x3_3.toInt ≤ 6), (6 - x3_3.toInt).toNat = mu → P g X 4 4 [(0, .ref a0), (1, .int x1), (2, .int x3_2), (3, .int x3_3)] [] 0 0 (K, len, I3, J, R) := by
    intro mu; induction mu using Nat.strongRecOn with | ind mu ih => ?_
    intro x3_3 x3_2 I3 hs3 hF3 v3_0 v3_1 hmu
    have ih3 := ih
    clear ih
    have hmu3 := hmu
    clear hmu
    refine r_iload_n hC dX10_fitsUpTo_4 3 rfl ?_
    refine r_aload_n hC dX10_fitsUpTo_5 0 rfl ?_
    refine r_getr hC 3 (ci := 10) rfl u10_in (by decide) mT_4_238 dX10_fitsUpTo_6 ka0 rfl rfl hbm ?_
    refine r_getiN hC 7 (ci := 9) rfl u9_in (by decide) nF_7 dX10_fitsUpTo_9 khm rfl rfl (fun x4_ e4 => ?_)
    have r4 := hs3.rng khm rfl e4
    have f4 : x4_.toInt = (I3 hm 7).toInt := by rw [e4]
    have w4 : x4_ = S0 := by rw [e4]; exact (Eq.trans (hF3.get khm rfl) eS0.symm)
    have wt4 : x4_.toInt = S0.toInt := by rw [w4]
    refine r_icmp_ge hC (tgt := 38) dX10_fitsUpTo_12 (by decide) (fun c5 => ?_) (fun c5 => ?_)
    · refine r_iload_n hC dX10_fitsUpTo_38 2 rfl ?_
      exact r_iret hC hQ hlk hr rfl (by decide) (by decide) dX10_fitsUpTo_39 ⟨_, _, rfl, rfl, ⟨hs3, hF3⟩⟩
    · refine r_iload_n hC dX10_fitsUpTo_15 2 rfl ?_
      refine r_aload_n hC dX10_fitsUpTo_16 0 rfl ?_
      refine r_iload_n hC dX10_fitsUpTo_17 3 rfl ?_
      refine r_iload_n hC dX10_fitsUpTo_18 1 rfl ?_
      have hv6 : I3 hm 7 = x4_ := e4.symm
      refine r_callV hC (As := [.int x3_3, .int x1]) (rest := [.int x3_2]) (ci := 10) (c_X10_agrees g (xL X) K len I3 J R hs3 a0 ka0 x3_3 x1 hm hbm khm (by rw [hv6]; omega) (by omega) (by omega)) mT_6_188 mT_1_10 mT_6_185 mT_6_187 mP_83 okX10_agrees ⟨by decide, by decide⟩ rfl (by show kO (K a0) = _; rw [ka0]; rfl) rfl rfl (Nat.le_of_ble_eq_true rfl) ⟨by decide, by decide⟩ dX10_fitsUpTo_19 (aI1 (F := fun st M => P g X 4 22 [(0, .ref a0), (1, .int x1), (2, .int x3_2), (3, .int x3_3)] st _ _ M) (M := (K, len, I3, J, R)) fun x7_ I7 h7 => ?_)
      obtain ⟨hs7, hf7, k7_0, k7_1⟩ := h7
      show P g X 4 22 [(0, .ref a0), (1, .int x1), (2, .int x3_2), (3, .int x3_3)] [.int x7_, .int x3_2] _ _ (K, len, I7, J, R)
      have hF7 : Fr K [(11, 19), (85, 999), (86, 999), (87, 999), (88, 999)] I I7 := hF3.trans hf7 rfl rfl
      refine r_if_eq hC (tgt := 29) dX10_fitsUpTo_22 (by decide) (fun c8 => ?_) (fun c8 => ?_)
      · refine r_iconst hC (v := (0)) dX10_fitsUpTo_29 (by decide) (by decide) (fun x9_ e9 t9 => ?_)
        refine r_iadd hC dX10_fitsUpTo_30 (fun x10_ e10 => ?_)
        try have t10 : x10_.toInt = x3_2.toInt + x9_.toInt := by rw [e10]; exact ti_add (by omega) (by omega)
        refine r_istore_n hC (lv' := [(2, .int x10_), (0, .ref a0), (1, .int x1), (3, .int x3_3)]) dX10_fitsUpTo_31 (by decide) rfl ?_
        obtain ⟨x11_, e11⟩ : ∃ z : Int32, z = x3_3 + Int32.ofInt (1) := ⟨_, rfl⟩
        refine r_iinc hC (j := 3) (v := x11_) (lv' := [(3, .int x11_), (2, .int x10_), (0, .ref a0), (1, .int x1)]) dX10_fitsUpTo_32 rfl (by rw [e11]) (by decide) rfl ?_
        try have t11 : x11_.toInt = x3_3.toInt + (1) := by rw [e11]; exact (ti_add (b := Int32.ofInt (1)) (by show _ ≤ _ + (1 : Int); omega) (by show _ + (1 : Int) ≤ _; omega))
        refine r_goto hC (tgt := 4) dX10_fitsUpTo_35 (by decide) ?_
        refine r_sub [2, 3, 1, 0] rfl ?_
        exact ih3 ((6 - x11_.toInt).toNat) (by omega) x11_ x10_ I7 hs7 hF7 (by omega) (by omega) rfl
      · refine r_iconst hC (v := (1)) dX10_fitsUpTo_25 (by decide) (by decide) (fun x12_ e12 t12 => ?_)
        refine r_goto hC (tgt := 30) dX10_fitsUpTo_26 (by decide) ?_
        refine r_iadd hC dX10_fitsUpTo_30 (fun x13_ e13 => ?_)
        try have t13 : x13_.toInt = x3_2.toInt + x12_.toInt := by rw [e13]; exact ti_add (by omega) (by omega)
        refine r_istore_n hC (lv' := [(2, .int x13_), (0, .ref a0), (1, .int x1), (3, .int x3_3)]) dX10_fitsUpTo_31 (by decide) rfl ?_
        obtain ⟨x14_, e14⟩ : ∃ z : Int32, z = x3_3 + Int32.ofInt (1) := ⟨_, rfl⟩
        refine r_iinc hC (j := 3) (v := x14_) (lv' := [(3, .int x14_), (2, .int x13_), (0, .ref a0), (1, .int x1)]) dX10_fitsUpTo_32 rfl (by rw [e14]) (by decide) rfl ?_
        try have t14 : x14_.toInt = x3_3.toInt + (1) := by rw [e14]; exact (ti_add (b := Int32.ofInt (1)) (by show _ ≤ _ + (1 : Int); omega) (by show _ + (1 : Int) ≤ _; omega))
        refine r_goto hC (tgt := 4) dX10_fitsUpTo_35 (by decide) ?_
        refine r_sub [2, 3, 1, 0] rfl ?_
        exact ih3 ((6 - x14_.toInt).toNat) (by omega) x14_ x13_ I7 hs7 hF7 (by omega) (by omega) rfl
  refine r_sub [2, 3, 1, 0] rfl ?_
  exact LP3 _ x2_ x1_ I hs hF (by omega) (by omega) rfl
set_option maxHeartbeats 4000000 in
set_option maxRecDepth 100000 in
theorem c_X10_isLetting (g : GG) (l : Launch) (K len : Nat → Nat) (I : Nat → Nat → Int32) (J : Nat → Nat → Int64) (R : Nat → Nat → Option Nat) (hs : Sf K len I R) (a0 : Nat) (ka0 : K a0 = 11) (x1 : Int32) (hm : Nat) (hbm : R a0 3 = some hm) (khm : K hm = 10) (p0 : 0 ≤ x1.toInt) (p1 : x1.toInt ≤ 59) : Ct g l yX10_isLetting cX10_isLetting 2 (Option.some Jvm.ClassFile.FieldType.boolean) rmX10_isLetting [.ref a0, .int x1] (K, len, I, J, R) (pI0 (K, len, I, J, R) (fun r => (0 ≤ r.toInt) ∧ (r.toInt ≤ 1))) := by
  refine Ct_intro (by decide +kernel) (Nat.le_of_ble_eq_true rfl) (fun X hC hL hKK hNm hr hlk hQ => ?_)
  subst hL
  have hC : Cx g X cX10_isLetting "HillTapModel" 2 rmX10_isLetting := hC
  show P g X 2 0 [(0, .ref a0), (1, .int x1)] [] 0 0 (K, len, I, J, R)
  have hF : Fr K [] I I := Fr.refl
  have b_x1 := ti_rng x1
  refine r_aload_n hC dX10_isLetting_0 0 rfl ?_
  refine r_iload_n hC dX10_isLetting_1 1 rfl ?_
  refine r_callV hC (As := [.int x1]) (rest := []) (ci := 10) (c_X10_levelAt g (xL X) K len I J R hs a0 ka0 x1 hm hbm khm (by omega)) mT_6_220 mT_1_10 mT_6_217 mT_6_219 mP_87 okX10_levelAt ⟨by decide, by decide⟩ rfl (by show kO (K a0) = _; rw [ka0]; rfl) rfl rfl (Nat.le_of_ble_eq_true rfl) ⟨by decide, by decide⟩ dX10_isLetting_2 (aI0 (F := fun st M => P g X 2 5 [(0, .ref a0), (1, .int x1)] st _ _ M) (M := (K, len, I, J, R)) fun x1_ h1 => ?_)
  skip
  show P g X 2 5 [(0, .ref a0), (1, .int x1)] [.int x1_] _ _ (K, len, I, J, R)
  refine r_aload_n hC dX10_isLetting_5 0 rfl ?_
  refine r_iload_n hC dX10_isLetting_6 1 rfl ?_
  refine r_iconst hC (v := (1)) dX10_isLetting_7 (by decide) (by decide) (fun x2_ e2 t2 => ?_)
  refine r_isub hC dX10_isLetting_8 (fun x3_ e3 => ?_)
  try have t3 : x3_.toInt = x1.toInt - x2_.toInt := by rw [e3]; exact ti_sub (by omega) (by omega)
  refine r_callV hC (As := [.int x3_]) (rest := [.int x1_]) (ci := 10) (c_X10_levelAt g (xL X) K len I J R hs a0 ka0 x3_ hm hbm khm (by omega)) mT_6_220 mT_1_10 mT_6_217 mT_6_219 mP_87 okX10_levelAt ⟨by decide, by decide⟩ rfl (by show kO (K a0) = _; rw [ka0]; rfl) rfl rfl (Nat.le_of_ble_eq_true rfl) ⟨by decide, by decide⟩ dX10_isLetting_9 (aI0 (F := fun st M => P g X 2 12 [(0, .ref a0), (1, .int x1)] st _ _ M) (M := (K, len, I, J, R)) fun x4_ h4 => ?_)
  skip
  show P g X 2 12 [(0, .ref a0), (1, .int x1)] [.int x4_, .int x1_] _ _ (K, len, I, J, R)
  refine r_icmp_ge hC (tgt := 40) dX10_isLetting_12 (by decide) (fun c5 => ?_) (fun c5 => ?_)
  · refine r_iconst hC (v := (0)) dX10_isLetting_40 (by decide) (by decide) (fun x6_ e6 t6 => ?_)
    exact r_iret hC hQ hlk hr (by rw [e6]; rfl) (by decide) (by decide) dX10_isLetting_41 ⟨_, rfl, rfl, ⟨(by omega), (by omega)⟩⟩
  · refine r_iload_n hC dX10_isLetting_15 1 rfl ?_
    refine r_if_eq hC (tgt := 36) dX10_isLetting_16 (by decide) (fun c7 => ?_) (fun c7 => ?_)
    · refine r_iconst hC (v := (1)) dX10_isLetting_36 (by decide) (by decide) (fun x8_ e8 t8 => ?_)
      refine r_goto hC (tgt := 41) dX10_isLetting_37 (by decide) ?_
      exact r_iret hC hQ hlk hr (by rw [e8]; rfl) (by decide) (by decide) dX10_isLetting_41 ⟨_, rfl, rfl, ⟨(by omega), (by omega)⟩⟩
    · refine r_aload_n hC dX10_isLetting_19 0 rfl ?_
      refine r_iload_n hC dX10_isLetting_20 1 rfl ?_
      refine r_iconst hC (v := (1)) dX10_isLetting_21 (by decide) (by decide) (fun x9_ e9 t9 => ?_)
      refine r_isub hC dX10_isLetting_22 (fun x10_ e10 => ?_)
      try have t10 : x10_.toInt = x1.toInt - x9_.toInt := by rw [e10]; exact ti_sub (by omega) (by omega)
      refine r_callV hC (As := [.int x10_]) (rest := []) (ci := 10) (c_X10_levelAt g (xL X) K len I J R hs a0 ka0 x10_ hm hbm khm (by omega)) mT_6_220 mT_1_10 mT_6_217 mT_6_219 mP_87 okX10_levelAt ⟨by decide, by decide⟩ rfl (by show kO (K a0) = _; rw [ka0]; rfl) rfl rfl (Nat.le_of_ble_eq_true rfl) ⟨by decide, by decide⟩ dX10_isLetting_23 (aI0 (F := fun st M => P g X 2 26 [(0, .ref a0), (1, .int x1)] st _ _ M) (M := (K, len, I, J, R)) fun x11_ h11 => ?_)
      skip
      show P g X 2 26 [(0, .ref a0), (1, .int x1)] [.int x11_] _ _ (K, len, I, J, R)
      refine r_aload_n hC dX10_isLetting_26 0 rfl ?_
      refine r_iload_n hC dX10_isLetting_27 1 rfl ?_
      refine r_iconst hC (v := (2)) dX10_isLetting_28 (by decide) (by decide) (fun x12_ e12 t12 => ?_)
      refine r_isub hC dX10_isLetting_29 (fun x13_ e13 => ?_)
      try have t13 : x13_.toInt = x1.toInt - x12_.toInt := by rw [e13]; exact ti_sub (by omega) (by omega)
      refine r_callV hC (As := [.int x13_]) (rest := [.int x11_]) (ci := 10) (c_X10_levelAt g (xL X) K len I J R hs a0 ka0 x13_ hm hbm khm (by omega)) mT_6_220 mT_1_10 mT_6_217 mT_6_219 mP_87 okX10_levelAt ⟨by decide, by decide⟩ rfl (by show kO (K a0) = _; rw [ka0]; rfl) rfl rfl (Nat.le_of_ble_eq_true rfl) ⟨by decide, by decide⟩ dX10_isLetting_30 (aI0 (F := fun st M => P g X 2 33 [(0, .ref a0), (1, .int x1)] st _ _ M) (M := (K, len, I, J, R)) fun x14_ h14 => ?_)
      skip
      show P g X 2 33 [(0, .ref a0), (1, .int x1)] [.int x14_, .int x11_] _ _ (K, len, I, J, R)
      refine r_icmp_lt hC (tgt := 40) dX10_isLetting_33 (by decide) (fun c15 => ?_) (fun c15 => ?_)
      · refine r_iconst hC (v := (0)) dX10_isLetting_40 (by decide) (by decide) (fun x16_ e16 t16 => ?_)
        exact r_iret hC hQ hlk hr (by rw [e16]; rfl) (by decide) (by decide) dX10_isLetting_41 ⟨_, rfl, rfl, ⟨(by omega), (by omega)⟩⟩
      · refine r_iconst hC (v := (1)) dX10_isLetting_36 (by decide) (by decide) (fun x17_ e17 t17 => ?_)
        refine r_goto hC (tgt := 41) dX10_isLetting_37 (by decide) ?_
        exact r_iret hC hQ hlk hr (by rw [e17]; rfl) (by decide) (by decide) dX10_isLetting_41 ⟨_, rfl, rfl, ⟨(by omega), (by omega)⟩⟩
set_option maxHeartbeats 4000000 in
set_option maxRecDepth 100000 in
theorem c_X10_lettingsOf (g : GG) (l : Launch) (K len : Nat → Nat) (I : Nat → Nat → Int32) (J : Nat → Nat → Int64) (R : Nat → Nat → Option Nat) (hs : Sf K len I R) (a0 : Nat) (ka0 : K a0 = 11) (hm : Nat) (hbm : R a0 3 = some hm) (khm : K hm = 10) : Ct g l yX10_lettingsOf cX10_lettingsOf 3 (Option.some Jvm.ClassFile.FieldType.int) rmX10_lettingsOf [.ref a0] (K, len, I, J, R) (pI0 (K, len, I, J, R) (fun r => True)) := by
  refine Ct_intro (by decide +kernel) (Nat.le_of_ble_eq_true rfl) (fun X hC hL hKK hNm hr hlk hQ => ?_)
  subst hL
  have hC : Cx g X cX10_lettingsOf "HillTapModel" 3 rmX10_lettingsOf := hC
  show P g X 3 0 [(0, .ref a0)] [] 0 0 (K, len, I, J, R)
  have hF : Fr K [] I I := Fr.refl
  refine r_iconst hC (v := (0)) dX10_lettingsOf_0 (by decide) (by decide) (fun x1_ e1 t1 => ?_)
  refine r_istore_n hC (lv' := [(1, .int x1_), (0, .ref a0)]) dX10_lettingsOf_1 (by decide) rfl ?_
  refine r_iconst hC (v := (0)) dX10_lettingsOf_2 (by decide) (by decide) (fun x2_ e2 t2 => ?_)
  refine r_istore_n hC (lv' := [(2, .int x2_), (1, .int x1_), (0, .ref a0)]) dX10_lettingsOf_3 (by decide) rfl ?_
  have LP3 : ∀ (mu : Nat) (x3_2 : Int32) (x3_1 : Int32) (v3_0 : 0 ≤ x3_2.toInt) (v3_1 : x3_2.toInt ≤ 60), (60 - x3_2.toInt).toNat = mu → P g X 3 4 [(0, .ref a0), (1, .int x3_1), (2, .int x3_2)] [] 0 0 (K, len, I, J, R) := by
    intro mu; induction mu using Nat.strongRecOn with | ind mu ih => ?_
    intro x3_2 x3_1 v3_0 v3_1 hmu
    have ih3 := ih
    clear ih
    have hmu3 := hmu
    clear hmu
    refine r_iload_n hC dX10_lettingsOf_4 2 rfl ?_
    refine r_bipush hC (v := (60)) dX10_lettingsOf_5 (by decide) (by decide) (fun x4_ e4 t4 => ?_)
    refine r_icmp_ge hC (tgt := 32) dX10_lettingsOf_7 (by decide) (fun c5 => ?_) (fun c5 => ?_)
    · refine r_iload_n hC dX10_lettingsOf_32 1 rfl ?_
      exact r_iret hC hQ hlk hr rfl (by decide) (by decide) dX10_lettingsOf_33 ⟨_, rfl, rfl, trivial⟩
    · refine r_iload_n hC dX10_lettingsOf_10 1 rfl ?_
      refine r_aload_n hC dX10_lettingsOf_11 0 rfl ?_
      refine r_iload_n hC dX10_lettingsOf_12 2 rfl ?_
      refine r_callV hC (As := [.int x3_2]) (rest := [.int x3_1]) (ci := 10) (c_X10_isLetting g (xL X) K len I J R hs a0 ka0 x3_2 hm hbm khm (by omega) (by omega)) mT_6_216 mT_1_10 mT_6_213 mT_6_215 mP_86 okX10_isLetting ⟨by decide, by decide⟩ rfl (by show kO (K a0) = _; rw [ka0]; rfl) rfl rfl (Nat.le_of_ble_eq_true rfl) ⟨by decide, by decide⟩ dX10_lettingsOf_13 (aI0 (F := fun st M => P g X 3 16 [(0, .ref a0), (1, .int x3_1), (2, .int x3_2)] st _ _ M) (M := (K, len, I, J, R)) fun x6_ h6 => ?_)
      obtain ⟨k6_0, k6_1⟩ := h6
      show P g X 3 16 [(0, .ref a0), (1, .int x3_1), (2, .int x3_2)] [.int x6_, .int x3_1] _ _ (K, len, I, J, R)
      refine r_if_eq hC (tgt := 23) dX10_lettingsOf_16 (by decide) (fun c7 => ?_) (fun c7 => ?_)
      · refine r_iconst hC (v := (0)) dX10_lettingsOf_23 (by decide) (by decide) (fun x8_ e8 t8 => ?_)
        refine r_iadd hC dX10_lettingsOf_24 (fun x9_ e9 => ?_)
        try have t9 : x9_.toInt = x3_1.toInt + x8_.toInt := by rw [e9]; exact ti_add (by omega) (by omega)
        refine r_istore_n hC (lv' := [(1, .int x9_), (0, .ref a0), (2, .int x3_2)]) dX10_lettingsOf_25 (by decide) rfl ?_
        obtain ⟨x10_, e10⟩ : ∃ z : Int32, z = x3_2 + Int32.ofInt (1) := ⟨_, rfl⟩
        refine r_iinc hC (j := 2) (v := x10_) (lv' := [(2, .int x10_), (1, .int x9_), (0, .ref a0)]) dX10_lettingsOf_26 rfl (by rw [e10]) (by decide) rfl ?_
        try have t10 : x10_.toInt = x3_2.toInt + (1) := by rw [e10]; exact (ti_add (b := Int32.ofInt (1)) (by show _ ≤ _ + (1 : Int); omega) (by show _ + (1 : Int) ≤ _; omega))
        refine r_goto hC (tgt := 4) dX10_lettingsOf_29 (by decide) ?_
        refine r_sub [2, 1, 0] rfl ?_
        exact ih3 ((60 - x10_.toInt).toNat) (by omega) x10_ x9_ (by omega) (by omega) rfl
      · refine r_iconst hC (v := (1)) dX10_lettingsOf_19 (by decide) (by decide) (fun x11_ e11 t11 => ?_)
        refine r_goto hC (tgt := 24) dX10_lettingsOf_20 (by decide) ?_
        refine r_iadd hC dX10_lettingsOf_24 (fun x12_ e12 => ?_)
        try have t12 : x12_.toInt = x3_1.toInt + x11_.toInt := by rw [e12]; exact ti_add (by omega) (by omega)
        refine r_istore_n hC (lv' := [(1, .int x12_), (0, .ref a0), (2, .int x3_2)]) dX10_lettingsOf_25 (by decide) rfl ?_
        obtain ⟨x13_, e13⟩ : ∃ z : Int32, z = x3_2 + Int32.ofInt (1) := ⟨_, rfl⟩
        refine r_iinc hC (j := 2) (v := x13_) (lv' := [(2, .int x13_), (1, .int x12_), (0, .ref a0)]) dX10_lettingsOf_26 rfl (by rw [e13]) (by decide) rfl ?_
        try have t13 : x13_.toInt = x3_2.toInt + (1) := by rw [e13]; exact (ti_add (b := Int32.ofInt (1)) (by show _ ≤ _ + (1 : Int); omega) (by show _ + (1 : Int) ≤ _; omega))
        refine r_goto hC (tgt := 4) dX10_lettingsOf_29 (by decide) ?_
        refine r_sub [2, 1, 0] rfl ?_
        exact ih3 ((60 - x13_.toInt).toNat) (by omega) x13_ x12_ (by omega) (by omega) rfl
  refine r_sub [2, 1, 0] rfl ?_
  exact LP3 _ x2_ x1_ (by omega) (by omega) rfl
set_option maxHeartbeats 4000000 in
set_option maxRecDepth 100000 in
theorem c_X10_isHeld (g : GG) (l : Launch) (K len : Nat → Nat) (I : Nat → Nat → Int32) (J : Nat → Nat → Int64) (R : Nat → Nat → Option Nat) (hs : Sf K len I R) (a0 : Nat) (ka0 : K a0 = 11) (x1 : Int32) (hm : Nat) (hbm : R a0 3 = some hm) (khm : K hm = 10) (p0 : 0 ≤ x1.toInt) (p1 : x1.toInt ≤ 59) : Ct g l yX10_isHeld cX10_isHeld 3 (Option.some Jvm.ClassFile.FieldType.boolean) rmX10_isHeld [.ref a0, .int x1] (K, len, I, J, R) (pI0 (K, len, I, J, R) (fun r => (0 ≤ r.toInt) ∧ (r.toInt ≤ 1))) := by
  refine Ct_intro (by decide +kernel) (Nat.le_of_ble_eq_true rfl) (fun X hC hL hKK hNm hr hlk hQ => ?_)
  subst hL
  have hC : Cx g X cX10_isHeld "HillTapModel" 3 rmX10_isHeld := hC
  show P g X 3 0 [(0, .ref a0), (1, .int x1)] [] 0 0 (K, len, I, J, R)
  have hF : Fr K [] I I := Fr.refl
  have b_x1 := ti_rng x1
  refine r_iload_n hC dX10_isHeld_0 1 rfl ?_
  refine r_iconst hC (v := (5)) dX10_isHeld_1 (by decide) (by decide) (fun x1_ e1 t1 => ?_)
  refine r_iadd hC dX10_isHeld_2 (fun x2_ e2 => ?_)
  try have t2 : x2_.toInt = x1.toInt + x1_.toInt := by rw [e2]; exact ti_add (by omega) (by omega)
  refine r_bipush hC (v := (59)) dX10_isHeld_3 (by decide) (by decide) (fun x3_ e3 t3 => ?_)
  refine r_icmp_le hC (tgt := 13) dX10_isHeld_5 (by decide) (fun c4 => ?_) (fun c4 => ?_)
  · refine r_iload_n hC dX10_isHeld_13 1 rfl ?_
    refine r_iconst hC (v := (5)) dX10_isHeld_14 (by decide) (by decide) (fun x5_ e5 t5 => ?_)
    refine r_iadd hC dX10_isHeld_15 (fun x6_ e6 => ?_)
    try have t6 : x6_.toInt = x1.toInt + x5_.toInt := by rw [e6]; exact ti_add (by omega) (by omega)
    refine r_istore_n hC (lv' := [(2, .int x6_), (0, .ref a0), (1, .int x1)]) dX10_isHeld_16 (by decide) rfl ?_
    refine r_aload_n hC dX10_isHeld_17 1 rfl ?_
    refine r_iload_n hC dX10_isHeld_18 0 rfl ?_
    refine r_callV hC (As := [.int x6_]) (rest := []) (ci := 10) (c_X10_speeds g (xL X) K len I J R hs a0 ka0 x6_ hm hbm khm (by omega)) mT_6_167 mT_1_10 mT_6_164 mT_6_166 mP_81 okX10_speeds ⟨by decide, by decide⟩ rfl (by show kO (K a0) = _; rw [ka0]; rfl) rfl rfl (Nat.le_of_ble_eq_true rfl) ⟨by decide, by decide⟩ dX10_isHeld_19 (aI0 (F := fun st M => P g X 3 22 [(2, .int x6_), (0, .ref a0), (1, .int x1)] st _ _ M) (M := (K, len, I, J, R)) fun x7_ h7 => ?_)
    skip
    show P g X 3 22 [(2, .int x6_), (0, .ref a0), (1, .int x1)] [.int x7_] _ _ (K, len, I, J, R)
    refine r_aload_n hC dX10_isHeld_22 1 rfl ?_
    refine r_iload_n hC dX10_isHeld_23 2 rfl ?_
    refine r_iconst hC (v := (1)) dX10_isHeld_24 (by decide) (by decide) (fun x8_ e8 t8 => ?_)
    refine r_isub hC dX10_isHeld_25 (fun x9_ e9 => ?_)
    try have t9 : x9_.toInt = x1.toInt - x8_.toInt := by rw [e9]; exact ti_sub (by omega) (by omega)
    refine r_callV hC (As := [.int x9_]) (rest := [.int x7_]) (ci := 10) (c_X10_speeds g (xL X) K len I J R hs a0 ka0 x9_ hm hbm khm (by omega)) mT_6_167 mT_1_10 mT_6_164 mT_6_166 mP_81 okX10_speeds ⟨by decide, by decide⟩ rfl (by show kO (K a0) = _; rw [ka0]; rfl) rfl rfl (Nat.le_of_ble_eq_true rfl) ⟨by decide, by decide⟩ dX10_isHeld_26 (aI0 (F := fun st M => P g X 3 29 [(2, .int x6_), (0, .ref a0), (1, .int x1)] st _ _ M) (M := (K, len, I, J, R)) fun x10_ h10 => ?_)
    skip
    show P g X 3 29 [(2, .int x6_), (0, .ref a0), (1, .int x1)] [.int x10_, .int x7_] _ _ (K, len, I, J, R)
    refine r_icmp_ge hC (tgt := 53) dX10_isHeld_29 (by decide) (fun c11 => ?_) (fun c11 => ?_)
    · refine r_iconst hC (v := (0)) dX10_isHeld_53 (by decide) (by decide) (fun x12_ e12 t12 => ?_)
      exact r_iret hC hQ hlk hr (by rw [e12]; rfl) (by decide) (by decide) dX10_isHeld_54 ⟨_, rfl, rfl, ⟨(by omega), (by omega)⟩⟩
    · refine r_aload_n hC dX10_isHeld_32 1 rfl ?_
      refine r_geti hC 19 (ci := 10) rfl u10_in (by decide) mT_5_14 dX10_isHeld_33 ka0 rfl rfl (fun x13_ e13 => ?_)
      have r13 := hs.rng ka0 rfl e13
      have q13 := hs.gone ka0 e13
      refine r_bipush hC (v := (-2)) dX10_isHeld_36 (by decide) (by decide) (fun x14_ e14 t14 => ?_)
      refine r_icmp_eq hC (tgt := 49) dX10_isHeld_38 (by decide) (fun c15 => ?_) (fun c15 => ?_)
      · refine r_iconst hC (v := (1)) dX10_isHeld_49 (by decide) (by decide) (fun x16_ e16 t16 => ?_)
        refine r_goto hC (tgt := 54) dX10_isHeld_50 (by decide) ?_
        exact r_iret hC hQ hlk hr (by rw [e16]; rfl) (by decide) (by decide) dX10_isHeld_54 ⟨_, rfl, rfl, ⟨(by omega), (by omega)⟩⟩
      · refine r_aload_n hC dX10_isHeld_41 1 rfl ?_
        refine r_geti hC 19 (ci := 10) rfl u10_in (by decide) mT_5_14 dX10_isHeld_42 ka0 rfl rfl (fun x17_ e17 => ?_)
        have r17 := hs.rng ka0 rfl e17
        have q17 := hs.gone ka0 e17
        have w17 : x17_ = x13_ := by rw [e17]; exact e13.symm
        have wt17 : x17_.toInt = x13_.toInt := by rw [w17]
        refine r_iload_n hC dX10_isHeld_45 0 rfl ?_
        refine r_icmp_le hC (tgt := 53) dX10_isHeld_46 (by decide) (fun c18 => ?_) (fun c18 => ?_)
        · refine r_iconst hC (v := (0)) dX10_isHeld_53 (by decide) (by decide) (fun x19_ e19 t19 => ?_)
          exact r_iret hC hQ hlk hr (by rw [e19]; rfl) (by decide) (by decide) dX10_isHeld_54 ⟨_, rfl, rfl, ⟨(by omega), (by omega)⟩⟩
        · refine r_iconst hC (v := (1)) dX10_isHeld_49 (by decide) (by decide) (fun x20_ e20 t20 => ?_)
          refine r_goto hC (tgt := 54) dX10_isHeld_50 (by decide) ?_
          exact r_iret hC hQ hlk hr (by rw [e20]; rfl) (by decide) (by decide) dX10_isHeld_54 ⟨_, rfl, rfl, ⟨(by omega), (by omega)⟩⟩
  · refine r_bipush hC (v := (59)) dX10_isHeld_8 (by decide) (by decide) (fun x21_ e21 t21 => ?_)
    refine r_goto hC (tgt := 16) dX10_isHeld_10 (by decide) ?_
    refine r_istore_n hC (lv' := [(2, .int x21_), (0, .ref a0), (1, .int x1)]) dX10_isHeld_16 (by decide) rfl ?_
    refine r_aload_n hC dX10_isHeld_17 1 rfl ?_
    refine r_iload_n hC dX10_isHeld_18 0 rfl ?_
    refine r_callV hC (As := [.int x21_]) (rest := []) (ci := 10) (c_X10_speeds g (xL X) K len I J R hs a0 ka0 x21_ hm hbm khm (by omega)) mT_6_167 mT_1_10 mT_6_164 mT_6_166 mP_81 okX10_speeds ⟨by decide, by decide⟩ rfl (by show kO (K a0) = _; rw [ka0]; rfl) rfl rfl (Nat.le_of_ble_eq_true rfl) ⟨by decide, by decide⟩ dX10_isHeld_19 (aI0 (F := fun st M => P g X 3 22 [(2, .int x21_), (0, .ref a0), (1, .int x1)] st _ _ M) (M := (K, len, I, J, R)) fun x22_ h22 => ?_)
    skip
    show P g X 3 22 [(2, .int x21_), (0, .ref a0), (1, .int x1)] [.int x22_] _ _ (K, len, I, J, R)
    refine r_aload_n hC dX10_isHeld_22 1 rfl ?_
    refine r_iload_n hC dX10_isHeld_23 2 rfl ?_
    refine r_iconst hC (v := (1)) dX10_isHeld_24 (by decide) (by decide) (fun x23_ e23 t23 => ?_)
    refine r_isub hC dX10_isHeld_25 (fun x24_ e24 => ?_)
    try have t24 : x24_.toInt = x1.toInt - x23_.toInt := by rw [e24]; exact ti_sub (by omega) (by omega)
    refine r_callV hC (As := [.int x24_]) (rest := [.int x22_]) (ci := 10) (c_X10_speeds g (xL X) K len I J R hs a0 ka0 x24_ hm hbm khm (by omega)) mT_6_167 mT_1_10 mT_6_164 mT_6_166 mP_81 okX10_speeds ⟨by decide, by decide⟩ rfl (by show kO (K a0) = _; rw [ka0]; rfl) rfl rfl (Nat.le_of_ble_eq_true rfl) ⟨by decide, by decide⟩ dX10_isHeld_26 (aI0 (F := fun st M => P g X 3 29 [(2, .int x21_), (0, .ref a0), (1, .int x1)] st _ _ M) (M := (K, len, I, J, R)) fun x25_ h25 => ?_)
    skip
    show P g X 3 29 [(2, .int x21_), (0, .ref a0), (1, .int x1)] [.int x25_, .int x22_] _ _ (K, len, I, J, R)
    refine r_icmp_ge hC (tgt := 53) dX10_isHeld_29 (by decide) (fun c26 => ?_) (fun c26 => ?_)
    · refine r_iconst hC (v := (0)) dX10_isHeld_53 (by decide) (by decide) (fun x27_ e27 t27 => ?_)
      exact r_iret hC hQ hlk hr (by rw [e27]; rfl) (by decide) (by decide) dX10_isHeld_54 ⟨_, rfl, rfl, ⟨(by omega), (by omega)⟩⟩
    · refine r_aload_n hC dX10_isHeld_32 1 rfl ?_
      refine r_geti hC 19 (ci := 10) rfl u10_in (by decide) mT_5_14 dX10_isHeld_33 ka0 rfl rfl (fun x28_ e28 => ?_)
      have r28 := hs.rng ka0 rfl e28
      have q28 := hs.gone ka0 e28
      refine r_bipush hC (v := (-2)) dX10_isHeld_36 (by decide) (by decide) (fun x29_ e29 t29 => ?_)
      refine r_icmp_eq hC (tgt := 49) dX10_isHeld_38 (by decide) (fun c30 => ?_) (fun c30 => ?_)
      · refine r_iconst hC (v := (1)) dX10_isHeld_49 (by decide) (by decide) (fun x31_ e31 t31 => ?_)
        refine r_goto hC (tgt := 54) dX10_isHeld_50 (by decide) ?_
        exact r_iret hC hQ hlk hr (by rw [e31]; rfl) (by decide) (by decide) dX10_isHeld_54 ⟨_, rfl, rfl, ⟨(by omega), (by omega)⟩⟩
      · refine r_aload_n hC dX10_isHeld_41 1 rfl ?_
        refine r_geti hC 19 (ci := 10) rfl u10_in (by decide) mT_5_14 dX10_isHeld_42 ka0 rfl rfl (fun x32_ e32 => ?_)
        have r32 := hs.rng ka0 rfl e32
        have q32 := hs.gone ka0 e32
        have w32 : x32_ = x28_ := by rw [e32]; exact e28.symm
        have wt32 : x32_.toInt = x28_.toInt := by rw [w32]
        refine r_iload_n hC dX10_isHeld_45 0 rfl ?_
        refine r_icmp_le hC (tgt := 53) dX10_isHeld_46 (by decide) (fun c33 => ?_) (fun c33 => ?_)
        · refine r_iconst hC (v := (0)) dX10_isHeld_53 (by decide) (by decide) (fun x34_ e34 t34 => ?_)
          exact r_iret hC hQ hlk hr (by rw [e34]; rfl) (by decide) (by decide) dX10_isHeld_54 ⟨_, rfl, rfl, ⟨(by omega), (by omega)⟩⟩
        · refine r_iconst hC (v := (1)) dX10_isHeld_49 (by decide) (by decide) (fun x35_ e35 t35 => ?_)
          refine r_goto hC (tgt := 54) dX10_isHeld_50 (by decide) ?_
          exact r_iret hC hQ hlk hr (by rw [e35]; rfl) (by decide) (by decide) dX10_isHeld_54 ⟨_, rfl, rfl, ⟨(by omega), (by omega)⟩⟩
set_option maxHeartbeats 4000000 in
set_option maxRecDepth 100000 in
theorem c_X10_tapOf (g : GG) (l : Launch) (K len : Nat → Nat) (I : Nat → Nat → Int32) (J : Nat → Nat → Int64) (R : Nat → Nat → Option Nat) (hs : Sf K len I R) (a0 : Nat) (ka0 : K a0 = 11) (x1 : Int32) (hm : Nat) (hbm : R a0 3 = some hm) (khm : K hm = 10) (ps1 : x1.toInt < (I hm 7).toInt) (p0 : 0 ≤ x1.toInt) (p1 : x1.toInt ≤ 5) : Ct g l yX10_tapOf cX10_tapOf 4 (Option.some Jvm.ClassFile.FieldType.int) rmX10_tapOf [.ref a0, .int x1] (K, len, I, J, R) (pI1 (K, len, I, J, R) (fun r I' => Sf K len I' R ∧ Fr K [(11, 19), (85, 999), (86, 999), (87, 999), (88, 999)] I I')) := by
  refine Ct_intro (by decide +kernel) (Nat.le_of_ble_eq_true rfl) (fun X hC hL hKK hNm hr hlk hQ => ?_)
  subst hL
  have hC : Cx g X cX10_tapOf "HillTapModel" 4 rmX10_tapOf := hC
  show P g X 4 0 [(0, .ref a0), (1, .int x1)] [] 0 0 (K, len, I, J, R)
  have hF : Fr K [(11, 19), (85, 999), (86, 999), (87, 999), (88, 999)] I I := Fr.refl
  have b_x1 := ti_rng x1
  obtain ⟨S0, eS0⟩ : ∃ z : Int32, z = I hm 7 := ⟨_, rfl⟩
  have fS0 : S0.toInt = (I hm 7).toInt := by rw [eS0]
  have rS0 := hs.rng khm rfl eS0
  refine r_aload_n hC dX10_tapOf_0 0 rfl ?_
  refine r_iload_n hC dX10_tapOf_1 1 rfl ?_
  have hv1 : I hm 7 = S0 := eS0.symm
  refine r_callV hC (As := [.int x1]) (rest := []) (ci := 10) (c_X10_runsAsTold g (xL X) K len I J R hs a0 ka0 x1 hm hbm khm (by rw [hv1]; omega) (by omega) (by omega)) mT_6_127 mT_1_10 mT_6_124 mT_6_126 mP_73 okX10_runsAsTold ⟨by decide, by decide⟩ rfl (by show kO (K a0) = _; rw [ka0]; rfl) rfl rfl (Nat.le_of_ble_eq_true rfl) ⟨by decide, by decide⟩ dX10_tapOf_2 (aV1 (F := fun st M => P g X 4 5 [(0, .ref a0), (1, .int x1)] st _ _ M) (M := (K, len, I, J, R)) fun I2 h2 => ?_)
  obtain ⟨hs2, hf2⟩ := h2
  show P g X 4 5 [(0, .ref a0), (1, .int x1)] [] _ _ (K, len, I2, J, R)
  have hF2 : Fr K [(11, 19), (85, 999), (86, 999), (87, 999), (88, 999)] I I2 := hF.trans hf2 rfl rfl
  refine r_iconst hC (v := (0)) dX10_tapOf_5 (by decide) (by decide) (fun x3_ e3 t3 => ?_)
  refine r_istore_n hC (lv' := [(2, .int x3_), (0, .ref a0), (1, .int x1)]) dX10_tapOf_6 (by decide) rfl ?_
  refine r_iconst hC (v := (0)) dX10_tapOf_7 (by decide) (by decide) (fun x4_ e4 t4 => ?_)
  refine r_istore_n hC (lv' := [(3, .int x4_), (2, .int x3_), (0, .ref a0), (1, .int x1)]) dX10_tapOf_8 (by decide) rfl ?_
  have LP5 : ∀ (mu : Nat) (x5_3 : Int32) (x5_2 : Int32) (v5_0 : 0 ≤ x5_3.toInt) (v5_1 : x5_3.toInt ≤ 60), (60 - x5_3.toInt).toNat = mu → P g X 4 9 [(0, .ref a0), (1, .int x1), (2, .int x5_2), (3, .int x5_3)] [] 0 0 (K, len, I2, J, R) := by
    intro mu; induction mu using Nat.strongRecOn with | ind mu ih => ?_
    intro x5_3 x5_2 v5_0 v5_1 hmu
    have ih5 := ih
    clear ih
    have hmu5 := hmu
    clear hmu
    refine r_iload_n hC dX10_tapOf_9 3 rfl ?_
    refine r_bipush hC (v := (60)) dX10_tapOf_10 (by decide) (by decide) (fun x6_ e6 t6 => ?_)
    refine r_icmp_ge hC (tgt := 45) dX10_tapOf_12 (by decide) (fun c7 => ?_) (fun c7 => ?_)
    · refine r_iload_n hC dX10_tapOf_45 2 rfl ?_
      exact r_iret hC hQ hlk hr rfl (by decide) (by decide) dX10_tapOf_46 ⟨_, _, rfl, rfl, ⟨hs2, hF2⟩⟩
    · refine r_aload_n hC dX10_tapOf_15 0 rfl ?_
      refine r_iload_n hC dX10_tapOf_16 3 rfl ?_
      refine r_callV hC (As := [.int x5_3]) (rest := []) (ci := 10) (c_X10_isLetting g (xL X) K len I2 J R hs2 a0 ka0 x5_3 hm hbm khm (by omega) (by omega)) mT_6_216 mT_1_10 mT_6_213 mT_6_215 mP_86 okX10_isLetting ⟨by decide, by decide⟩ rfl (by show kO (K a0) = _; rw [ka0]; rfl) rfl rfl (Nat.le_of_ble_eq_true rfl) ⟨by decide, by decide⟩ dX10_tapOf_17 (aI0 (F := fun st M => P g X 4 20 [(0, .ref a0), (1, .int x1), (2, .int x5_2), (3, .int x5_3)] st _ _ M) (M := (K, len, I2, J, R)) fun x8_ h8 => ?_)
      obtain ⟨k8_0, k8_1⟩ := h8
      show P g X 4 20 [(0, .ref a0), (1, .int x1), (2, .int x5_2), (3, .int x5_3)] [.int x8_] _ _ (K, len, I2, J, R)
      refine r_if_ne hC (tgt := 26) dX10_tapOf_20 (by decide) (fun c9 => ?_) (fun c9 => ?_)
      · refine r_aload_n hC dX10_tapOf_26 0 rfl ?_
        refine r_iload_n hC dX10_tapOf_27 3 rfl ?_
        refine r_callV hC (As := [.int x5_3]) (rest := []) (ci := 10) (c_X10_isHeld g (xL X) K len I2 J R hs2 a0 ka0 x5_3 hm hbm khm (by omega) (by omega)) mT_6_232 mT_1_10 mT_6_229 mT_6_231 mP_89 okX10_isHeld ⟨by decide, by decide⟩ rfl (by show kO (K a0) = _; rw [ka0]; rfl) rfl rfl (Nat.le_of_ble_eq_true rfl) ⟨by decide, by decide⟩ dX10_tapOf_28 (aI0 (F := fun st M => P g X 4 31 [(0, .ref a0), (1, .int x1), (2, .int x5_2), (3, .int x5_3)] st _ _ M) (M := (K, len, I2, J, R)) fun x10_ h10 => ?_)
        obtain ⟨k10_0, k10_1⟩ := h10
        show P g X 4 31 [(0, .ref a0), (1, .int x1), (2, .int x5_2), (3, .int x5_3)] [.int x10_] _ _ (K, len, I2, J, R)
        refine r_if_ne hC (tgt := 36) dX10_tapOf_31 (by decide) (fun c11 => ?_) (fun c11 => ?_)
        · obtain ⟨x12_, e12⟩ : ∃ z : Int32, z = x5_2 + Int32.ofInt (1) := ⟨_, rfl⟩
          refine r_iinc hC (j := 2) (v := x12_) (lv' := [(2, .int x12_), (0, .ref a0), (1, .int x1), (3, .int x5_3)]) dX10_tapOf_36 rfl (by rw [e12]) (by decide) rfl ?_
          try have t12 : x12_.toInt = x5_2.toInt + (1) := by rw [e12]; exact (ti_add (b := Int32.ofInt (1)) (by show _ ≤ _ + (1 : Int); omega) (by show _ + (1 : Int) ≤ _; omega))
          obtain ⟨x13_, e13⟩ : ∃ z : Int32, z = x5_3 + Int32.ofInt (1) := ⟨_, rfl⟩
          refine r_iinc hC (j := 3) (v := x13_) (lv' := [(3, .int x13_), (2, .int x12_), (0, .ref a0), (1, .int x1)]) dX10_tapOf_39 rfl (by rw [e13]) (by decide) rfl ?_
          try have t13 : x13_.toInt = x5_3.toInt + (1) := by rw [e13]; exact (ti_add (b := Int32.ofInt (1)) (by show _ ≤ _ + (1 : Int); omega) (by show _ + (1 : Int) ≤ _; omega))
          refine r_goto hC (tgt := 9) dX10_tapOf_42 (by decide) ?_
          refine r_sub [2, 3, 1, 0] rfl ?_
          exact ih5 ((60 - x13_.toInt).toNat) (by omega) x13_ x12_ (by omega) (by omega) rfl
        · refine r_iload_n hC dX10_tapOf_34 2 rfl ?_
          exact r_iret hC hQ hlk hr rfl (by decide) (by decide) dX10_tapOf_35 ⟨_, _, rfl, rfl, ⟨hs2, hF2⟩⟩
      · refine r_goto hC (tgt := 39) dX10_tapOf_23 (by decide) ?_
        obtain ⟨x14_, e14⟩ : ∃ z : Int32, z = x5_3 + Int32.ofInt (1) := ⟨_, rfl⟩
        refine r_iinc hC (j := 3) (v := x14_) (lv' := [(3, .int x14_), (0, .ref a0), (1, .int x1), (2, .int x5_2)]) dX10_tapOf_39 rfl (by rw [e14]) (by decide) rfl ?_
        try have t14 : x14_.toInt = x5_3.toInt + (1) := by rw [e14]; exact (ti_add (b := Int32.ofInt (1)) (by show _ ≤ _ + (1 : Int); omega) (by show _ + (1 : Int) ≤ _; omega))
        refine r_goto hC (tgt := 9) dX10_tapOf_42 (by decide) ?_
        refine r_sub [1, 2, 3, 0] rfl ?_
        exact ih5 ((60 - x14_.toInt).toNat) (by omega) x14_ x5_2 (by omega) (by omega) rfl
  refine r_sub [2, 3, 1, 0] rfl ?_
  exact LP5 _ x4_ x3_ (by omega) (by omega) rfl
set_option maxHeartbeats 4000000 in
set_option maxRecDepth 100000 in
theorem c_X10_isHelp (g : GG) (l : Launch) (K len : Nat → Nat) (I : Nat → Nat → Int32) (J : Nat → Nat → Int64) (R : Nat → Nat → Option Nat) (hs : Sf K len I R) (a0 : Nat) (ka0 : K a0 = 11) (x1 : Int32) (x2 : Int32) (hm : Nat) (hbm : R a0 3 = some hm) (khm : K hm = 10) (ps1 : x1.toInt < (I hm 7).toInt) (p0 : 0 ≤ x1.toInt) (p1 : x1.toInt ≤ 5) : Ct g l yX10_isHelp cX10_isHelp 3 (Option.some Jvm.ClassFile.FieldType.boolean) rmX10_isHelp [.ref a0, .int x1, .int x2] (K, len, I, J, R) (pI1 (K, len, I, J, R) (fun r I' => Sf K len I' R ∧ Fr K [(11, 19), (85, 999), (86, 999), (87, 999), (88, 999)] I I' ∧ (0 ≤ r.toInt) ∧ (r.toInt ≤ 1))) := by
  refine Ct_intro (by decide +kernel) (Nat.le_of_ble_eq_true rfl) (fun X hC hL hKK hNm hr hlk hQ => ?_)
  subst hL
  have hC : Cx g X cX10_isHelp "HillTapModel" 3 rmX10_isHelp := hC
  show P g X 3 0 [(0, .ref a0), (1, .int x1), (2, .int x2)] [] 0 0 (K, len, I, J, R)
  have hF : Fr K [(11, 19), (85, 999), (86, 999), (87, 999), (88, 999)] I I := Fr.refl
  have b_x1 := ti_rng x1
  have b_x2 := ti_rng x2
  obtain ⟨S0, eS0⟩ : ∃ z : Int32, z = I hm 7 := ⟨_, rfl⟩
  have fS0 : S0.toInt = (I hm 7).toInt := by rw [eS0]
  have rS0 := hs.rng khm rfl eS0
  refine r_aload_n hC dX10_isHelp_0 0 rfl ?_
  refine r_iload_n hC dX10_isHelp_1 2 rfl ?_
  refine r_iconst hC (v := (-1)) dX10_isHelp_2 (by decide) (by decide) (fun x1_ e1 t1 => ?_)
  refine r_callV hC (As := [.int x2, .int x1_]) (rest := []) (ci := 10) (c_X10_fills g (xL X) K len I J R hs a0 ka0 x2 x1_ hm hbm khm) mT_6_99 mT_1_10 mT_6_96 mT_6_98 mP_69 okX10_fills ⟨by decide, by decide⟩ rfl (by show kO (K a0) = _; rw [ka0]; rfl) rfl rfl (Nat.le_of_ble_eq_true rfl) ⟨by decide, by decide⟩ dX10_isHelp_3 (aV1 (F := fun st M => P g X 3 6 [(0, .ref a0), (1, .int x1), (2, .int x2)] st _ _ M) (M := (K, len, I, J, R)) fun I2 h2 => ?_)
  obtain ⟨hs2, hf2⟩ := h2
  show P g X 3 6 [(0, .ref a0), (1, .int x1), (2, .int x2)] [] _ _ (K, len, I2, J, R)
  have hF2 : Fr K [(11, 19), (85, 999), (86, 999), (87, 999), (88, 999)] I I2 := hF.trans hf2 rfl rfl
  refine r_aload_n hC dX10_isHelp_6 0 rfl ?_
  refine r_iload_n hC dX10_isHelp_7 1 rfl ?_
  refine r_iconst hC (v := (1)) dX10_isHelp_8 (by decide) (by decide) (fun x3_ e3 t3 => ?_)
  have hv4 : I2 hm 7 = S0 := (Eq.trans (hf2.get khm rfl) eS0.symm)
  refine r_callV hC (As := [.int x1, .int x3_]) (rest := []) (ci := 10) (c_X10_runs g (xL X) K len I2 J R hs2 a0 ka0 x1 x3_ hm hbm khm (by rw [hv4]; omega) (by omega) (by omega)) mT_6_131 mT_1_10 mT_6_128 mT_6_130 mP_74 okX10_runs ⟨by decide, by decide⟩ rfl (by show kO (K a0) = _; rw [ka0]; rfl) rfl rfl (Nat.le_of_ble_eq_true rfl) ⟨by decide, by decide⟩ dX10_isHelp_9 (aV1 (F := fun st M => P g X 3 12 [(0, .ref a0), (1, .int x1), (2, .int x2)] st _ _ M) (M := (K, len, I2, J, R)) fun I5 h5 => ?_)
  obtain ⟨hs5, hf5⟩ := h5
  show P g X 3 12 [(0, .ref a0), (1, .int x1), (2, .int x2)] [] _ _ (K, len, I5, J, R)
  have hF5 : Fr K [(11, 19), (85, 999), (86, 999), (87, 999), (88, 999)] I I5 := hF2.trans hf5 rfl rfl
  refine r_aload_n hC dX10_isHelp_12 0 rfl ?_
  refine r_geti hC 19 (ci := 10) rfl u10_in (by decide) mT_5_14 dX10_isHelp_13 ka0 rfl rfl (fun x6_ e6 => ?_)
  have r6 := hs5.rng ka0 rfl e6
  have q6 := hs5.gone ka0 e6
  refine r_bipush hC (v := (-2)) dX10_isHelp_16 (by decide) (by decide) (fun x7_ e7 t7 => ?_)
  refine r_icmp_ne hC (tgt := 25) dX10_isHelp_18 (by decide) (fun c8 => ?_) (fun c8 => ?_)
  · refine r_iconst hC (v := (0)) dX10_isHelp_25 (by decide) (by decide) (fun x9_ e9 t9 => ?_)
    exact r_iret hC hQ hlk hr (by rw [e9]; rfl) (by decide) (by decide) dX10_isHelp_26 ⟨_, _, rfl, rfl, ⟨hs5, hF5, (by omega), (by omega)⟩⟩
  · refine r_iconst hC (v := (1)) dX10_isHelp_21 (by decide) (by decide) (fun x10_ e10 t10 => ?_)
    refine r_goto hC (tgt := 26) dX10_isHelp_22 (by decide) ?_
    exact r_iret hC hQ hlk hr (by rw [e10]; rfl) (by decide) (by decide) dX10_isHelp_26 ⟨_, _, rfl, rfl, ⟨hs5, hF5, (by omega), (by omega)⟩⟩
set_option maxHeartbeats 4000000 in
set_option maxRecDepth 100000 in
theorem c_X10_foundBy (g : GG) (l : Launch) (K len : Nat → Nat) (I : Nat → Nat → Int32) (J : Nat → Nat → Int64) (R : Nat → Nat → Option Nat) (hs : Sf K len I R) (a0 : Nat) (ka0 : K a0 = 11) (x1 : Int32) (x2 : Int32) (hm : Nat) (hbm : R a0 3 = some hm) (khm : K hm = 10) (p0 : 0 ≤ x1.toInt) (p1 : x1.toInt ≤ 5) : Ct g l yX10_foundBy cX10_foundBy 4 (Option.some Jvm.ClassFile.FieldType.int) rmX10_foundBy [.ref a0, .int x1, .int x2] (K, len, I, J, R) (pI0 (K, len, I, J, R) (fun r => True)) := by
  refine Ct_intro (by decide +kernel) (Nat.le_of_ble_eq_true rfl) (fun X hC hL hKK hNm hr hlk hQ => ?_)
  subst hL
  have hC : Cx g X cX10_foundBy "HillTapModel" 4 rmX10_foundBy := hC
  show P g X 4 0 [(0, .ref a0), (1, .int x1), (2, .int x2)] [] 0 0 (K, len, I, J, R)
  have hF : Fr K [] I I := Fr.refl
  have b_x1 := ti_rng x1
  have b_x2 := ti_rng x2
  refine r_aload_n hC dX10_foundBy_0 0 rfl ?_
  refine r_getr hC 3 (ci := 10) rfl u10_in (by decide) mT_4_238 dX10_foundBy_1 ka0 rfl rfl hbm ?_
  obtain ⟨a1_, hb1, hk1, hn1⟩ := hs.row khm 18 76 6 (by decide) (by decide)
  refine r_getrN hC 18 (ci := 9) rfl u9_in (by decide) nF_18 dX10_foundBy_4 khm rfl rfl hb1 ?_
  refine r_iload_n hC dX10_foundBy_7 1 rfl ?_
  refine x_iaload hC hk1 hn1 (by decide) rfl rfl dX10_foundBy_8 (by omega) (by omega) (fun x2_ e2 => ?_)
  refine r_istore_n hC (lv' := [(3, .int x2_), (0, .ref a0), (1, .int x1), (2, .int x2)]) dX10_foundBy_9 (by decide) rfl ?_
  refine r_aload_n hC dX10_foundBy_10 1 rfl ?_
  refine r_getr hC 3 (ci := 10) rfl u10_in (by decide) mT_4_238 dX10_foundBy_11 ka0 rfl rfl hbm ?_
  obtain ⟨kd3, mo3, hb3, hk3, hn3, hB3, hK3, hN3⟩ := hs.2.2.1 hm khm
  refine r_getrN hC 17 (ci := 9) rfl u9_in (by decide) nF_17 dX10_foundBy_14 khm rfl rfl hb3 ?_
  refine r_iload_n hC dX10_foundBy_17 2 rfl ?_
  refine x_iaload hC hk3 hn3 (by omega) (kOb (by omega)) (kAb (by omega)) dX10_foundBy_18 (by omega) (by omega) (fun x4_ e4 => ?_)
  by_cases o5 : x4_.toInt < 1 ∨ 5 < x4_.toInt
  · refine r_tabOut hC (tgt := 92) dX10_foundBy_19 o5 (by decide) ?_
    refine r_iconst hC (v := (0)) dX10_foundBy_92 (by decide) (by decide) (fun x6_ e6 t6 => ?_)
    exact r_iret hC hQ hlk hr rfl (by decide) (by decide) dX10_foundBy_93 ⟨_, rfl, rfl, trivial⟩
  · rcases (show x4_.toInt = 1 ∨ x4_.toInt = 2 ∨ x4_.toInt = 3 ∨ x4_.toInt = 4 ∨ x4_.toInt = 5 by omega) with o5 | o5 | o5 | o5 | o5
    · refine r_tabIn hC (tgt := 52) (off := 33) dX10_foundBy_19 (by omega) (by omega) (by rw [o5]; decide) (by decide) ?_
      refine r_iload_n hC dX10_foundBy_52 3 rfl ?_
      refine r_iload_n hC dX10_foundBy_53 0 rfl ?_
      refine r_icmp_gt hC (tgt := 61) dX10_foundBy_54 (by decide) (fun c7 => ?_) (fun c7 => ?_)
      · refine r_iconst hC (v := (0)) dX10_foundBy_61 (by decide) (by decide) (fun x8_ e8 t8 => ?_)
        exact r_iret hC hQ hlk hr rfl (by decide) (by decide) dX10_foundBy_62 ⟨_, rfl, rfl, trivial⟩
      · refine r_iconst hC (v := (1)) dX10_foundBy_57 (by decide) (by decide) (fun x9_ e9 t9 => ?_)
        refine r_goto hC (tgt := 62) dX10_foundBy_58 (by decide) ?_
        exact r_iret hC hQ hlk hr rfl (by decide) (by decide) dX10_foundBy_62 ⟨_, rfl, rfl, trivial⟩
    · refine r_tabIn hC (tgt := 63) (off := 44) dX10_foundBy_19 (by omega) (by omega) (by rw [o5]; decide) (by decide) ?_
      refine r_iload_n hC dX10_foundBy_63 0 rfl ?_
      refine r_iload_n hC dX10_foundBy_64 3 rfl ?_
      refine r_imul hC dX10_foundBy_65 (fun x10_ e10 => ?_)
      refine r_bipush hC (v := (10)) dX10_foundBy_66 (by decide) (by decide) (fun x11_ e11 t11 => ?_)
      refine r_idiv hC dX10_foundBy_68 (ne_0 (by omega)) (fun x12_ e12 => ?_)
      exact r_iret hC hQ hlk hr rfl (by decide) (by decide) dX10_foundBy_69 ⟨_, rfl, rfl, trivial⟩
    · refine r_tabIn hC (tgt := 70) (off := 51) dX10_foundBy_19 (by omega) (by omega) (by rw [o5]; decide) (by decide) ?_
      refine r_iload_n hC dX10_foundBy_70 3 rfl ?_
      refine r_iload_n hC dX10_foundBy_71 0 rfl ?_
      refine r_icmp_ne hC (tgt := 79) dX10_foundBy_72 (by decide) (fun c13 => ?_) (fun c13 => ?_)
      · refine r_iconst hC (v := (0)) dX10_foundBy_79 (by decide) (by decide) (fun x14_ e14 t14 => ?_)
        exact r_iret hC hQ hlk hr rfl (by decide) (by decide) dX10_foundBy_80 ⟨_, rfl, rfl, trivial⟩
      · refine r_iconst hC (v := (2)) dX10_foundBy_75 (by decide) (by decide) (fun x15_ e15 t15 => ?_)
        refine r_goto hC (tgt := 80) dX10_foundBy_76 (by decide) ?_
        exact r_iret hC hQ hlk hr rfl (by decide) (by decide) dX10_foundBy_80 ⟨_, rfl, rfl, trivial⟩
    · refine r_tabIn hC (tgt := 92) (off := 73) dX10_foundBy_19 (by omega) (by omega) (by rw [o5]; decide) (by decide) ?_
      refine r_iconst hC (v := (0)) dX10_foundBy_92 (by decide) (by decide) (fun x16_ e16 t16 => ?_)
      exact r_iret hC hQ hlk hr rfl (by decide) (by decide) dX10_foundBy_93 ⟨_, rfl, rfl, trivial⟩
    · refine r_tabIn hC (tgt := 81) (off := 62) dX10_foundBy_19 (by omega) (by omega) (by rw [o5]; decide) (by decide) ?_
      refine r_iload_n hC dX10_foundBy_81 3 rfl ?_
      refine r_iconst hC (v := (5)) dX10_foundBy_82 (by decide) (by decide) (fun x17_ e17 t17 => ?_)
      refine r_icmp_gt hC (tgt := 90) dX10_foundBy_83 (by decide) (fun c18 => ?_) (fun c18 => ?_)
      · refine r_iconst hC (v := (0)) dX10_foundBy_90 (by decide) (by decide) (fun x19_ e19 t19 => ?_)
        exact r_iret hC hQ hlk hr rfl (by decide) (by decide) dX10_foundBy_91 ⟨_, rfl, rfl, trivial⟩
      · refine r_iconst hC (v := (1)) dX10_foundBy_86 (by decide) (by decide) (fun x20_ e20 t20 => ?_)
        refine r_goto hC (tgt := 91) dX10_foundBy_87 (by decide) ?_
        exact r_iret hC hQ hlk hr rfl (by decide) (by decide) dX10_foundBy_91 ⟨_, rfl, rfl, trivial⟩
set_option maxHeartbeats 4000000 in
set_option maxRecDepth 100000 in
theorem c_X10_alikeAt (g : GG) (l : Launch) (K len : Nat → Nat) (I : Nat → Nat → Int32) (J : Nat → Nat → Int64) (R : Nat → Nat → Option Nat) (hs : Sf K len I R) (a0 : Nat) (ka0 : K a0 = 11) (x1 : Int32) (hm : Nat) (hbm : R a0 3 = some hm) (khm : K hm = 10) : Ct g l yX10_alikeAt cX10_alikeAt 6 (Option.some Jvm.ClassFile.FieldType.int) rmX10_alikeAt [.ref a0, .int x1] (K, len, I, J, R) (pI0 (K, len, I, J, R) (fun r => True)) := by
  refine Ct_intro (by decide +kernel) (Nat.le_of_ble_eq_true rfl) (fun X hC hL hKK hNm hr hlk hQ => ?_)
  subst hL
  have hC : Cx g X cX10_alikeAt "HillTapModel" 6 rmX10_alikeAt := hC
  show P g X 6 0 [(0, .ref a0), (1, .int x1)] [] 0 0 (K, len, I, J, R)
  have hF : Fr K [] I I := Fr.refl
  have b_x1 := ti_rng x1
  refine r_iconst hC (v := (0)) dX10_alikeAt_0 (by decide) (by decide) (fun x1_ e1 t1 => ?_)
  refine r_istore_n hC (lv' := [(2, .int x1_), (0, .ref a0), (1, .int x1)]) dX10_alikeAt_1 (by decide) rfl ?_
  refine r_iconst hC (v := (0)) dX10_alikeAt_2 (by decide) (by decide) (fun x2_ e2 t2 => ?_)
  refine r_istore_n hC (lv' := [(3, .int x2_), (2, .int x1_), (0, .ref a0), (1, .int x1)]) dX10_alikeAt_3 (by decide) rfl ?_
  have LP3 : ∀ (mu : Nat) (x3_3 : Int32) (x3_2 : Int32) (v3_0 : 0 ≤ x3_3.toInt) (v3_1 : x3_3.toInt ≤ 6), (6 - x3_3.toInt).toNat = mu → P g X 6 4 [(0, .ref a0), (1, .int x1), (2, .int x3_2), (3, .int x3_3)] [] 0 0 (K, len, I, J, R) := by
    intro mu; induction mu using Nat.strongRecOn with | ind mu ih => ?_
    intro x3_3 x3_2 v3_0 v3_1 hmu
    have ih3 := ih
    clear ih
    have hmu3 := hmu
    clear hmu
    refine r_iload_n hC dX10_alikeAt_4 3 rfl ?_
    refine r_aload_n hC dX10_alikeAt_5 0 rfl ?_
    refine r_getr hC 3 (ci := 10) rfl u10_in (by decide) mT_4_238 dX10_alikeAt_6 ka0 rfl rfl hbm ?_
    refine r_getiN hC 7 (ci := 9) rfl u9_in (by decide) nF_7 dX10_alikeAt_9 khm rfl rfl (fun x4_ e4 => ?_)
    have r4 := hs.rng khm rfl e4
    have f4 : x4_.toInt = (I hm 7).toInt := by rw [e4]
    refine r_icmp_ge hC (tgt := 112) dX10_alikeAt_12 (by decide) (fun c5 => ?_) (fun c5 => ?_)
    · refine r_iload_n hC dX10_alikeAt_112 2 rfl ?_
      exact r_iret hC hQ hlk hr rfl (by decide) (by decide) dX10_alikeAt_113 ⟨_, rfl, rfl, trivial⟩
    · refine r_iconst hC (v := (0)) dX10_alikeAt_15 (by decide) (by decide) (fun x6_ e6 t6 => ?_)
      refine r_istore hC (lv' := [(4, .int x6_), (0, .ref a0), (1, .int x1), (2, .int x3_2), (3, .int x3_3)]) dX10_alikeAt_16 (by decide) rfl ?_
      refine r_iconst hC (v := (0)) dX10_alikeAt_18 (by decide) (by decide) (fun x7_ e7 t7 => ?_)
      refine r_istore hC (lv' := [(5, .int x7_), (4, .int x6_), (0, .ref a0), (1, .int x1), (2, .int x3_2), (3, .int x3_3)]) dX10_alikeAt_19 (by decide) rfl ?_
      have LP8 : ∀ (mu : Nat) (x8_5 : Int32) (x8_4 : Int32) (v8_0 : 0 ≤ x8_5.toInt) (v8_1 : x8_5.toInt ≤ 6), (6 - x8_5.toInt).toNat = mu → P g X 6 21 [(0, .ref a0), (1, .int x1), (2, .int x3_2), (3, .int x3_3), (4, .int x8_4), (5, .int x8_5)] [] 0 0 (K, len, I, J, R) := by
        intro mu; induction mu using Nat.strongRecOn with | ind mu ih => ?_
        intro x8_5 x8_4 v8_0 v8_1 hmu
        have ih8 := ih
        clear ih
        have hmu8 := hmu
        clear hmu
        refine r_iload hC dX10_alikeAt_21 5 rfl ?_
        refine r_aload_n hC dX10_alikeAt_23 0 rfl ?_
        refine r_getr hC 3 (ci := 10) rfl u10_in (by decide) mT_4_238 dX10_alikeAt_24 ka0 rfl rfl hbm ?_
        refine r_getiN hC 7 (ci := 9) rfl u9_in (by decide) nF_7 dX10_alikeAt_27 khm rfl rfl (fun x9_ e9 => ?_)
        have r9 := hs.rng khm rfl e9
        have f9 : x9_.toInt = (I hm 7).toInt := by rw [e9]
        have w9 : x9_ = x4_ := by rw [e9]; exact e4.symm
        have wt9 : x9_.toInt = x4_.toInt := by rw [w9]
        refine r_icmp_ge hC (tgt := 93) dX10_alikeAt_30 (by decide) (fun c10 => ?_) (fun c10 => ?_)
        · refine r_iload hC dX10_alikeAt_93 4 rfl ?_
          refine r_iload_n hC dX10_alikeAt_95 2 rfl ?_
          refine r_icmp_le hC (tgt := 104) dX10_alikeAt_96 (by decide) (fun c11 => ?_) (fun c11 => ?_)
          · refine r_iload_n hC dX10_alikeAt_104 2 rfl ?_
            refine r_istore_n hC (lv' := [(2, .int x3_2), (0, .ref a0), (1, .int x1), (3, .int x3_3), (4, .int x8_4), (5, .int x8_5)]) dX10_alikeAt_105 (by decide) rfl ?_
            obtain ⟨x12_, e12⟩ : ∃ z : Int32, z = x3_3 + Int32.ofInt (1) := ⟨_, rfl⟩
            refine r_iinc hC (j := 3) (v := x12_) (lv' := [(3, .int x12_), (2, .int x3_2), (0, .ref a0), (1, .int x1), (4, .int x8_4), (5, .int x8_5)]) dX10_alikeAt_106 rfl (by rw [e12]) (by decide) rfl ?_
            try have t12 : x12_.toInt = x3_3.toInt + (1) := by rw [e12]; exact (ti_add (b := Int32.ofInt (1)) (by show _ ≤ _ + (1 : Int); omega) (by show _ + (1 : Int) ≤ _; omega))
            refine r_goto hC (tgt := 4) dX10_alikeAt_109 (by decide) ?_
            refine r_sub [2, 3, 1, 0] rfl ?_
            exact ih3 ((6 - x12_.toInt).toNat) (by omega) x12_ x3_2 (by omega) (by omega) rfl
          · refine r_iload hC dX10_alikeAt_99 4 rfl ?_
            refine r_goto hC (tgt := 105) dX10_alikeAt_101 (by decide) ?_
            refine r_istore_n hC (lv' := [(2, .int x8_4), (0, .ref a0), (1, .int x1), (3, .int x3_3), (4, .int x8_4), (5, .int x8_5)]) dX10_alikeAt_105 (by decide) rfl ?_
            obtain ⟨x13_, e13⟩ : ∃ z : Int32, z = x3_3 + Int32.ofInt (1) := ⟨_, rfl⟩
            refine r_iinc hC (j := 3) (v := x13_) (lv' := [(3, .int x13_), (2, .int x8_4), (0, .ref a0), (1, .int x1), (4, .int x8_4), (5, .int x8_5)]) dX10_alikeAt_106 rfl (by rw [e13]) (by decide) rfl ?_
            try have t13 : x13_.toInt = x3_3.toInt + (1) := by rw [e13]; exact (ti_add (b := Int32.ofInt (1)) (by show _ ≤ _ + (1 : Int); omega) (by show _ + (1 : Int) ≤ _; omega))
            refine r_goto hC (tgt := 4) dX10_alikeAt_109 (by decide) ?_
            refine r_sub [2, 3, 1, 0] rfl ?_
            exact ih3 ((6 - x13_.toInt).toNat) (by omega) x13_ x8_4 (by omega) (by omega) rfl
        · refine r_iload hC dX10_alikeAt_33 4 rfl ?_
          refine r_aload_n hC dX10_alikeAt_35 0 rfl ?_
          obtain ⟨a14_, hb14, hk14, hn14⟩ := hs.row ka0 25 93 6 (by decide) (by decide)
          refine r_getr hC 25 (ci := 10) rfl u10_in (by decide) mT_5_20 dX10_alikeAt_36 ka0 rfl rfl hb14 ?_
          refine r_iload_n hC dX10_alikeAt_39 3 rfl ?_
          refine x_zaload hC hk14 hn14 (by decide) rfl rfl dX10_alikeAt_40 (by omega) (by omega) (fun x15_ e15 => ?_)
          refine r_if_eq hC (tgt := 83) dX10_alikeAt_41 (by decide) (fun c16 => ?_) (fun c16 => ?_)
          · refine r_iconst hC (v := (0)) dX10_alikeAt_83 (by decide) (by decide) (fun x17_ e17 t17 => ?_)
            refine r_iadd hC dX10_alikeAt_84 (fun x18_ e18 => ?_)
            try have t18 : x18_.toInt = x8_4.toInt + x17_.toInt := by rw [e18]; exact ti_add (by omega) (by omega)
            refine r_istore hC (lv' := [(4, .int x18_), (0, .ref a0), (1, .int x1), (2, .int x3_2), (3, .int x3_3), (5, .int x8_5)]) dX10_alikeAt_85 (by decide) rfl ?_
            obtain ⟨x19_, e19⟩ : ∃ z : Int32, z = x8_5 + Int32.ofInt (1) := ⟨_, rfl⟩
            refine r_iinc hC (j := 5) (v := x19_) (lv' := [(5, .int x19_), (4, .int x18_), (0, .ref a0), (1, .int x1), (2, .int x3_2), (3, .int x3_3)]) dX10_alikeAt_87 rfl (by rw [e19]) (by decide) rfl ?_
            try have t19 : x19_.toInt = x8_5.toInt + (1) := by rw [e19]; exact (ti_add (b := Int32.ofInt (1)) (by show _ ≤ _ + (1 : Int); omega) (by show _ + (1 : Int) ≤ _; omega))
            refine r_goto hC (tgt := 21) dX10_alikeAt_90 (by decide) ?_
            refine r_sub [2, 3, 4, 5, 1, 0] rfl ?_
            exact ih8 ((6 - x19_.toInt).toNat) (by omega) x19_ x18_ (by omega) (by omega) rfl
          · refine r_aload_n hC dX10_alikeAt_44 0 rfl ?_
            refine r_getr hC 25 (ci := 10) rfl u10_in (by decide) mT_5_20 dX10_alikeAt_45 ka0 rfl rfl hb14 ?_
            refine r_iload hC dX10_alikeAt_48 5 rfl ?_
            refine x_zaload hC hk14 hn14 (by decide) rfl rfl dX10_alikeAt_50 (by omega) (by omega) (fun x20_ e20 => ?_)
            refine r_if_eq hC (tgt := 83) dX10_alikeAt_51 (by decide) (fun c21 => ?_) (fun c21 => ?_)
            · refine r_iconst hC (v := (0)) dX10_alikeAt_83 (by decide) (by decide) (fun x22_ e22 t22 => ?_)
              refine r_iadd hC dX10_alikeAt_84 (fun x23_ e23 => ?_)
              try have t23 : x23_.toInt = x8_4.toInt + x22_.toInt := by rw [e23]; exact ti_add (by omega) (by omega)
              refine r_istore hC (lv' := [(4, .int x23_), (0, .ref a0), (1, .int x1), (2, .int x3_2), (3, .int x3_3), (5, .int x8_5)]) dX10_alikeAt_85 (by decide) rfl ?_
              obtain ⟨x24_, e24⟩ : ∃ z : Int32, z = x8_5 + Int32.ofInt (1) := ⟨_, rfl⟩
              refine r_iinc hC (j := 5) (v := x24_) (lv' := [(5, .int x24_), (4, .int x23_), (0, .ref a0), (1, .int x1), (2, .int x3_2), (3, .int x3_3)]) dX10_alikeAt_87 rfl (by rw [e24]) (by decide) rfl ?_
              try have t24 : x24_.toInt = x8_5.toInt + (1) := by rw [e24]; exact (ti_add (b := Int32.ofInt (1)) (by show _ ≤ _ + (1 : Int); omega) (by show _ + (1 : Int) ≤ _; omega))
              refine r_goto hC (tgt := 21) dX10_alikeAt_90 (by decide) ?_
              refine r_sub [2, 3, 4, 5, 1, 0] rfl ?_
              exact ih8 ((6 - x24_.toInt).toNat) (by omega) x24_ x23_ (by omega) (by omega) rfl
            · refine r_aload_n hC dX10_alikeAt_54 0 rfl ?_
              refine r_iload_n hC dX10_alikeAt_55 3 rfl ?_
              refine r_iload_n hC dX10_alikeAt_56 1 rfl ?_
              refine r_callV hC (As := [.int x3_3, .int x1]) (rest := [.int x8_4]) (ci := 10) (c_X10_foundBy g (xL X) K len I J R hs a0 ka0 x3_3 x1 hm hbm khm (by omega) (by omega)) mT_7_35 mT_1_10 mT_7_32 mT_7_34 mP_92 okX10_foundBy ⟨by decide, by decide⟩ rfl (by show kO (K a0) = _; rw [ka0]; rfl) rfl rfl (Nat.le_of_ble_eq_true rfl) ⟨by decide, by decide⟩ dX10_alikeAt_57 (aI0 (F := fun st M => P g X 6 60 [(0, .ref a0), (1, .int x1), (2, .int x3_2), (3, .int x3_3), (4, .int x8_4), (5, .int x8_5)] st _ _ M) (M := (K, len, I, J, R)) fun x25_ h25 => ?_)
              skip
              show P g X 6 60 [(0, .ref a0), (1, .int x1), (2, .int x3_2), (3, .int x3_3), (4, .int x8_4), (5, .int x8_5)] [.int x25_, .int x8_4] _ _ (K, len, I, J, R)
              refine r_aload_n hC dX10_alikeAt_60 0 rfl ?_
              refine r_iload hC dX10_alikeAt_61 5 rfl ?_
              refine r_iload_n hC dX10_alikeAt_63 1 rfl ?_
              refine r_callV hC (As := [.int x8_5, .int x1]) (rest := [.int x25_, .int x8_4]) (ci := 10) (c_X10_foundBy g (xL X) K len I J R hs a0 ka0 x8_5 x1 hm hbm khm (by omega) (by omega)) mT_7_35 mT_1_10 mT_7_32 mT_7_34 mP_92 okX10_foundBy ⟨by decide, by decide⟩ rfl (by show kO (K a0) = _; rw [ka0]; rfl) rfl rfl (Nat.le_of_ble_eq_true rfl) ⟨by decide, by decide⟩ dX10_alikeAt_64 (aI0 (F := fun st M => P g X 6 67 [(0, .ref a0), (1, .int x1), (2, .int x3_2), (3, .int x3_3), (4, .int x8_4), (5, .int x8_5)] st _ _ M) (M := (K, len, I, J, R)) fun x26_ h26 => ?_)
              skip
              show P g X 6 67 [(0, .ref a0), (1, .int x1), (2, .int x3_2), (3, .int x3_3), (4, .int x8_4), (5, .int x8_5)] [.int x26_, .int x25_, .int x8_4] _ _ (K, len, I, J, R)
              refine r_icmp_ne hC (tgt := 83) dX10_alikeAt_67 (by decide) (fun c27 => ?_) (fun c27 => ?_)
              · refine r_iconst hC (v := (0)) dX10_alikeAt_83 (by decide) (by decide) (fun x28_ e28 t28 => ?_)
                refine r_iadd hC dX10_alikeAt_84 (fun x29_ e29 => ?_)
                try have t29 : x29_.toInt = x8_4.toInt + x28_.toInt := by rw [e29]; exact ti_add (by omega) (by omega)
                refine r_istore hC (lv' := [(4, .int x29_), (0, .ref a0), (1, .int x1), (2, .int x3_2), (3, .int x3_3), (5, .int x8_5)]) dX10_alikeAt_85 (by decide) rfl ?_
                obtain ⟨x30_, e30⟩ : ∃ z : Int32, z = x8_5 + Int32.ofInt (1) := ⟨_, rfl⟩
                refine r_iinc hC (j := 5) (v := x30_) (lv' := [(5, .int x30_), (4, .int x29_), (0, .ref a0), (1, .int x1), (2, .int x3_2), (3, .int x3_3)]) dX10_alikeAt_87 rfl (by rw [e30]) (by decide) rfl ?_
                try have t30 : x30_.toInt = x8_5.toInt + (1) := by rw [e30]; exact (ti_add (b := Int32.ofInt (1)) (by show _ ≤ _ + (1 : Int); omega) (by show _ + (1 : Int) ≤ _; omega))
                refine r_goto hC (tgt := 21) dX10_alikeAt_90 (by decide) ?_
                refine r_sub [2, 3, 4, 5, 1, 0] rfl ?_
                exact ih8 ((6 - x30_.toInt).toNat) (by omega) x30_ x29_ (by omega) (by omega) rfl
              · refine r_aload_n hC dX10_alikeAt_70 0 rfl ?_
                refine r_getr hC 3 (ci := 10) rfl u10_in (by decide) mT_4_238 dX10_alikeAt_71 ka0 rfl rfl hbm ?_
                obtain ⟨a31_, hb31, hk31, hn31⟩ := hs.row khm 16 75 6 (by decide) (by decide)
                refine r_getrN hC 16 (ci := 9) rfl u9_in (by decide) nF_16 dX10_alikeAt_74 khm rfl rfl hb31 ?_
                refine r_iload hC dX10_alikeAt_77 5 rfl ?_
                refine x_iaload hC hk31 hn31 (by decide) rfl rfl dX10_alikeAt_79 (by omega) (by omega) (fun x32_ e32 => ?_)
                refine r_goto hC (tgt := 84) dX10_alikeAt_80 (by decide) ?_
                refine r_iadd hC dX10_alikeAt_84 (fun x33_ e33 => ?_)
                try have t33 : x33_.toInt = x8_4.toInt + x32_.toInt := by rw [e33]; exact ti_add (by omega) (by omega)
                refine r_istore hC (lv' := [(4, .int x33_), (0, .ref a0), (1, .int x1), (2, .int x3_2), (3, .int x3_3), (5, .int x8_5)]) dX10_alikeAt_85 (by decide) rfl ?_
                obtain ⟨x34_, e34⟩ : ∃ z : Int32, z = x8_5 + Int32.ofInt (1) := ⟨_, rfl⟩
                refine r_iinc hC (j := 5) (v := x34_) (lv' := [(5, .int x34_), (4, .int x33_), (0, .ref a0), (1, .int x1), (2, .int x3_2), (3, .int x3_3)]) dX10_alikeAt_87 rfl (by rw [e34]) (by decide) rfl ?_
                try have t34 : x34_.toInt = x8_5.toInt + (1) := by rw [e34]; exact (ti_add (b := Int32.ofInt (1)) (by show _ ≤ _ + (1 : Int); omega) (by show _ + (1 : Int) ≤ _; omega))
                refine r_goto hC (tgt := 21) dX10_alikeAt_90 (by decide) ?_
                refine r_sub [2, 3, 4, 5, 1, 0] rfl ?_
                exact ih8 ((6 - x34_.toInt).toNat) (by omega) x34_ x33_ (by omega) (by omega) rfl
      refine r_sub [2, 3, 4, 5, 1, 0] rfl ?_
      exact LP8 _ x7_ x6_ (by omega) (by omega) rfl
  refine r_sub [2, 3, 1, 0] rfl ?_
  exact LP3 _ x2_ x1_ (by omega) (by omega) rfl
set_option maxHeartbeats 4000000 in
set_option maxRecDepth 100000 in
theorem c_X10_isStruck (g : GG) (l : Launch) (K len : Nat → Nat) (I : Nat → Nat → Int32) (J : Nat → Nat → Int64) (R : Nat → Nat → Option Nat) (hs : Sf K len I R) (a0 : Nat) (ka0 : K a0 = 11) (x1 : Int32) (hm : Nat) (hbm : R a0 3 = some hm) (khm : K hm = 10) (p0 : 0 ≤ x1.toInt) (p1 : x1.toInt ≤ 3) : Ct g l yX10_isStruck cX10_isStruck 2 (Option.some Jvm.ClassFile.FieldType.boolean) rmX10_isStruck [.ref a0, .int x1] (K, len, I, J, R) (pI0 (K, len, I, J, R) (fun r => (0 ≤ r.toInt) ∧ (r.toInt ≤ 1))) := by
  refine Ct_intro (by decide +kernel) (Nat.le_of_ble_eq_true rfl) (fun X hC hL hKK hNm hr hlk hQ => ?_)
  subst hL
  have hC : Cx g X cX10_isStruck "HillTapModel" 2 rmX10_isStruck := hC
  show P g X 2 0 [(0, .ref a0), (1, .int x1)] [] 0 0 (K, len, I, J, R)
  have hF : Fr K [] I I := Fr.refl
  have b_x1 := ti_rng x1
  refine r_aload_n hC dX10_isStruck_0 0 rfl ?_
  refine r_geti hC 19 (ci := 10) rfl u10_in (by decide) mT_5_14 dX10_isStruck_1 ka0 rfl rfl (fun x1_ e1 => ?_)
  have r1 := hs.rng ka0 rfl e1
  have q1 := hs.gone ka0 e1
  refine r_bipush hC (v := (-2)) dX10_isStruck_4 (by decide) (by decide) (fun x2_ e2 t2 => ?_)
  refine r_icmp_eq hC (tgt := 29) dX10_isStruck_6 (by decide) (fun c3 => ?_) (fun c3 => ?_)
  · refine r_iconst hC (v := (0)) dX10_isStruck_29 (by decide) (by decide) (fun x4_ e4 t4 => ?_)
    exact r_iret hC hQ hlk hr (by rw [e4]; rfl) (by decide) (by decide) dX10_isStruck_30 ⟨_, rfl, rfl, ⟨(by omega), (by omega)⟩⟩
  · refine r_aload_n hC dX10_isStruck_9 0 rfl ?_
    refine r_getr hC 3 (ci := 10) rfl u10_in (by decide) mT_4_238 dX10_isStruck_10 ka0 rfl rfl hbm ?_
    obtain ⟨a5_, hb5, hk5, hn5⟩ := hs.row khm 20 77 4 (by decide) (by decide)
    refine r_getrN hC 20 (ci := 9) rfl u9_in (by decide) nF_20 dX10_isStruck_13 khm rfl rfl hb5 ?_
    refine r_iload_n hC dX10_isStruck_16 1 rfl ?_
    refine x_iaload hC hk5 hn5 (by decide) rfl rfl dX10_isStruck_17 (by omega) (by omega) (fun x6_ e6 => ?_)
    refine r_aload_n hC dX10_isStruck_18 0 rfl ?_
    refine r_callV hC (As := []) (rest := [.int x6_]) (ci := 10) (c_X10_waveOf g (xL X) K len I J R hs a0 ka0 hm hbm khm) mT_6_163 mT_1_10 mT_6_160 mT_6_162 mP_80 okX10_waveOf ⟨by decide, by decide⟩ rfl (by show kO (K a0) = _; rw [ka0]; rfl) rfl rfl (Nat.le_of_ble_eq_true rfl) ⟨by decide, by decide⟩ dX10_isStruck_19 (aI0 (F := fun st M => P g X 2 22 [(0, .ref a0), (1, .int x1)] st _ _ M) (M := (K, len, I, J, R)) fun x7_ h7 => ?_)
    skip
    show P g X 2 22 [(0, .ref a0), (1, .int x1)] [.int x7_, .int x6_] _ _ (K, len, I, J, R)
    refine r_icmp_gt hC (tgt := 29) dX10_isStruck_22 (by decide) (fun c8 => ?_) (fun c8 => ?_)
    · refine r_iconst hC (v := (0)) dX10_isStruck_29 (by decide) (by decide) (fun x9_ e9 t9 => ?_)
      exact r_iret hC hQ hlk hr (by rw [e9]; rfl) (by decide) (by decide) dX10_isStruck_30 ⟨_, rfl, rfl, ⟨(by omega), (by omega)⟩⟩
    · refine r_iconst hC (v := (1)) dX10_isStruck_25 (by decide) (by decide) (fun x10_ e10 t10 => ?_)
      refine r_goto hC (tgt := 30) dX10_isStruck_26 (by decide) ?_
      exact r_iret hC hQ hlk hr (by rw [e10]; rfl) (by decide) (by decide) dX10_isStruck_30 ⟨_, rfl, rfl, ⟨(by omega), (by omega)⟩⟩

