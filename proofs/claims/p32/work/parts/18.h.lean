abbrev rmX10_refused : Room := { frames := 0, cells := 0, slots := 0, locals := 0 }
abbrev rmX10_done : Room := { frames := 0, cells := 0, slots := 0, locals := 0 }
abbrev rmX10_in : Room := { frames := 0, cells := 0, slots := 0, locals := 0 }
abbrev rmX10_goalOf : Room := { frames := 0, cells := 0, slots := 0, locals := 0 }
abbrev rmX10_fills : Room := { frames := 1, cells := 0, slots := 0, locals := 23 }
abbrev rmX10_levelAt : Room := { frames := 0, cells := 0, slots := 0, locals := 0 }
abbrev rmX10_isDay : Room := { frames := 0, cells := 0, slots := 0, locals := 0 }
abbrev rmX10_isPeg : Room := { frames := 0, cells := 0, slots := 0, locals := 0 }
abbrev rmX10_isVillage : Room := { frames := 0, cells := 0, slots := 0, locals := 0 }
abbrev rmX10_isStory : Room := { frames := 0, cells := 0, slots := 0, locals := 0 }
abbrev rmX10_isLine : Room := { frames := 1, cells := 0, slots := 0, locals := 21 }
abbrev rmX10_level : Room := { frames := 2, cells := 0, slots := 0, locals := 49 }
abbrev rmX10_plan : Room := { frames := 1, cells := 0, slots := 0, locals := 22 }
abbrev rmX10_undo : Room := { frames := 1, cells := 0, slots := 0, locals := 21 }
set_option maxHeartbeats 4000000 in
set_option maxRecDepth 100000 in
theorem c_X10_refused (g : GG) (l : Launch) (K len : Nat → Nat) (I : Nat → Nat → Int32) (J : Nat → Nat → Int64) (R : Nat → Nat → Option Nat) (hs : Sf K len I R) (a0 : Nat) (ka0 : K a0 = 11) (x1 : Int32) : Ct g l yX10_refused cX10_refused 2 (Option.some Jvm.ClassFile.FieldType.int) rmX10_refused [.ref a0, .int x1] (K, len, I, J, R) (pI1 (K, len, I, J, R) (fun r I' => Sf K len I' R ∧ Fr K [(11, 1), (11, 2)] I I' ∧ (r.toInt = -1) ∧ ((I' a0 1).toInt = x1.toInt) ∧ ((I' a0 2).toInt = -1))) := by
  refine Ct_intro (by decide +kernel) (Nat.le_of_ble_eq_true rfl) (fun X hC hL hKK hNm hr hlk hQ => ?_)
  subst hL
  have hC : Cx g X cX10_refused "HillTapModel" 2 rmX10_refused := hC
  show P g X 2 0 [(0, .ref a0), (1, .int x1)] [] 0 0 (K, len, I, J, R)
  have hF : Fr K [(11, 1), (11, 2)] I I := Fr.refl
  have b_x1 := ti_rng x1
  refine r_aload_n hC dX10_refused_0 0 rfl ?_
  refine r_iload_n hC dX10_refused_1 1 rfl ?_
  refine r_puti hC 1 (ci := 10) rfl u10_in tyX10_ok nmX10 (by decide) mT_4_236 rfl rfl rfl dX10_refused_2 ka0 rfl rfl (fun I1 eI1 => ?_)
  have hs1 := hs.put0 eI1 ka0 rfl rfl rfl (by decide)
  have hF1 := hF.put eI1 ka0 rfl
  refine r_aload_n hC dX10_refused_5 0 rfl ?_
  refine r_iconst hC (v := (-1)) dX10_refused_6 (by decide) (by decide) (fun x2_ e2 t2 => ?_)
  refine r_puti hC 2 (ci := 10) rfl u10_in tyX10_ok nmX10 (by decide) mT_4_237 rfl rfl rfl dX10_refused_7 ka0 rfl rfl (fun I3 eI3 => ?_)
  have hs3 := hs1.put0 eI3 ka0 rfl rfl rfl (by decide)
  have hF3 := hF1.put eI3 ka0 rfl
  refine r_iconst hC (v := (-1)) dX10_refused_10 (by decide) (by decide) (fun x4_ e4 t4 => ?_)
  have hv1 : I3 a0 1 = x1 := (Eq.trans (up2_at (Or.inr (by decide)) eI3) (by rw [eI1]; exact up2_self _ _ _ _))
  have hv1t : (I3 a0 1).toInt = x1.toInt := congrArg Int32.toInt hv1
  have hv2 : I3 a0 2 = x2_ := (by rw [eI3]; exact up2_self _ _ _ _)
  have hv2t : (I3 a0 2).toInt = x2_.toInt := congrArg Int32.toInt hv2
  exact r_iret hC hQ hlk hr rfl (by decide) (by decide) dX10_refused_11 ⟨_, _, rfl, rfl, ⟨hs3, hF3, (by omega), (by omega), (by omega)⟩⟩
set_option maxHeartbeats 4000000 in
set_option maxRecDepth 100000 in
theorem c_X10_done (g : GG) (l : Launch) (K len : Nat → Nat) (I : Nat → Nat → Int32) (J : Nat → Nat → Int64) (R : Nat → Nat → Option Nat) (hs : Sf K len I R) (a0 : Nat) (ka0 : K a0 = 11) (x1 : Int32) : Ct g l yX10_done cX10_done 2 (Option.some Jvm.ClassFile.FieldType.int) rmX10_done [.ref a0, .int x1] (K, len, I, J, R) (pI1 (K, len, I, J, R) (fun r I' => Sf K len I' R ∧ Fr K [(11, 1), (11, 2)] I I' ∧ (r = x1) ∧ ((I' a0 1).toInt = 0) ∧ ((I' a0 2).toInt = -1))) := by
  refine Ct_intro (by decide +kernel) (Nat.le_of_ble_eq_true rfl) (fun X hC hL hKK hNm hr hlk hQ => ?_)
  subst hL
  have hC : Cx g X cX10_done "HillTapModel" 2 rmX10_done := hC
  show P g X 2 0 [(0, .ref a0), (1, .int x1)] [] 0 0 (K, len, I, J, R)
  have hF : Fr K [(11, 1), (11, 2)] I I := Fr.refl
  have b_x1 := ti_rng x1
  refine r_aload_n hC dX10_done_0 0 rfl ?_
  refine r_iconst hC (v := (0)) dX10_done_1 (by decide) (by decide) (fun x1_ e1 t1 => ?_)
  refine r_puti hC 1 (ci := 10) rfl u10_in tyX10_ok nmX10 (by decide) mT_4_236 rfl rfl rfl dX10_done_2 ka0 rfl rfl (fun I2 eI2 => ?_)
  have hs2 := hs.put0 eI2 ka0 rfl rfl rfl (by decide)
  have hF2 := hF.put eI2 ka0 rfl
  refine r_aload_n hC dX10_done_5 0 rfl ?_
  refine r_iconst hC (v := (-1)) dX10_done_6 (by decide) (by decide) (fun x3_ e3 t3 => ?_)
  refine r_puti hC 2 (ci := 10) rfl u10_in tyX10_ok nmX10 (by decide) mT_4_237 rfl rfl rfl dX10_done_7 ka0 rfl rfl (fun I4 eI4 => ?_)
  have hs4 := hs2.put0 eI4 ka0 rfl rfl rfl (by decide)
  have hF4 := hF2.put eI4 ka0 rfl
  refine r_iload_n hC dX10_done_10 1 rfl ?_
  have hv1 : I4 a0 1 = x1_ := (Eq.trans (up2_at (Or.inr (by decide)) eI4) (by rw [eI2]; exact up2_self _ _ _ _))
  have hv1t : (I4 a0 1).toInt = x1_.toInt := congrArg Int32.toInt hv1
  have hv2 : I4 a0 2 = x3_ := (by rw [eI4]; exact up2_self _ _ _ _)
  have hv2t : (I4 a0 2).toInt = x3_.toInt := congrArg Int32.toInt hv2
  exact r_iret hC hQ hlk hr rfl (by decide) (by decide) dX10_done_11 ⟨_, _, rfl, rfl, ⟨hs4, hF4, (by rfl), (by omega), (by omega)⟩⟩
set_option maxHeartbeats 4000000 in
set_option maxRecDepth 100000 in
theorem c_X10_in (g : GG) (l : Launch) (K len : Nat → Nat) (I : Nat → Nat → Int32) (J : Nat → Nat → Int64) (R : Nat → Nat → Option Nat) (hs : Sf K len I R) (x0 : Int32) (x1 : Int32) (x2 : Int32) : Ct g l yX10_in cX10_in 3 (Option.some Jvm.ClassFile.FieldType.boolean) rmX10_in [.int x0, .int x1, .int x2] (K, len, I, J, R) (pI0 (K, len, I, J, R) (fun r => (0 ≤ r.toInt) ∧ (r.toInt ≤ 1) ∧ (r.toInt ≠ 0 → x1.toInt ≤ x0.toInt ∧ x0.toInt ≤ x2.toInt))) := by
  refine Ct_intro (by decide +kernel) (Nat.le_of_ble_eq_true rfl) (fun X hC hL hKK hNm hr hlk hQ => ?_)
  subst hL
  have hC : Cx g X cX10_in "HillTapModel" 3 rmX10_in := hC
  show P g X 3 0 [(0, .int x0), (1, .int x1), (2, .int x2)] [] 0 0 (K, len, I, J, R)
  have hF : Fr K [] I I := Fr.refl
  have b_x0 := ti_rng x0
  have b_x1 := ti_rng x1
  have b_x2 := ti_rng x2
  refine r_iload_n hC dX10_in_0 0 rfl ?_
  refine r_iload_n hC dX10_in_1 1 rfl ?_
  refine r_icmp_lt hC (tgt := 14) dX10_in_2 (by decide) (fun c1 => ?_) (fun c1 => ?_)
  · refine r_iconst hC (v := (0)) dX10_in_14 (by decide) (by decide) (fun x2_ e2 t2 => ?_)
    exact r_iret hC hQ hlk hr (by rw [e2]; rfl) (by decide) (by decide) dX10_in_15 ⟨_, rfl, rfl, ⟨(by omega), (by omega), (by omega)⟩⟩
  · refine r_iload_n hC dX10_in_5 0 rfl ?_
    refine r_iload_n hC dX10_in_6 2 rfl ?_
    refine r_icmp_gt hC (tgt := 14) dX10_in_7 (by decide) (fun c3 => ?_) (fun c3 => ?_)
    · refine r_iconst hC (v := (0)) dX10_in_14 (by decide) (by decide) (fun x4_ e4 t4 => ?_)
      exact r_iret hC hQ hlk hr (by rw [e4]; rfl) (by decide) (by decide) dX10_in_15 ⟨_, rfl, rfl, ⟨(by omega), (by omega), (by omega)⟩⟩
    · refine r_iconst hC (v := (1)) dX10_in_10 (by decide) (by decide) (fun x5_ e5 t5 => ?_)
      refine r_goto hC (tgt := 15) dX10_in_11 (by decide) ?_
      exact r_iret hC hQ hlk hr (by rw [e5]; rfl) (by decide) (by decide) dX10_in_15 ⟨_, rfl, rfl, ⟨(by omega), (by omega), (by omega)⟩⟩
set_option maxHeartbeats 4000000 in
set_option maxRecDepth 100000 in
theorem c_X10_goalOf (g : GG) (l : Launch) (K len : Nat → Nat) (I : Nat → Nat → Int32) (J : Nat → Nat → Int64) (R : Nat → Nat → Option Nat) (hs : Sf K len I R) (a0 : Nat) (ka0 : K a0 = 11) (x1 : Int32) (hm : Nat) (hbm : R a0 3 = some hm) (khm : K hm = 10) : Ct g l yX10_goalOf cX10_goalOf 4 (Option.some Jvm.ClassFile.FieldType.int) rmX10_goalOf [.ref a0, .int x1] (K, len, I, J, R) (pI0 (K, len, I, J, R) (fun r => True)) := by
  refine Ct_intro (by decide +kernel) (Nat.le_of_ble_eq_true rfl) (fun X hC hL hKK hNm hr hlk hQ => ?_)
  subst hL
  have hC : Cx g X cX10_goalOf "HillTapModel" 4 rmX10_goalOf := hC
  show P g X 4 0 [(0, .ref a0), (1, .int x1)] [] 0 0 (K, len, I, J, R)
  have hF : Fr K [] I I := Fr.refl
  have b_x1 := ti_rng x1
  refine r_iconst hC (v := (-1)) dX10_goalOf_0 (by decide) (by decide) (fun x1_ e1 t1 => ?_)
  refine r_istore_n hC (lv' := [(2, .int x1_), (0, .ref a0), (1, .int x1)]) dX10_goalOf_1 (by decide) rfl ?_
  refine r_iconst hC (v := (0)) dX10_goalOf_2 (by decide) (by decide) (fun x2_ e2 t2 => ?_)
  refine r_istore_n hC (lv' := [(3, .int x2_), (2, .int x1_), (0, .ref a0), (1, .int x1)]) dX10_goalOf_3 (by decide) rfl ?_
  have LP3 : ∀ (mu : Nat) (x3_3 : Int32) (x3_2 : Int32) (v3_0 : 0 ≤ x3_3.toInt) (v3_1 : x3_3.toInt ≤ 16) (v3_2 : -1 ≤ x3_2.toInt) (v3_3 : x3_2.toInt ≤ 15), (16 - x3_3.toInt).toNat = mu → P g X 4 4 [(0, .ref a0), (1, .int x1), (2, .int x3_2), (3, .int x3_3)] [] 0 0 (K, len, I, J, R) := by
    intro mu; induction mu using Nat.strongRecOn with | ind mu ih => ?_
    intro x3_3 x3_2 v3_0 v3_1 v3_2 v3_3 hmu
    have ih3 := ih
    clear ih
    have hmu3 := hmu
    clear hmu
    refine r_iload_n hC dX10_goalOf_4 3 rfl ?_
    refine r_aload_n hC dX10_goalOf_5 0 rfl ?_
    refine r_getr hC 3 (ci := 10) rfl u10_in (by decide) mT_4_238 dX10_goalOf_6 ka0 rfl rfl hbm ?_
    refine r_getiN hC 4 (ci := 9) rfl u9_in (by decide) nF_4 dX10_goalOf_9 khm rfl rfl (fun x4_ e4 => ?_)
    have r4 := hs.rng khm rfl e4
    have f4 : x4_.toInt = (I hm 4).toInt := by rw [e4]
    refine r_icmp_ge hC (tgt := 62) dX10_goalOf_12 (by decide) (fun c5 => ?_) (fun c5 => ?_)
    · refine r_iload_n hC dX10_goalOf_62 2 rfl ?_
      refine r_iconst hC (v := (-1)) dX10_goalOf_63 (by decide) (by decide) (fun x6_ e6 t6 => ?_)
      refine r_icmp_ne hC (tgt := 77) dX10_goalOf_64 (by decide) (fun c7 => ?_) (fun c7 => ?_)
      · refine r_aload_n hC dX10_goalOf_77 0 rfl ?_
        refine r_getr hC 3 (ci := 10) rfl u10_in (by decide) mT_4_238 dX10_goalOf_78 ka0 rfl rfl hbm ?_
        obtain ⟨a8_, hb8, hk8, hn8⟩ := hs.row khm 14 73 16 (by decide) (by decide)
        refine r_getrN hC 14 (ci := 9) rfl u9_in (by decide) nF_14 dX10_goalOf_81 khm rfl rfl hb8 ?_
        refine r_iload_n hC dX10_goalOf_84 2 rfl ?_
        refine x_iaload hC hk8 hn8 (by decide) rfl rfl dX10_goalOf_85 (by omega) (by omega) (fun x9_ e9 => ?_)
        exact r_iret hC hQ hlk hr rfl (by decide) (by decide) dX10_goalOf_86 ⟨_, rfl, rfl, trivial⟩
      · refine r_aload_n hC dX10_goalOf_67 0 rfl ?_
        refine r_getr hC 3 (ci := 10) rfl u10_in (by decide) mT_4_238 dX10_goalOf_68 ka0 rfl rfl hbm ?_
        refine r_getiN hC 0 (ci := 9) rfl u9_in (by decide) nF_0 dX10_goalOf_71 khm rfl rfl (fun x10_ e10 => ?_)
        have f10 : x10_.toInt = (I hm 0).toInt := by rw [e10]
        refine r_goto hC (tgt := 86) dX10_goalOf_74 (by decide) ?_
        exact r_iret hC hQ hlk hr rfl (by decide) (by decide) dX10_goalOf_86 ⟨_, rfl, rfl, trivial⟩
    · refine r_aload_n hC dX10_goalOf_15 0 rfl ?_
      refine r_getr hC 3 (ci := 10) rfl u10_in (by decide) mT_4_238 dX10_goalOf_16 ka0 rfl rfl hbm ?_
      obtain ⟨a11_, hb11, hk11, hn11⟩ := hs.row khm 13 72 16 (by decide) (by decide)
      refine r_getrN hC 13 (ci := 9) rfl u9_in (by decide) nF_13 dX10_goalOf_19 khm rfl rfl hb11 ?_
      refine r_iload_n hC dX10_goalOf_22 3 rfl ?_
      refine x_iaload hC hk11 hn11 (by decide) rfl rfl dX10_goalOf_23 (by omega) (by omega) (fun x12_ e12 => ?_)
      refine r_iload_n hC dX10_goalOf_24 1 rfl ?_
      refine r_icmp_gt hC (tgt := 56) dX10_goalOf_25 (by decide) (fun c13 => ?_) (fun c13 => ?_)
      · obtain ⟨x14_, e14⟩ : ∃ z : Int32, z = x3_3 + Int32.ofInt (1) := ⟨_, rfl⟩
        refine r_iinc hC (j := 3) (v := x14_) (lv' := [(3, .int x14_), (0, .ref a0), (1, .int x1), (2, .int x3_2)]) dX10_goalOf_56 rfl (by rw [e14]) (by decide) rfl ?_
        try have t14 : x14_.toInt = x3_3.toInt + (1) := by rw [e14]; exact (ti_add (b := Int32.ofInt (1)) (by show _ ≤ _ + (1 : Int); omega) (by show _ + (1 : Int) ≤ _; omega))
        refine r_goto hC (tgt := 4) dX10_goalOf_59 (by decide) ?_
        refine r_sub [1, 2, 3, 0] rfl ?_
        exact ih3 ((16 - x14_.toInt).toNat) (by omega) x14_ x3_2 (by omega) (by omega) (by omega) (by omega) rfl
      · refine r_iload_n hC dX10_goalOf_28 2 rfl ?_
        refine r_iconst hC (v := (-1)) dX10_goalOf_29 (by decide) (by decide) (fun x15_ e15 t15 => ?_)
        refine r_icmp_eq hC (tgt := 54) dX10_goalOf_30 (by decide) (fun c16 => ?_) (fun c16 => ?_)
        · refine r_iload_n hC dX10_goalOf_54 3 rfl ?_
          refine r_istore_n hC (lv' := [(2, .int x3_3), (0, .ref a0), (1, .int x1), (3, .int x3_3)]) dX10_goalOf_55 (by decide) rfl ?_
          obtain ⟨x17_, e17⟩ : ∃ z : Int32, z = x3_3 + Int32.ofInt (1) := ⟨_, rfl⟩
          refine r_iinc hC (j := 3) (v := x17_) (lv' := [(3, .int x17_), (2, .int x3_3), (0, .ref a0), (1, .int x1)]) dX10_goalOf_56 rfl (by rw [e17]) (by decide) rfl ?_
          try have t17 : x17_.toInt = x3_3.toInt + (1) := by rw [e17]; exact (ti_add (b := Int32.ofInt (1)) (by show _ ≤ _ + (1 : Int); omega) (by show _ + (1 : Int) ≤ _; omega))
          refine r_goto hC (tgt := 4) dX10_goalOf_59 (by decide) ?_
          refine r_sub [2, 3, 1, 0] rfl ?_
          exact ih3 ((16 - x17_.toInt).toNat) (by omega) x17_ x3_3 (by omega) (by omega) (by omega) (by omega) rfl
        · refine r_aload_n hC dX10_goalOf_33 0 rfl ?_
          refine r_getr hC 3 (ci := 10) rfl u10_in (by decide) mT_4_238 dX10_goalOf_34 ka0 rfl rfl hbm ?_
          refine r_getrN hC 13 (ci := 9) rfl u9_in (by decide) nF_13 dX10_goalOf_37 khm rfl rfl hb11 ?_
          refine r_iload_n hC dX10_goalOf_40 3 rfl ?_
          refine x_iaload hC hk11 hn11 (by decide) rfl rfl dX10_goalOf_41 (by omega) (by omega) (fun x18_ e18 => ?_)
          refine r_aload_n hC dX10_goalOf_42 0 rfl ?_
          refine r_getr hC 3 (ci := 10) rfl u10_in (by decide) mT_4_238 dX10_goalOf_43 ka0 rfl rfl hbm ?_
          refine r_getrN hC 13 (ci := 9) rfl u9_in (by decide) nF_13 dX10_goalOf_46 khm rfl rfl hb11 ?_
          refine r_iload_n hC dX10_goalOf_49 2 rfl ?_
          refine x_iaload hC hk11 hn11 (by decide) rfl rfl dX10_goalOf_50 (by omega) (by omega) (fun x19_ e19 => ?_)
          refine r_icmp_lt hC (tgt := 56) dX10_goalOf_51 (by decide) (fun c20 => ?_) (fun c20 => ?_)
          · obtain ⟨x21_, e21⟩ : ∃ z : Int32, z = x3_3 + Int32.ofInt (1) := ⟨_, rfl⟩
            refine r_iinc hC (j := 3) (v := x21_) (lv' := [(3, .int x21_), (0, .ref a0), (1, .int x1), (2, .int x3_2)]) dX10_goalOf_56 rfl (by rw [e21]) (by decide) rfl ?_
            try have t21 : x21_.toInt = x3_3.toInt + (1) := by rw [e21]; exact (ti_add (b := Int32.ofInt (1)) (by show _ ≤ _ + (1 : Int); omega) (by show _ + (1 : Int) ≤ _; omega))
            refine r_goto hC (tgt := 4) dX10_goalOf_59 (by decide) ?_
            refine r_sub [1, 2, 3, 0] rfl ?_
            exact ih3 ((16 - x21_.toInt).toNat) (by omega) x21_ x3_2 (by omega) (by omega) (by omega) (by omega) rfl
          · refine r_iload_n hC dX10_goalOf_54 3 rfl ?_
            refine r_istore_n hC (lv' := [(2, .int x3_3), (0, .ref a0), (1, .int x1), (3, .int x3_3)]) dX10_goalOf_55 (by decide) rfl ?_
            obtain ⟨x22_, e22⟩ : ∃ z : Int32, z = x3_3 + Int32.ofInt (1) := ⟨_, rfl⟩
            refine r_iinc hC (j := 3) (v := x22_) (lv' := [(3, .int x22_), (2, .int x3_3), (0, .ref a0), (1, .int x1)]) dX10_goalOf_56 rfl (by rw [e22]) (by decide) rfl ?_
            try have t22 : x22_.toInt = x3_3.toInt + (1) := by rw [e22]; exact (ti_add (b := Int32.ofInt (1)) (by show _ ≤ _ + (1 : Int); omega) (by show _ + (1 : Int) ≤ _; omega))
            refine r_goto hC (tgt := 4) dX10_goalOf_59 (by decide) ?_
            refine r_sub [2, 3, 1, 0] rfl ?_
            exact ih3 ((16 - x22_.toInt).toNat) (by omega) x22_ x3_3 (by omega) (by omega) (by omega) (by omega) rfl
  refine r_sub [2, 3, 1, 0] rfl ?_
  exact LP3 _ x2_ x1_ (by omega) (by omega) (by omega) (by omega) rfl
set_option maxHeartbeats 4000000 in
set_option maxRecDepth 100000 in
theorem c_X10_fills (g : GG) (l : Launch) (K len : Nat → Nat) (I : Nat → Nat → Int32) (J : Nat → Nat → Int64) (R : Nat → Nat → Option Nat) (hs : Sf K len I R) (a0 : Nat) (ka0 : K a0 = 11) (x1 : Int32) (x2 : Int32) (hm : Nat) (hbm : R a0 3 = some hm) (khm : K hm = 10) : Ct g l yX10_fills cX10_fills 7 (Option.none : Option Jvm.ClassFile.FieldType) rmX10_fills [.ref a0, .int x1, .int x2] (K, len, I, J, R) (pV1 (K, len, I, J, R) (fun I' => Sf K len I' R ∧ Fr K [(85, 999)] I I')) := by
  refine Ct_intro (by decide +kernel) (Nat.le_of_ble_eq_true rfl) (fun X hC hL hKK hNm hr hlk hQ => ?_)
  subst hL
  have hC : Cx g X cX10_fills "HillTapModel" 7 rmX10_fills := hC
  show P g X 7 0 [(0, .ref a0), (1, .int x1), (2, .int x2)] [] 0 0 (K, len, I, J, R)
  have hF : Fr K [(85, 999)] I I := Fr.refl
  have b_x1 := ti_rng x1
  have b_x2 := ti_rng x2
  refine r_aload_n hC dX10_fills_0 0 rfl ?_
  refine r_getr hC 3 (ci := 10) rfl u10_in (by decide) mT_4_238 dX10_fills_1 ka0 rfl rfl hbm ?_
  refine r_getiN hC 0 (ci := 9) rfl u9_in (by decide) nF_0 dX10_fills_4 khm rfl rfl (fun x1_ e1 => ?_)
  have f1 : x1_.toInt = (I hm 0).toInt := by rw [e1]
  refine r_istore_n hC (lv' := [(3, .int x1_), (0, .ref a0), (1, .int x1), (2, .int x2)]) dX10_fills_7 (by decide) rfl ?_
  refine r_iconst hC (v := (0)) dX10_fills_8 (by decide) (by decide) (fun x2_ e2 t2 => ?_)
  refine r_istore hC (lv' := [(4, .int x2_), (3, .int x1_), (0, .ref a0), (1, .int x1), (2, .int x2)]) dX10_fills_9 (by decide) rfl ?_
  have LP3 : ∀ (mu : Nat) (x3_4 : Int32) (x3_3 : Int32) (I3 : Nat → Nat → Int32) (hs3 : Sf K len I3 R) (hF3 : Fr K [(85, 999)] I I3) (v3_0 : 0 ≤ x3_4.toInt) (v3_1 : x3_4.toInt ≤ 60), (60 - x3_4.toInt).toNat = mu → P g X 7 11 [(0, .ref a0), (1, .int x1), (2, .int x2), (3, .int x3_3), (4, .int x3_4)] [] 0 0 (K, len, I3, J, R) := by
    intro mu; induction mu using Nat.strongRecOn with | ind mu ih => ?_
    intro x3_4 x3_3 I3 hs3 hF3 v3_0 v3_1 hmu
    have ih3 := ih
    clear ih
    have hmu3 := hmu
    clear hmu
    refine r_iload hC dX10_fills_11 4 rfl ?_
    refine r_bipush hC (v := (60)) dX10_fills_13 (by decide) (by decide) (fun x4_ e4 t4 => ?_)
    refine r_icmp_ge hC (tgt := 148) dX10_fills_15 (by decide) (fun c5 => ?_) (fun c5 => ?_)
    · exact r_vret hC hQ hlk hr (by decide) (by decide) dX10_fills_148 ⟨_, rfl, rfl, ⟨hs3, hF3⟩⟩
    · refine r_iload hC dX10_fills_18 4 rfl ?_
      refine r_iload_n hC dX10_fills_20 1 rfl ?_
      refine r_icmp_lt hC (tgt := 28) dX10_fills_21 (by decide) (fun c6 => ?_) (fun c6 => ?_)
      · refine r_iload_n hC dX10_fills_28 2 rfl ?_
        refine r_iconst hC (v := (-1)) dX10_fills_29 (by decide) (by decide) (fun x7_ e7 t7 => ?_)
        refine r_icmp_eq hC (tgt := 37) dX10_fills_30 (by decide) (fun c8 => ?_) (fun c8 => ?_)
        · refine r_aload_n hC dX10_fills_37 0 rfl ?_
          refine r_iload hC dX10_fills_38 4 rfl ?_
          refine r_callV hC (As := [.int x3_4]) (rest := []) (ci := 10) (c_X10_goalOf g (xL X) K len I3 J R hs3 a0 ka0 x3_4 hm hbm khm) mT_6_103 mT_1_10 mT_6_100 mT_6_102 mP_70 okX10_goalOf ⟨by decide, by decide⟩ rfl (by show kO (K a0) = _; rw [ka0]; rfl) rfl rfl (Nat.le_of_ble_eq_true rfl) ⟨by decide, by decide⟩ dX10_fills_40 (aI0 (F := fun st M => P g X 7 43 [(0, .ref a0), (1, .int x1), (2, .int x2), (3, .int x3_3), (4, .int x3_4)] st _ _ M) (M := (K, len, I3, J, R)) fun x9_ h9 => ?_)
          skip
          show P g X 7 43 [(0, .ref a0), (1, .int x1), (2, .int x2), (3, .int x3_3), (4, .int x3_4)] [.int x9_] _ _ (K, len, I3, J, R)
          refine r_istore hC (lv' := [(5, .int x9_), (0, .ref a0), (1, .int x1), (2, .int x2), (3, .int x3_3), (4, .int x3_4)]) dX10_fills_43 (by decide) rfl ?_
          refine r_iload hC dX10_fills_45 0 rfl ?_
          refine r_aload_n hC dX10_fills_47 1 rfl ?_
          refine r_getr hC 3 (ci := 10) rfl u10_in (by decide) mT_4_238 dX10_fills_48 ka0 rfl rfl hbm ?_
          refine r_getiN hC 2 (ci := 9) rfl u9_in (by decide) nF_2 dX10_fills_51 khm rfl rfl (fun x10_ e10 => ?_)
          refine r_icmp_le hC (tgt := 67) dX10_fills_54 (by decide) (fun c11 => ?_) (fun c11 => ?_)
          · refine r_iload hC dX10_fills_67 0 rfl ?_
            refine r_istore hC (lv' := [(5, .int x9_), (0, .ref a0), (1, .int x1), (2, .int x2), (3, .int x3_3), (4, .int x3_4)]) dX10_fills_69 (by decide) rfl ?_
            refine r_iload hC dX10_fills_71 0 rfl ?_
            refine r_iload_n hC dX10_fills_73 4 rfl ?_
            refine r_icmp_le hC (tgt := 84) dX10_fills_74 (by decide) (fun c12 => ?_) (fun c12 => ?_)
            · refine r_iload_n hC dX10_fills_84 4 rfl ?_
              refine r_iload hC dX10_fills_85 0 rfl ?_
              refine r_isub hC dX10_fills_87 (fun x13_ e13 => ?_)
              try have t13 : x13_.toInt = x3_3.toInt - x9_.toInt := by rw [e13]; exact ti_sub (by omega) (by omega)
              refine r_istore hC (lv' := [(6, .int x13_), (5, .int x9_), (0, .ref a0), (1, .int x1), (2, .int x2), (3, .int x3_3), (4, .int x3_4)]) dX10_fills_88 (by decide) rfl ?_
              refine r_iload hC dX10_fills_90 0 rfl ?_
              refine r_aload_n hC dX10_fills_92 2 rfl ?_
              refine r_getr hC 3 (ci := 10) rfl u10_in (by decide) mT_4_238 dX10_fills_93 ka0 rfl rfl hbm ?_
              refine r_getiN hC 1 (ci := 9) rfl u9_in (by decide) nF_1 dX10_fills_96 khm rfl rfl (fun x14_ e14 => ?_)
              refine r_icmp_le hC (tgt := 112) dX10_fills_99 (by decide) (fun c15 => ?_) (fun c15 => ?_)
              · refine r_iload hC dX10_fills_112 0 rfl ?_
                refine r_istore hC (lv' := [(6, .int x13_), (5, .int x9_), (0, .ref a0), (1, .int x1), (2, .int x2), (3, .int x3_3), (4, .int x3_4)]) dX10_fills_114 (by decide) rfl ?_
                refine r_iload hC dX10_fills_116 1 rfl ?_
                refine r_iload_n hC dX10_fills_118 5 rfl ?_
                refine r_icmp_le hC (tgt := 129) dX10_fills_119 (by decide) (fun c16 => ?_) (fun c16 => ?_)
                · refine r_iload_n hC dX10_fills_129 5 rfl ?_
                  refine r_iload hC dX10_fills_130 0 rfl ?_
                  refine r_isub hC dX10_fills_132 (fun x17_ e17 => ?_)
                  try have t17 : x17_.toInt = x3_3.toInt - x13_.toInt := by rw [e17]; exact ti_sub (by omega) (by omega)
                  refine r_istore_n hC (lv' := [(3, .int x17_), (6, .int x13_), (5, .int x9_), (0, .ref a0), (1, .int x1), (2, .int x2), (4, .int x3_4)]) dX10_fills_133 (by decide) rfl ?_
                  refine r_aload_n hC dX10_fills_134 3 rfl ?_
                  obtain ⟨a18_, hb18, hk18, hn18⟩ := hs3.row ka0 15 85 60 (by decide) (by decide)
                  refine r_getr hC 15 (ci := 10) rfl u10_in (by decide) mT_5_10 dX10_fills_135 ka0 rfl rfl hb18 ?_
                  refine r_iload hC dX10_fills_138 6 rfl ?_
                  refine r_iload_n hC dX10_fills_140 0 rfl ?_
                  refine x_iastore hC hk18 hn18 (by decide) rfl rfl dX10_fills_141 (by omega) (by omega) (fun I19 eI19 => ?_)
                  have hs19 := hs3.put0 eI19 hk18 (rng_arr (by decide) _) rfl (xF_arr (by decide) _) (by decide)
                  have hF19 := hF3.put eI19 hk18 (inS_arr rfl _)
                  obtain ⟨x20_, e20⟩ : ∃ z : Int32, z = x3_4 + Int32.ofInt (1) := ⟨_, rfl⟩
                  refine r_iinc hC (j := 6) (v := x20_) (lv' := [(4, .int x20_), (3, .int x17_), (6, .int x13_), (5, .int x9_), (0, .ref a0), (1, .int x1), (2, .int x2)]) dX10_fills_142 rfl (by rw [e20]) (by decide) rfl ?_
                  try have t20 : x20_.toInt = x3_4.toInt + (1) := by rw [e20]; exact (ti_add (b := Int32.ofInt (1)) (by show _ ≤ _ + (1 : Int); omega) (by show _ + (1 : Int) ≤ _; omega))
                  refine r_goto hC (tgt := 11) dX10_fills_145 (by decide) ?_
                  refine r_sub [4, 5, 6, 1, 0] rfl ?_
                  exact ih3 ((60 - x20_.toInt).toNat) (by omega) x20_ x17_ I19 hs19 hF19 (by omega) (by omega) rfl
                · refine r_iload_n hC dX10_fills_122 5 rfl ?_
                  refine r_iload hC dX10_fills_123 0 rfl ?_
                  refine r_iadd hC dX10_fills_125 (fun x21_ e21 => ?_)
                  try have t21 : x21_.toInt = x3_3.toInt + x13_.toInt := by rw [e21]; exact ti_add (by omega) (by omega)
                  refine r_goto hC (tgt := 133) dX10_fills_126 (by decide) ?_
                  refine r_istore_n hC (lv' := [(3, .int x21_), (6, .int x13_), (5, .int x9_), (0, .ref a0), (1, .int x1), (2, .int x2), (4, .int x3_4)]) dX10_fills_133 (by decide) rfl ?_
                  refine r_aload_n hC dX10_fills_134 3 rfl ?_
                  obtain ⟨a22_, hb22, hk22, hn22⟩ := hs3.row ka0 15 85 60 (by decide) (by decide)
                  refine r_getr hC 15 (ci := 10) rfl u10_in (by decide) mT_5_10 dX10_fills_135 ka0 rfl rfl hb22 ?_
                  refine r_iload hC dX10_fills_138 6 rfl ?_
                  refine r_iload_n hC dX10_fills_140 0 rfl ?_
                  refine x_iastore hC hk22 hn22 (by decide) rfl rfl dX10_fills_141 (by omega) (by omega) (fun I23 eI23 => ?_)
                  have hs23 := hs3.put0 eI23 hk22 (rng_arr (by decide) _) rfl (xF_arr (by decide) _) (by decide)
                  have hF23 := hF3.put eI23 hk22 (inS_arr rfl _)
                  obtain ⟨x24_, e24⟩ : ∃ z : Int32, z = x3_4 + Int32.ofInt (1) := ⟨_, rfl⟩
                  refine r_iinc hC (j := 6) (v := x24_) (lv' := [(4, .int x24_), (3, .int x21_), (6, .int x13_), (5, .int x9_), (0, .ref a0), (1, .int x1), (2, .int x2)]) dX10_fills_142 rfl (by rw [e24]) (by decide) rfl ?_
                  try have t24 : x24_.toInt = x3_4.toInt + (1) := by rw [e24]; exact (ti_add (b := Int32.ofInt (1)) (by show _ ≤ _ + (1 : Int); omega) (by show _ + (1 : Int) ≤ _; omega))
                  refine r_goto hC (tgt := 11) dX10_fills_145 (by decide) ?_
                  refine r_sub [4, 5, 6, 1, 0] rfl ?_
                  exact ih3 ((60 - x24_.toInt).toNat) (by omega) x24_ x21_ I23 hs23 hF23 (by omega) (by omega) rfl
              · refine r_aload_n hC dX10_fills_102 2 rfl ?_
                refine r_getr hC 3 (ci := 10) rfl u10_in (by decide) mT_4_238 dX10_fills_103 ka0 rfl rfl hbm ?_
                refine r_getiN hC 1 (ci := 9) rfl u9_in (by decide) nF_1 dX10_fills_106 khm rfl rfl (fun x25_ e25 => ?_)
                have w25 : x25_ = x14_ := by rw [e25]; exact e14.symm
                have wt25 : x25_.toInt = x14_.toInt := by rw [w25]
                refine r_goto hC (tgt := 114) dX10_fills_109 (by decide) ?_
                refine r_istore hC (lv' := [(6, .int x25_), (5, .int x9_), (0, .ref a0), (1, .int x1), (2, .int x2), (3, .int x3_3), (4, .int x3_4)]) dX10_fills_114 (by decide) rfl ?_
                refine r_iload hC dX10_fills_116 1 rfl ?_
                refine r_iload_n hC dX10_fills_118 5 rfl ?_
                refine r_icmp_le hC (tgt := 129) dX10_fills_119 (by decide) (fun c26 => ?_) (fun c26 => ?_)
                · refine r_iload_n hC dX10_fills_129 5 rfl ?_
                  refine r_iload hC dX10_fills_130 0 rfl ?_
                  refine r_isub hC dX10_fills_132 (fun x27_ e27 => ?_)
                  try have t27 : x27_.toInt = x3_3.toInt - x25_.toInt := by rw [e27]; exact ti_sub (by omega) (by omega)
                  refine r_istore_n hC (lv' := [(3, .int x27_), (6, .int x25_), (5, .int x9_), (0, .ref a0), (1, .int x1), (2, .int x2), (4, .int x3_4)]) dX10_fills_133 (by decide) rfl ?_
                  refine r_aload_n hC dX10_fills_134 3 rfl ?_
                  obtain ⟨a28_, hb28, hk28, hn28⟩ := hs3.row ka0 15 85 60 (by decide) (by decide)
                  refine r_getr hC 15 (ci := 10) rfl u10_in (by decide) mT_5_10 dX10_fills_135 ka0 rfl rfl hb28 ?_
                  refine r_iload hC dX10_fills_138 6 rfl ?_
                  refine r_iload_n hC dX10_fills_140 0 rfl ?_
                  refine x_iastore hC hk28 hn28 (by decide) rfl rfl dX10_fills_141 (by omega) (by omega) (fun I29 eI29 => ?_)
                  have hs29 := hs3.put0 eI29 hk28 (rng_arr (by decide) _) rfl (xF_arr (by decide) _) (by decide)
                  have hF29 := hF3.put eI29 hk28 (inS_arr rfl _)
                  obtain ⟨x30_, e30⟩ : ∃ z : Int32, z = x3_4 + Int32.ofInt (1) := ⟨_, rfl⟩
                  refine r_iinc hC (j := 6) (v := x30_) (lv' := [(4, .int x30_), (3, .int x27_), (6, .int x25_), (5, .int x9_), (0, .ref a0), (1, .int x1), (2, .int x2)]) dX10_fills_142 rfl (by rw [e30]) (by decide) rfl ?_
                  try have t30 : x30_.toInt = x3_4.toInt + (1) := by rw [e30]; exact (ti_add (b := Int32.ofInt (1)) (by show _ ≤ _ + (1 : Int); omega) (by show _ + (1 : Int) ≤ _; omega))
                  refine r_goto hC (tgt := 11) dX10_fills_145 (by decide) ?_
                  refine r_sub [4, 5, 6, 1, 0] rfl ?_
                  exact ih3 ((60 - x30_.toInt).toNat) (by omega) x30_ x27_ I29 hs29 hF29 (by omega) (by omega) rfl
                · refine r_iload_n hC dX10_fills_122 5 rfl ?_
                  refine r_iload hC dX10_fills_123 0 rfl ?_
                  refine r_iadd hC dX10_fills_125 (fun x31_ e31 => ?_)
                  try have t31 : x31_.toInt = x3_3.toInt + x25_.toInt := by rw [e31]; exact ti_add (by omega) (by omega)
                  refine r_goto hC (tgt := 133) dX10_fills_126 (by decide) ?_
                  refine r_istore_n hC (lv' := [(3, .int x31_), (6, .int x25_), (5, .int x9_), (0, .ref a0), (1, .int x1), (2, .int x2), (4, .int x3_4)]) dX10_fills_133 (by decide) rfl ?_
                  refine r_aload_n hC dX10_fills_134 3 rfl ?_
                  obtain ⟨a32_, hb32, hk32, hn32⟩ := hs3.row ka0 15 85 60 (by decide) (by decide)
                  refine r_getr hC 15 (ci := 10) rfl u10_in (by decide) mT_5_10 dX10_fills_135 ka0 rfl rfl hb32 ?_
                  refine r_iload hC dX10_fills_138 6 rfl ?_
                  refine r_iload_n hC dX10_fills_140 0 rfl ?_
                  refine x_iastore hC hk32 hn32 (by decide) rfl rfl dX10_fills_141 (by omega) (by omega) (fun I33 eI33 => ?_)
                  have hs33 := hs3.put0 eI33 hk32 (rng_arr (by decide) _) rfl (xF_arr (by decide) _) (by decide)
                  have hF33 := hF3.put eI33 hk32 (inS_arr rfl _)
                  obtain ⟨x34_, e34⟩ : ∃ z : Int32, z = x3_4 + Int32.ofInt (1) := ⟨_, rfl⟩
                  refine r_iinc hC (j := 6) (v := x34_) (lv' := [(4, .int x34_), (3, .int x31_), (6, .int x25_), (5, .int x9_), (0, .ref a0), (1, .int x1), (2, .int x2)]) dX10_fills_142 rfl (by rw [e34]) (by decide) rfl ?_
                  try have t34 : x34_.toInt = x3_4.toInt + (1) := by rw [e34]; exact (ti_add (b := Int32.ofInt (1)) (by show _ ≤ _ + (1 : Int); omega) (by show _ + (1 : Int) ≤ _; omega))
                  refine r_goto hC (tgt := 11) dX10_fills_145 (by decide) ?_
                  refine r_sub [4, 5, 6, 1, 0] rfl ?_
                  exact ih3 ((60 - x34_.toInt).toNat) (by omega) x34_ x31_ I33 hs33 hF33 (by omega) (by omega) rfl
            · refine r_iload hC dX10_fills_77 0 rfl ?_
              refine r_iload_n hC dX10_fills_79 4 rfl ?_
              refine r_isub hC dX10_fills_80 (fun x35_ e35 => ?_)
              try have t35 : x35_.toInt = x9_.toInt - x3_3.toInt := by rw [e35]; exact ti_sub (by omega) (by omega)
              refine r_goto hC (tgt := 88) dX10_fills_81 (by decide) ?_
              refine r_istore hC (lv' := [(6, .int x35_), (5, .int x9_), (0, .ref a0), (1, .int x1), (2, .int x2), (3, .int x3_3), (4, .int x3_4)]) dX10_fills_88 (by decide) rfl ?_
              refine r_iload hC dX10_fills_90 0 rfl ?_
              refine r_aload_n hC dX10_fills_92 2 rfl ?_
              refine r_getr hC 3 (ci := 10) rfl u10_in (by decide) mT_4_238 dX10_fills_93 ka0 rfl rfl hbm ?_
              refine r_getiN hC 1 (ci := 9) rfl u9_in (by decide) nF_1 dX10_fills_96 khm rfl rfl (fun x36_ e36 => ?_)
              refine r_icmp_le hC (tgt := 112) dX10_fills_99 (by decide) (fun c37 => ?_) (fun c37 => ?_)
              · refine r_iload hC dX10_fills_112 0 rfl ?_
                refine r_istore hC (lv' := [(6, .int x35_), (5, .int x9_), (0, .ref a0), (1, .int x1), (2, .int x2), (3, .int x3_3), (4, .int x3_4)]) dX10_fills_114 (by decide) rfl ?_
                refine r_iload hC dX10_fills_116 1 rfl ?_
                refine r_iload_n hC dX10_fills_118 5 rfl ?_
                refine r_icmp_le hC (tgt := 129) dX10_fills_119 (by decide) (fun c38 => ?_) (fun c38 => ?_)
                · refine r_iload_n hC dX10_fills_129 5 rfl ?_
                  refine r_iload hC dX10_fills_130 0 rfl ?_
                  refine r_isub hC dX10_fills_132 (fun x39_ e39 => ?_)
                  try have t39 : x39_.toInt = x3_3.toInt - x35_.toInt := by rw [e39]; exact ti_sub (by omega) (by omega)
                  refine r_istore_n hC (lv' := [(3, .int x39_), (6, .int x35_), (5, .int x9_), (0, .ref a0), (1, .int x1), (2, .int x2), (4, .int x3_4)]) dX10_fills_133 (by decide) rfl ?_
                  refine r_aload_n hC dX10_fills_134 3 rfl ?_
                  obtain ⟨a40_, hb40, hk40, hn40⟩ := hs3.row ka0 15 85 60 (by decide) (by decide)
                  refine r_getr hC 15 (ci := 10) rfl u10_in (by decide) mT_5_10 dX10_fills_135 ka0 rfl rfl hb40 ?_
                  refine r_iload hC dX10_fills_138 6 rfl ?_
                  refine r_iload_n hC dX10_fills_140 0 rfl ?_
                  refine x_iastore hC hk40 hn40 (by decide) rfl rfl dX10_fills_141 (by omega) (by omega) (fun I41 eI41 => ?_)
                  have hs41 := hs3.put0 eI41 hk40 (rng_arr (by decide) _) rfl (xF_arr (by decide) _) (by decide)
                  have hF41 := hF3.put eI41 hk40 (inS_arr rfl _)
                  obtain ⟨x42_, e42⟩ : ∃ z : Int32, z = x3_4 + Int32.ofInt (1) := ⟨_, rfl⟩
                  refine r_iinc hC (j := 6) (v := x42_) (lv' := [(4, .int x42_), (3, .int x39_), (6, .int x35_), (5, .int x9_), (0, .ref a0), (1, .int x1), (2, .int x2)]) dX10_fills_142 rfl (by rw [e42]) (by decide) rfl ?_
                  try have t42 : x42_.toInt = x3_4.toInt + (1) := by rw [e42]; exact (ti_add (b := Int32.ofInt (1)) (by show _ ≤ _ + (1 : Int); omega) (by show _ + (1 : Int) ≤ _; omega))
                  refine r_goto hC (tgt := 11) dX10_fills_145 (by decide) ?_
                  refine r_sub [4, 5, 6, 1, 0] rfl ?_
                  exact ih3 ((60 - x42_.toInt).toNat) (by omega) x42_ x39_ I41 hs41 hF41 (by omega) (by omega) rfl
                · refine r_iload_n hC dX10_fills_122 5 rfl ?_
                  refine r_iload hC dX10_fills_123 0 rfl ?_
                  refine r_iadd hC dX10_fills_125 (fun x43_ e43 => ?_)
                  try have t43 : x43_.toInt = x3_3.toInt + x35_.toInt := by rw [e43]; exact ti_add (by omega) (by omega)
                  refine r_goto hC (tgt := 133) dX10_fills_126 (by decide) ?_
                  refine r_istore_n hC (lv' := [(3, .int x43_), (6, .int x35_), (5, .int x9_), (0, .ref a0), (1, .int x1), (2, .int x2), (4, .int x3_4)]) dX10_fills_133 (by decide) rfl ?_
                  refine r_aload_n hC dX10_fills_134 3 rfl ?_
                  obtain ⟨a44_, hb44, hk44, hn44⟩ := hs3.row ka0 15 85 60 (by decide) (by decide)
                  refine r_getr hC 15 (ci := 10) rfl u10_in (by decide) mT_5_10 dX10_fills_135 ka0 rfl rfl hb44 ?_
                  refine r_iload hC dX10_fills_138 6 rfl ?_
                  refine r_iload_n hC dX10_fills_140 0 rfl ?_
                  refine x_iastore hC hk44 hn44 (by decide) rfl rfl dX10_fills_141 (by omega) (by omega) (fun I45 eI45 => ?_)
                  have hs45 := hs3.put0 eI45 hk44 (rng_arr (by decide) _) rfl (xF_arr (by decide) _) (by decide)
                  have hF45 := hF3.put eI45 hk44 (inS_arr rfl _)
                  obtain ⟨x46_, e46⟩ : ∃ z : Int32, z = x3_4 + Int32.ofInt (1) := ⟨_, rfl⟩
                  refine r_iinc hC (j := 6) (v := x46_) (lv' := [(4, .int x46_), (3, .int x43_), (6, .int x35_), (5, .int x9_), (0, .ref a0), (1, .int x1), (2, .int x2)]) dX10_fills_142 rfl (by rw [e46]) (by decide) rfl ?_
                  try have t46 : x46_.toInt = x3_4.toInt + (1) := by rw [e46]; exact (ti_add (b := Int32.ofInt (1)) (by show _ ≤ _ + (1 : Int); omega) (by show _ + (1 : Int) ≤ _; omega))
                  refine r_goto hC (tgt := 11) dX10_fills_145 (by decide) ?_
                  refine r_sub [4, 5, 6, 1, 0] rfl ?_
                  exact ih3 ((60 - x46_.toInt).toNat) (by omega) x46_ x43_ I45 hs45 hF45 (by omega) (by omega) rfl
              · refine r_aload_n hC dX10_fills_102 2 rfl ?_
                refine r_getr hC 3 (ci := 10) rfl u10_in (by decide) mT_4_238 dX10_fills_103 ka0 rfl rfl hbm ?_
                refine r_getiN hC 1 (ci := 9) rfl u9_in (by decide) nF_1 dX10_fills_106 khm rfl rfl (fun x47_ e47 => ?_)
                have w47 : x47_ = x36_ := by rw [e47]; exact e36.symm
                have wt47 : x47_.toInt = x36_.toInt := by rw [w47]
                refine r_goto hC (tgt := 114) dX10_fills_109 (by decide) ?_
                refine r_istore hC (lv' := [(6, .int x47_), (5, .int x9_), (0, .ref a0), (1, .int x1), (2, .int x2), (3, .int x3_3), (4, .int x3_4)]) dX10_fills_114 (by decide) rfl ?_
                refine r_iload hC dX10_fills_116 1 rfl ?_
                refine r_iload_n hC dX10_fills_118 5 rfl ?_
                refine r_icmp_le hC (tgt := 129) dX10_fills_119 (by decide) (fun c48 => ?_) (fun c48 => ?_)
                · refine r_iload_n hC dX10_fills_129 5 rfl ?_
                  refine r_iload hC dX10_fills_130 0 rfl ?_
                  refine r_isub hC dX10_fills_132 (fun x49_ e49 => ?_)
                  try have t49 : x49_.toInt = x3_3.toInt - x47_.toInt := by rw [e49]; exact ti_sub (by omega) (by omega)
                  refine r_istore_n hC (lv' := [(3, .int x49_), (6, .int x47_), (5, .int x9_), (0, .ref a0), (1, .int x1), (2, .int x2), (4, .int x3_4)]) dX10_fills_133 (by decide) rfl ?_
                  refine r_aload_n hC dX10_fills_134 3 rfl ?_
                  obtain ⟨a50_, hb50, hk50, hn50⟩ := hs3.row ka0 15 85 60 (by decide) (by decide)
                  refine r_getr hC 15 (ci := 10) rfl u10_in (by decide) mT_5_10 dX10_fills_135 ka0 rfl rfl hb50 ?_
                  refine r_iload hC dX10_fills_138 6 rfl ?_
                  refine r_iload_n hC dX10_fills_140 0 rfl ?_
                  refine x_iastore hC hk50 hn50 (by decide) rfl rfl dX10_fills_141 (by omega) (by omega) (fun I51 eI51 => ?_)
                  have hs51 := hs3.put0 eI51 hk50 (rng_arr (by decide) _) rfl (xF_arr (by decide) _) (by decide)
                  have hF51 := hF3.put eI51 hk50 (inS_arr rfl _)
                  obtain ⟨x52_, e52⟩ : ∃ z : Int32, z = x3_4 + Int32.ofInt (1) := ⟨_, rfl⟩
                  refine r_iinc hC (j := 6) (v := x52_) (lv' := [(4, .int x52_), (3, .int x49_), (6, .int x47_), (5, .int x9_), (0, .ref a0), (1, .int x1), (2, .int x2)]) dX10_fills_142 rfl (by rw [e52]) (by decide) rfl ?_
                  try have t52 : x52_.toInt = x3_4.toInt + (1) := by rw [e52]; exact (ti_add (b := Int32.ofInt (1)) (by show _ ≤ _ + (1 : Int); omega) (by show _ + (1 : Int) ≤ _; omega))
                  refine r_goto hC (tgt := 11) dX10_fills_145 (by decide) ?_
                  refine r_sub [4, 5, 6, 1, 0] rfl ?_
                  exact ih3 ((60 - x52_.toInt).toNat) (by omega) x52_ x49_ I51 hs51 hF51 (by omega) (by omega) rfl
                · refine r_iload_n hC dX10_fills_122 5 rfl ?_
                  refine r_iload hC dX10_fills_123 0 rfl ?_
                  refine r_iadd hC dX10_fills_125 (fun x53_ e53 => ?_)
                  try have t53 : x53_.toInt = x3_3.toInt + x47_.toInt := by rw [e53]; exact ti_add (by omega) (by omega)
                  refine r_goto hC (tgt := 133) dX10_fills_126 (by decide) ?_
                  refine r_istore_n hC (lv' := [(3, .int x53_), (6, .int x47_), (5, .int x9_), (0, .ref a0), (1, .int x1), (2, .int x2), (4, .int x3_4)]) dX10_fills_133 (by decide) rfl ?_
                  refine r_aload_n hC dX10_fills_134 3 rfl ?_
                  obtain ⟨a54_, hb54, hk54, hn54⟩ := hs3.row ka0 15 85 60 (by decide) (by decide)
                  refine r_getr hC 15 (ci := 10) rfl u10_in (by decide) mT_5_10 dX10_fills_135 ka0 rfl rfl hb54 ?_
                  refine r_iload hC dX10_fills_138 6 rfl ?_
                  refine r_iload_n hC dX10_fills_140 0 rfl ?_
                  refine x_iastore hC hk54 hn54 (by decide) rfl rfl dX10_fills_141 (by omega) (by omega) (fun I55 eI55 => ?_)
                  have hs55 := hs3.put0 eI55 hk54 (rng_arr (by decide) _) rfl (xF_arr (by decide) _) (by decide)
                  have hF55 := hF3.put eI55 hk54 (inS_arr rfl _)
                  obtain ⟨x56_, e56⟩ : ∃ z : Int32, z = x3_4 + Int32.ofInt (1) := ⟨_, rfl⟩
                  refine r_iinc hC (j := 6) (v := x56_) (lv' := [(4, .int x56_), (3, .int x53_), (6, .int x47_), (5, .int x9_), (0, .ref a0), (1, .int x1), (2, .int x2)]) dX10_fills_142 rfl (by rw [e56]) (by decide) rfl ?_
                  try have t56 : x56_.toInt = x3_4.toInt + (1) := by rw [e56]; exact (ti_add (b := Int32.ofInt (1)) (by show _ ≤ _ + (1 : Int); omega) (by show _ + (1 : Int) ≤ _; omega))
                  refine r_goto hC (tgt := 11) dX10_fills_145 (by decide) ?_
                  refine r_sub [4, 5, 6, 1, 0] rfl ?_
                  exact ih3 ((60 - x56_.toInt).toNat) (by omega) x56_ x53_ I55 hs55 hF55 (by omega) (by omega) rfl
          · refine r_aload_n hC dX10_fills_57 1 rfl ?_
            refine r_getr hC 3 (ci := 10) rfl u10_in (by decide) mT_4_238 dX10_fills_58 ka0 rfl rfl hbm ?_
            refine r_getiN hC 2 (ci := 9) rfl u9_in (by decide) nF_2 dX10_fills_61 khm rfl rfl (fun x57_ e57 => ?_)
            have w57 : x57_ = x10_ := by rw [e57]; exact e10.symm
            have wt57 : x57_.toInt = x10_.toInt := by rw [w57]
            refine r_goto hC (tgt := 69) dX10_fills_64 (by decide) ?_
            refine r_istore hC (lv' := [(5, .int x57_), (0, .ref a0), (1, .int x1), (2, .int x2), (3, .int x3_3), (4, .int x3_4)]) dX10_fills_69 (by decide) rfl ?_
            refine r_iload hC dX10_fills_71 0 rfl ?_
            refine r_iload_n hC dX10_fills_73 4 rfl ?_
            refine r_icmp_le hC (tgt := 84) dX10_fills_74 (by decide) (fun c58 => ?_) (fun c58 => ?_)
            · refine r_iload_n hC dX10_fills_84 4 rfl ?_
              refine r_iload hC dX10_fills_85 0 rfl ?_
              refine r_isub hC dX10_fills_87 (fun x59_ e59 => ?_)
              try have t59 : x59_.toInt = x3_3.toInt - x57_.toInt := by rw [e59]; exact ti_sub (by omega) (by omega)
              refine r_istore hC (lv' := [(6, .int x59_), (5, .int x57_), (0, .ref a0), (1, .int x1), (2, .int x2), (3, .int x3_3), (4, .int x3_4)]) dX10_fills_88 (by decide) rfl ?_
              refine r_iload hC dX10_fills_90 0 rfl ?_
              refine r_aload_n hC dX10_fills_92 2 rfl ?_
              refine r_getr hC 3 (ci := 10) rfl u10_in (by decide) mT_4_238 dX10_fills_93 ka0 rfl rfl hbm ?_
              refine r_getiN hC 1 (ci := 9) rfl u9_in (by decide) nF_1 dX10_fills_96 khm rfl rfl (fun x60_ e60 => ?_)
              refine r_icmp_le hC (tgt := 112) dX10_fills_99 (by decide) (fun c61 => ?_) (fun c61 => ?_)
              · refine r_iload hC dX10_fills_112 0 rfl ?_
                refine r_istore hC (lv' := [(6, .int x59_), (5, .int x57_), (0, .ref a0), (1, .int x1), (2, .int x2), (3, .int x3_3), (4, .int x3_4)]) dX10_fills_114 (by decide) rfl ?_
                refine r_iload hC dX10_fills_116 1 rfl ?_
                refine r_iload_n hC dX10_fills_118 5 rfl ?_
                refine r_icmp_le hC (tgt := 129) dX10_fills_119 (by decide) (fun c62 => ?_) (fun c62 => ?_)
                · refine r_iload_n hC dX10_fills_129 5 rfl ?_
                  refine r_iload hC dX10_fills_130 0 rfl ?_
                  refine r_isub hC dX10_fills_132 (fun x63_ e63 => ?_)
                  try have t63 : x63_.toInt = x3_3.toInt - x59_.toInt := by rw [e63]; exact ti_sub (by omega) (by omega)
                  refine r_istore_n hC (lv' := [(3, .int x63_), (6, .int x59_), (5, .int x57_), (0, .ref a0), (1, .int x1), (2, .int x2), (4, .int x3_4)]) dX10_fills_133 (by decide) rfl ?_
                  refine r_aload_n hC dX10_fills_134 3 rfl ?_
                  obtain ⟨a64_, hb64, hk64, hn64⟩ := hs3.row ka0 15 85 60 (by decide) (by decide)
                  refine r_getr hC 15 (ci := 10) rfl u10_in (by decide) mT_5_10 dX10_fills_135 ka0 rfl rfl hb64 ?_
                  refine r_iload hC dX10_fills_138 6 rfl ?_
                  refine r_iload_n hC dX10_fills_140 0 rfl ?_
                  refine x_iastore hC hk64 hn64 (by decide) rfl rfl dX10_fills_141 (by omega) (by omega) (fun I65 eI65 => ?_)
                  have hs65 := hs3.put0 eI65 hk64 (rng_arr (by decide) _) rfl (xF_arr (by decide) _) (by decide)
                  have hF65 := hF3.put eI65 hk64 (inS_arr rfl _)
                  obtain ⟨x66_, e66⟩ : ∃ z : Int32, z = x3_4 + Int32.ofInt (1) := ⟨_, rfl⟩
                  refine r_iinc hC (j := 6) (v := x66_) (lv' := [(4, .int x66_), (3, .int x63_), (6, .int x59_), (5, .int x57_), (0, .ref a0), (1, .int x1), (2, .int x2)]) dX10_fills_142 rfl (by rw [e66]) (by decide) rfl ?_
                  try have t66 : x66_.toInt = x3_4.toInt + (1) := by rw [e66]; exact (ti_add (b := Int32.ofInt (1)) (by show _ ≤ _ + (1 : Int); omega) (by show _ + (1 : Int) ≤ _; omega))
                  refine r_goto hC (tgt := 11) dX10_fills_145 (by decide) ?_
                  refine r_sub [4, 5, 6, 1, 0] rfl ?_
                  exact ih3 ((60 - x66_.toInt).toNat) (by omega) x66_ x63_ I65 hs65 hF65 (by omega) (by omega) rfl
                · refine r_iload_n hC dX10_fills_122 5 rfl ?_
                  refine r_iload hC dX10_fills_123 0 rfl ?_
                  refine r_iadd hC dX10_fills_125 (fun x67_ e67 => ?_)
                  try have t67 : x67_.toInt = x3_3.toInt + x59_.toInt := by rw [e67]; exact ti_add (by omega) (by omega)
                  refine r_goto hC (tgt := 133) dX10_fills_126 (by decide) ?_
                  refine r_istore_n hC (lv' := [(3, .int x67_), (6, .int x59_), (5, .int x57_), (0, .ref a0), (1, .int x1), (2, .int x2), (4, .int x3_4)]) dX10_fills_133 (by decide) rfl ?_
                  refine r_aload_n hC dX10_fills_134 3 rfl ?_
                  obtain ⟨a68_, hb68, hk68, hn68⟩ := hs3.row ka0 15 85 60 (by decide) (by decide)
                  refine r_getr hC 15 (ci := 10) rfl u10_in (by decide) mT_5_10 dX10_fills_135 ka0 rfl rfl hb68 ?_
                  refine r_iload hC dX10_fills_138 6 rfl ?_
                  refine r_iload_n hC dX10_fills_140 0 rfl ?_
                  refine x_iastore hC hk68 hn68 (by decide) rfl rfl dX10_fills_141 (by omega) (by omega) (fun I69 eI69 => ?_)
                  have hs69 := hs3.put0 eI69 hk68 (rng_arr (by decide) _) rfl (xF_arr (by decide) _) (by decide)
                  have hF69 := hF3.put eI69 hk68 (inS_arr rfl _)
                  obtain ⟨x70_, e70⟩ : ∃ z : Int32, z = x3_4 + Int32.ofInt (1) := ⟨_, rfl⟩
                  refine r_iinc hC (j := 6) (v := x70_) (lv' := [(4, .int x70_), (3, .int x67_), (6, .int x59_), (5, .int x57_), (0, .ref a0), (1, .int x1), (2, .int x2)]) dX10_fills_142 rfl (by rw [e70]) (by decide) rfl ?_
                  try have t70 : x70_.toInt = x3_4.toInt + (1) := by rw [e70]; exact (ti_add (b := Int32.ofInt (1)) (by show _ ≤ _ + (1 : Int); omega) (by show _ + (1 : Int) ≤ _; omega))
                  refine r_goto hC (tgt := 11) dX10_fills_145 (by decide) ?_
                  refine r_sub [4, 5, 6, 1, 0] rfl ?_
                  exact ih3 ((60 - x70_.toInt).toNat) (by omega) x70_ x67_ I69 hs69 hF69 (by omega) (by omega) rfl
              · refine r_aload_n hC dX10_fills_102 2 rfl ?_
                refine r_getr hC 3 (ci := 10) rfl u10_in (by decide) mT_4_238 dX10_fills_103 ka0 rfl rfl hbm ?_
                refine r_getiN hC 1 (ci := 9) rfl u9_in (by decide) nF_1 dX10_fills_106 khm rfl rfl (fun x71_ e71 => ?_)
                have w71 : x71_ = x60_ := by rw [e71]; exact e60.symm
                have wt71 : x71_.toInt = x60_.toInt := by rw [w71]
                refine r_goto hC (tgt := 114) dX10_fills_109 (by decide) ?_
                refine r_istore hC (lv' := [(6, .int x71_), (5, .int x57_), (0, .ref a0), (1, .int x1), (2, .int x2), (3, .int x3_3), (4, .int x3_4)]) dX10_fills_114 (by decide) rfl ?_
                refine r_iload hC dX10_fills_116 1 rfl ?_
                refine r_iload_n hC dX10_fills_118 5 rfl ?_
                refine r_icmp_le hC (tgt := 129) dX10_fills_119 (by decide) (fun c72 => ?_) (fun c72 => ?_)
                · refine r_iload_n hC dX10_fills_129 5 rfl ?_
                  refine r_iload hC dX10_fills_130 0 rfl ?_
                  refine r_isub hC dX10_fills_132 (fun x73_ e73 => ?_)
                  try have t73 : x73_.toInt = x3_3.toInt - x71_.toInt := by rw [e73]; exact ti_sub (by omega) (by omega)
                  refine r_istore_n hC (lv' := [(3, .int x73_), (6, .int x71_), (5, .int x57_), (0, .ref a0), (1, .int x1), (2, .int x2), (4, .int x3_4)]) dX10_fills_133 (by decide) rfl ?_
                  refine r_aload_n hC dX10_fills_134 3 rfl ?_
                  obtain ⟨a74_, hb74, hk74, hn74⟩ := hs3.row ka0 15 85 60 (by decide) (by decide)
                  refine r_getr hC 15 (ci := 10) rfl u10_in (by decide) mT_5_10 dX10_fills_135 ka0 rfl rfl hb74 ?_
                  refine r_iload hC dX10_fills_138 6 rfl ?_
                  refine r_iload_n hC dX10_fills_140 0 rfl ?_
                  refine x_iastore hC hk74 hn74 (by decide) rfl rfl dX10_fills_141 (by omega) (by omega) (fun I75 eI75 => ?_)
                  have hs75 := hs3.put0 eI75 hk74 (rng_arr (by decide) _) rfl (xF_arr (by decide) _) (by decide)
                  have hF75 := hF3.put eI75 hk74 (inS_arr rfl _)
                  obtain ⟨x76_, e76⟩ : ∃ z : Int32, z = x3_4 + Int32.ofInt (1) := ⟨_, rfl⟩
                  refine r_iinc hC (j := 6) (v := x76_) (lv' := [(4, .int x76_), (3, .int x73_), (6, .int x71_), (5, .int x57_), (0, .ref a0), (1, .int x1), (2, .int x2)]) dX10_fills_142 rfl (by rw [e76]) (by decide) rfl ?_
                  try have t76 : x76_.toInt = x3_4.toInt + (1) := by rw [e76]; exact (ti_add (b := Int32.ofInt (1)) (by show _ ≤ _ + (1 : Int); omega) (by show _ + (1 : Int) ≤ _; omega))
                  refine r_goto hC (tgt := 11) dX10_fills_145 (by decide) ?_
                  refine r_sub [4, 5, 6, 1, 0] rfl ?_
                  exact ih3 ((60 - x76_.toInt).toNat) (by omega) x76_ x73_ I75 hs75 hF75 (by omega) (by omega) rfl
                · refine r_iload_n hC dX10_fills_122 5 rfl ?_
                  refine r_iload hC dX10_fills_123 0 rfl ?_
                  refine r_iadd hC dX10_fills_125 (fun x77_ e77 => ?_)
                  try have t77 : x77_.toInt = x3_3.toInt + x71_.toInt := by rw [e77]; exact ti_add (by omega) (by omega)
                  refine r_goto hC (tgt := 133) dX10_fills_126 (by decide) ?_
                  refine r_istore_n hC (lv' := [(3, .int x77_), (6, .int x71_), (5, .int x57_), (0, .ref a0), (1, .int x1), (2, .int x2), (4, .int x3_4)]) dX10_fills_133 (by decide) rfl ?_
                  refine r_aload_n hC dX10_fills_134 3 rfl ?_
                  obtain ⟨a78_, hb78, hk78, hn78⟩ := hs3.row ka0 15 85 60 (by decide) (by decide)
                  refine r_getr hC 15 (ci := 10) rfl u10_in (by decide) mT_5_10 dX10_fills_135 ka0 rfl rfl hb78 ?_
                  refine r_iload hC dX10_fills_138 6 rfl ?_
                  refine r_iload_n hC dX10_fills_140 0 rfl ?_
                  refine x_iastore hC hk78 hn78 (by decide) rfl rfl dX10_fills_141 (by omega) (by omega) (fun I79 eI79 => ?_)
                  have hs79 := hs3.put0 eI79 hk78 (rng_arr (by decide) _) rfl (xF_arr (by decide) _) (by decide)
                  have hF79 := hF3.put eI79 hk78 (inS_arr rfl _)
                  obtain ⟨x80_, e80⟩ : ∃ z : Int32, z = x3_4 + Int32.ofInt (1) := ⟨_, rfl⟩
                  refine r_iinc hC (j := 6) (v := x80_) (lv' := [(4, .int x80_), (3, .int x77_), (6, .int x71_), (5, .int x57_), (0, .ref a0), (1, .int x1), (2, .int x2)]) dX10_fills_142 rfl (by rw [e80]) (by decide) rfl ?_
                  try have t80 : x80_.toInt = x3_4.toInt + (1) := by rw [e80]; exact (ti_add (b := Int32.ofInt (1)) (by show _ ≤ _ + (1 : Int); omega) (by show _ + (1 : Int) ≤ _; omega))
                  refine r_goto hC (tgt := 11) dX10_fills_145 (by decide) ?_
                  refine r_sub [4, 5, 6, 1, 0] rfl ?_
                  exact ih3 ((60 - x80_.toInt).toNat) (by omega) x80_ x77_ I79 hs79 hF79 (by omega) (by omega) rfl
            · refine r_iload hC dX10_fills_77 0 rfl ?_
              refine r_iload_n hC dX10_fills_79 4 rfl ?_
              refine r_isub hC dX10_fills_80 (fun x81_ e81 => ?_)
              try have t81 : x81_.toInt = x57_.toInt - x3_3.toInt := by rw [e81]; exact ti_sub (by omega) (by omega)
              refine r_goto hC (tgt := 88) dX10_fills_81 (by decide) ?_
              refine r_istore hC (lv' := [(6, .int x81_), (5, .int x57_), (0, .ref a0), (1, .int x1), (2, .int x2), (3, .int x3_3), (4, .int x3_4)]) dX10_fills_88 (by decide) rfl ?_
              refine r_iload hC dX10_fills_90 0 rfl ?_
              refine r_aload_n hC dX10_fills_92 2 rfl ?_
              refine r_getr hC 3 (ci := 10) rfl u10_in (by decide) mT_4_238 dX10_fills_93 ka0 rfl rfl hbm ?_
              refine r_getiN hC 1 (ci := 9) rfl u9_in (by decide) nF_1 dX10_fills_96 khm rfl rfl (fun x82_ e82 => ?_)
              refine r_icmp_le hC (tgt := 112) dX10_fills_99 (by decide) (fun c83 => ?_) (fun c83 => ?_)
              · refine r_iload hC dX10_fills_112 0 rfl ?_
                refine r_istore hC (lv' := [(6, .int x81_), (5, .int x57_), (0, .ref a0), (1, .int x1), (2, .int x2), (3, .int x3_3), (4, .int x3_4)]) dX10_fills_114 (by decide) rfl ?_
                refine r_iload hC dX10_fills_116 1 rfl ?_
                refine r_iload_n hC dX10_fills_118 5 rfl ?_
                refine r_icmp_le hC (tgt := 129) dX10_fills_119 (by decide) (fun c84 => ?_) (fun c84 => ?_)
                · refine r_iload_n hC dX10_fills_129 5 rfl ?_
                  refine r_iload hC dX10_fills_130 0 rfl ?_
                  refine r_isub hC dX10_fills_132 (fun x85_ e85 => ?_)
                  try have t85 : x85_.toInt = x3_3.toInt - x81_.toInt := by rw [e85]; exact ti_sub (by omega) (by omega)
                  refine r_istore_n hC (lv' := [(3, .int x85_), (6, .int x81_), (5, .int x57_), (0, .ref a0), (1, .int x1), (2, .int x2), (4, .int x3_4)]) dX10_fills_133 (by decide) rfl ?_
                  refine r_aload_n hC dX10_fills_134 3 rfl ?_
                  obtain ⟨a86_, hb86, hk86, hn86⟩ := hs3.row ka0 15 85 60 (by decide) (by decide)
                  refine r_getr hC 15 (ci := 10) rfl u10_in (by decide) mT_5_10 dX10_fills_135 ka0 rfl rfl hb86 ?_
                  refine r_iload hC dX10_fills_138 6 rfl ?_
                  refine r_iload_n hC dX10_fills_140 0 rfl ?_
                  refine x_iastore hC hk86 hn86 (by decide) rfl rfl dX10_fills_141 (by omega) (by omega) (fun I87 eI87 => ?_)
                  have hs87 := hs3.put0 eI87 hk86 (rng_arr (by decide) _) rfl (xF_arr (by decide) _) (by decide)
                  have hF87 := hF3.put eI87 hk86 (inS_arr rfl _)
                  obtain ⟨x88_, e88⟩ : ∃ z : Int32, z = x3_4 + Int32.ofInt (1) := ⟨_, rfl⟩
                  refine r_iinc hC (j := 6) (v := x88_) (lv' := [(4, .int x88_), (3, .int x85_), (6, .int x81_), (5, .int x57_), (0, .ref a0), (1, .int x1), (2, .int x2)]) dX10_fills_142 rfl (by rw [e88]) (by decide) rfl ?_
                  try have t88 : x88_.toInt = x3_4.toInt + (1) := by rw [e88]; exact (ti_add (b := Int32.ofInt (1)) (by show _ ≤ _ + (1 : Int); omega) (by show _ + (1 : Int) ≤ _; omega))
                  refine r_goto hC (tgt := 11) dX10_fills_145 (by decide) ?_
                  refine r_sub [4, 5, 6, 1, 0] rfl ?_
                  exact ih3 ((60 - x88_.toInt).toNat) (by omega) x88_ x85_ I87 hs87 hF87 (by omega) (by omega) rfl
                · refine r_iload_n hC dX10_fills_122 5 rfl ?_
                  refine r_iload hC dX10_fills_123 0 rfl ?_
                  refine r_iadd hC dX10_fills_125 (fun x89_ e89 => ?_)
                  try have t89 : x89_.toInt = x3_3.toInt + x81_.toInt := by rw [e89]; exact ti_add (by omega) (by omega)
                  refine r_goto hC (tgt := 133) dX10_fills_126 (by decide) ?_
                  refine r_istore_n hC (lv' := [(3, .int x89_), (6, .int x81_), (5, .int x57_), (0, .ref a0), (1, .int x1), (2, .int x2), (4, .int x3_4)]) dX10_fills_133 (by decide) rfl ?_
                  refine r_aload_n hC dX10_fills_134 3 rfl ?_
                  obtain ⟨a90_, hb90, hk90, hn90⟩ := hs3.row ka0 15 85 60 (by decide) (by decide)
                  refine r_getr hC 15 (ci := 10) rfl u10_in (by decide) mT_5_10 dX10_fills_135 ka0 rfl rfl hb90 ?_
                  refine r_iload hC dX10_fills_138 6 rfl ?_
                  refine r_iload_n hC dX10_fills_140 0 rfl ?_
                  refine x_iastore hC hk90 hn90 (by decide) rfl rfl dX10_fills_141 (by omega) (by omega) (fun I91 eI91 => ?_)
                  have hs91 := hs3.put0 eI91 hk90 (rng_arr (by decide) _) rfl (xF_arr (by decide) _) (by decide)
                  have hF91 := hF3.put eI91 hk90 (inS_arr rfl _)
                  obtain ⟨x92_, e92⟩ : ∃ z : Int32, z = x3_4 + Int32.ofInt (1) := ⟨_, rfl⟩
                  refine r_iinc hC (j := 6) (v := x92_) (lv' := [(4, .int x92_), (3, .int x89_), (6, .int x81_), (5, .int x57_), (0, .ref a0), (1, .int x1), (2, .int x2)]) dX10_fills_142 rfl (by rw [e92]) (by decide) rfl ?_
                  try have t92 : x92_.toInt = x3_4.toInt + (1) := by rw [e92]; exact (ti_add (b := Int32.ofInt (1)) (by show _ ≤ _ + (1 : Int); omega) (by show _ + (1 : Int) ≤ _; omega))
                  refine r_goto hC (tgt := 11) dX10_fills_145 (by decide) ?_
                  refine r_sub [4, 5, 6, 1, 0] rfl ?_
                  exact ih3 ((60 - x92_.toInt).toNat) (by omega) x92_ x89_ I91 hs91 hF91 (by omega) (by omega) rfl
              · refine r_aload_n hC dX10_fills_102 2 rfl ?_
                refine r_getr hC 3 (ci := 10) rfl u10_in (by decide) mT_4_238 dX10_fills_103 ka0 rfl rfl hbm ?_
                refine r_getiN hC 1 (ci := 9) rfl u9_in (by decide) nF_1 dX10_fills_106 khm rfl rfl (fun x93_ e93 => ?_)
                have w93 : x93_ = x82_ := by rw [e93]; exact e82.symm
                have wt93 : x93_.toInt = x82_.toInt := by rw [w93]
                refine r_goto hC (tgt := 114) dX10_fills_109 (by decide) ?_
                refine r_istore hC (lv' := [(6, .int x93_), (5, .int x57_), (0, .ref a0), (1, .int x1), (2, .int x2), (3, .int x3_3), (4, .int x3_4)]) dX10_fills_114 (by decide) rfl ?_
                refine r_iload hC dX10_fills_116 1 rfl ?_
                refine r_iload_n hC dX10_fills_118 5 rfl ?_
                refine r_icmp_le hC (tgt := 129) dX10_fills_119 (by decide) (fun c94 => ?_) (fun c94 => ?_)
                · refine r_iload_n hC dX10_fills_129 5 rfl ?_
                  refine r_iload hC dX10_fills_130 0 rfl ?_
                  refine r_isub hC dX10_fills_132 (fun x95_ e95 => ?_)
                  try have t95 : x95_.toInt = x3_3.toInt - x93_.toInt := by rw [e95]; exact ti_sub (by omega) (by omega)
                  refine r_istore_n hC (lv' := [(3, .int x95_), (6, .int x93_), (5, .int x57_), (0, .ref a0), (1, .int x1), (2, .int x2), (4, .int x3_4)]) dX10_fills_133 (by decide) rfl ?_
                  refine r_aload_n hC dX10_fills_134 3 rfl ?_
                  obtain ⟨a96_, hb96, hk96, hn96⟩ := hs3.row ka0 15 85 60 (by decide) (by decide)
                  refine r_getr hC 15 (ci := 10) rfl u10_in (by decide) mT_5_10 dX10_fills_135 ka0 rfl rfl hb96 ?_
                  refine r_iload hC dX10_fills_138 6 rfl ?_
                  refine r_iload_n hC dX10_fills_140 0 rfl ?_
                  refine x_iastore hC hk96 hn96 (by decide) rfl rfl dX10_fills_141 (by omega) (by omega) (fun I97 eI97 => ?_)
                  have hs97 := hs3.put0 eI97 hk96 (rng_arr (by decide) _) rfl (xF_arr (by decide) _) (by decide)
                  have hF97 := hF3.put eI97 hk96 (inS_arr rfl _)
                  obtain ⟨x98_, e98⟩ : ∃ z : Int32, z = x3_4 + Int32.ofInt (1) := ⟨_, rfl⟩
                  refine r_iinc hC (j := 6) (v := x98_) (lv' := [(4, .int x98_), (3, .int x95_), (6, .int x93_), (5, .int x57_), (0, .ref a0), (1, .int x1), (2, .int x2)]) dX10_fills_142 rfl (by rw [e98]) (by decide) rfl ?_
                  try have t98 : x98_.toInt = x3_4.toInt + (1) := by rw [e98]; exact (ti_add (b := Int32.ofInt (1)) (by show _ ≤ _ + (1 : Int); omega) (by show _ + (1 : Int) ≤ _; omega))
                  refine r_goto hC (tgt := 11) dX10_fills_145 (by decide) ?_
                  refine r_sub [4, 5, 6, 1, 0] rfl ?_
                  exact ih3 ((60 - x98_.toInt).toNat) (by omega) x98_ x95_ I97 hs97 hF97 (by omega) (by omega) rfl
                · refine r_iload_n hC dX10_fills_122 5 rfl ?_
                  refine r_iload hC dX10_fills_123 0 rfl ?_
                  refine r_iadd hC dX10_fills_125 (fun x99_ e99 => ?_)
                  try have t99 : x99_.toInt = x3_3.toInt + x93_.toInt := by rw [e99]; exact ti_add (by omega) (by omega)
                  refine r_goto hC (tgt := 133) dX10_fills_126 (by decide) ?_
                  refine r_istore_n hC (lv' := [(3, .int x99_), (6, .int x93_), (5, .int x57_), (0, .ref a0), (1, .int x1), (2, .int x2), (4, .int x3_4)]) dX10_fills_133 (by decide) rfl ?_
                  refine r_aload_n hC dX10_fills_134 3 rfl ?_
                  obtain ⟨a100_, hb100, hk100, hn100⟩ := hs3.row ka0 15 85 60 (by decide) (by decide)
                  refine r_getr hC 15 (ci := 10) rfl u10_in (by decide) mT_5_10 dX10_fills_135 ka0 rfl rfl hb100 ?_
                  refine r_iload hC dX10_fills_138 6 rfl ?_
                  refine r_iload_n hC dX10_fills_140 0 rfl ?_
                  refine x_iastore hC hk100 hn100 (by decide) rfl rfl dX10_fills_141 (by omega) (by omega) (fun I101 eI101 => ?_)
                  have hs101 := hs3.put0 eI101 hk100 (rng_arr (by decide) _) rfl (xF_arr (by decide) _) (by decide)
                  have hF101 := hF3.put eI101 hk100 (inS_arr rfl _)
                  obtain ⟨x102_, e102⟩ : ∃ z : Int32, z = x3_4 + Int32.ofInt (1) := ⟨_, rfl⟩
                  refine r_iinc hC (j := 6) (v := x102_) (lv' := [(4, .int x102_), (3, .int x99_), (6, .int x93_), (5, .int x57_), (0, .ref a0), (1, .int x1), (2, .int x2)]) dX10_fills_142 rfl (by rw [e102]) (by decide) rfl ?_
                  try have t102 : x102_.toInt = x3_4.toInt + (1) := by rw [e102]; exact (ti_add (b := Int32.ofInt (1)) (by show _ ≤ _ + (1 : Int); omega) (by show _ + (1 : Int) ≤ _; omega))
                  refine r_goto hC (tgt := 11) dX10_fills_145 (by decide) ?_
                  refine r_sub [4, 5, 6, 1, 0] rfl ?_
                  exact ih3 ((60 - x102_.toInt).toNat) (by omega) x102_ x99_ I101 hs101 hF101 (by omega) (by omega) rfl
        · refine r_iload_n hC dX10_fills_33 2 rfl ?_
          refine r_goto hC (tgt := 43) dX10_fills_34 (by decide) ?_
          refine r_istore hC (lv' := [(5, .int x2), (0, .ref a0), (1, .int x1), (2, .int x2), (3, .int x3_3), (4, .int x3_4)]) dX10_fills_43 (by decide) rfl ?_
          refine r_iload hC dX10_fills_45 0 rfl ?_
          refine r_aload_n hC dX10_fills_47 1 rfl ?_
          refine r_getr hC 3 (ci := 10) rfl u10_in (by decide) mT_4_238 dX10_fills_48 ka0 rfl rfl hbm ?_
          refine r_getiN hC 2 (ci := 9) rfl u9_in (by decide) nF_2 dX10_fills_51 khm rfl rfl (fun x103_ e103 => ?_)
          refine r_icmp_le hC (tgt := 67) dX10_fills_54 (by decide) (fun c104 => ?_) (fun c104 => ?_)
          · refine r_iload hC dX10_fills_67 0 rfl ?_
            refine r_istore hC (lv' := [(5, .int x2), (0, .ref a0), (1, .int x1), (2, .int x2), (3, .int x3_3), (4, .int x3_4)]) dX10_fills_69 (by decide) rfl ?_
            refine r_iload hC dX10_fills_71 0 rfl ?_
            refine r_iload_n hC dX10_fills_73 4 rfl ?_
            refine r_icmp_le hC (tgt := 84) dX10_fills_74 (by decide) (fun c105 => ?_) (fun c105 => ?_)
            · refine r_iload_n hC dX10_fills_84 4 rfl ?_
              refine r_iload hC dX10_fills_85 0 rfl ?_
              refine r_isub hC dX10_fills_87 (fun x106_ e106 => ?_)
              try have t106 : x106_.toInt = x3_3.toInt - x2.toInt := by rw [e106]; exact ti_sub (by omega) (by omega)
              refine r_istore hC (lv' := [(6, .int x106_), (5, .int x2), (0, .ref a0), (1, .int x1), (2, .int x2), (3, .int x3_3), (4, .int x3_4)]) dX10_fills_88 (by decide) rfl ?_
              refine r_iload hC dX10_fills_90 0 rfl ?_
              refine r_aload_n hC dX10_fills_92 2 rfl ?_
              refine r_getr hC 3 (ci := 10) rfl u10_in (by decide) mT_4_238 dX10_fills_93 ka0 rfl rfl hbm ?_
              refine r_getiN hC 1 (ci := 9) rfl u9_in (by decide) nF_1 dX10_fills_96 khm rfl rfl (fun x107_ e107 => ?_)
              refine r_icmp_le hC (tgt := 112) dX10_fills_99 (by decide) (fun c108 => ?_) (fun c108 => ?_)
              · refine r_iload hC dX10_fills_112 0 rfl ?_
                refine r_istore hC (lv' := [(6, .int x106_), (5, .int x2), (0, .ref a0), (1, .int x1), (2, .int x2), (3, .int x3_3), (4, .int x3_4)]) dX10_fills_114 (by decide) rfl ?_
                refine r_iload hC dX10_fills_116 1 rfl ?_
                refine r_iload_n hC dX10_fills_118 5 rfl ?_
                refine r_icmp_le hC (tgt := 129) dX10_fills_119 (by decide) (fun c109 => ?_) (fun c109 => ?_)
                · refine r_iload_n hC dX10_fills_129 5 rfl ?_
                  refine r_iload hC dX10_fills_130 0 rfl ?_
                  refine r_isub hC dX10_fills_132 (fun x110_ e110 => ?_)
                  try have t110 : x110_.toInt = x3_3.toInt - x106_.toInt := by rw [e110]; exact ti_sub (by omega) (by omega)
                  refine r_istore_n hC (lv' := [(3, .int x110_), (6, .int x106_), (5, .int x2), (0, .ref a0), (1, .int x1), (2, .int x2), (4, .int x3_4)]) dX10_fills_133 (by decide) rfl ?_
                  refine r_aload_n hC dX10_fills_134 3 rfl ?_
                  obtain ⟨a111_, hb111, hk111, hn111⟩ := hs3.row ka0 15 85 60 (by decide) (by decide)
                  refine r_getr hC 15 (ci := 10) rfl u10_in (by decide) mT_5_10 dX10_fills_135 ka0 rfl rfl hb111 ?_
                  refine r_iload hC dX10_fills_138 6 rfl ?_
                  refine r_iload_n hC dX10_fills_140 0 rfl ?_
                  refine x_iastore hC hk111 hn111 (by decide) rfl rfl dX10_fills_141 (by omega) (by omega) (fun I112 eI112 => ?_)
                  have hs112 := hs3.put0 eI112 hk111 (rng_arr (by decide) _) rfl (xF_arr (by decide) _) (by decide)
                  have hF112 := hF3.put eI112 hk111 (inS_arr rfl _)
                  obtain ⟨x113_, e113⟩ : ∃ z : Int32, z = x3_4 + Int32.ofInt (1) := ⟨_, rfl⟩
                  refine r_iinc hC (j := 6) (v := x113_) (lv' := [(4, .int x113_), (3, .int x110_), (6, .int x106_), (5, .int x2), (0, .ref a0), (1, .int x1), (2, .int x2)]) dX10_fills_142 rfl (by rw [e113]) (by decide) rfl ?_
                  try have t113 : x113_.toInt = x3_4.toInt + (1) := by rw [e113]; exact (ti_add (b := Int32.ofInt (1)) (by show _ ≤ _ + (1 : Int); omega) (by show _ + (1 : Int) ≤ _; omega))
                  refine r_goto hC (tgt := 11) dX10_fills_145 (by decide) ?_
                  refine r_sub [4, 5, 6, 1, 0] rfl ?_
                  exact ih3 ((60 - x113_.toInt).toNat) (by omega) x113_ x110_ I112 hs112 hF112 (by omega) (by omega) rfl
                · refine r_iload_n hC dX10_fills_122 5 rfl ?_
                  refine r_iload hC dX10_fills_123 0 rfl ?_
                  refine r_iadd hC dX10_fills_125 (fun x114_ e114 => ?_)
                  try have t114 : x114_.toInt = x3_3.toInt + x106_.toInt := by rw [e114]; exact ti_add (by omega) (by omega)
                  refine r_goto hC (tgt := 133) dX10_fills_126 (by decide) ?_
                  refine r_istore_n hC (lv' := [(3, .int x114_), (6, .int x106_), (5, .int x2), (0, .ref a0), (1, .int x1), (2, .int x2), (4, .int x3_4)]) dX10_fills_133 (by decide) rfl ?_
                  refine r_aload_n hC dX10_fills_134 3 rfl ?_
                  obtain ⟨a115_, hb115, hk115, hn115⟩ := hs3.row ka0 15 85 60 (by decide) (by decide)
                  refine r_getr hC 15 (ci := 10) rfl u10_in (by decide) mT_5_10 dX10_fills_135 ka0 rfl rfl hb115 ?_
                  refine r_iload hC dX10_fills_138 6 rfl ?_
                  refine r_iload_n hC dX10_fills_140 0 rfl ?_
                  refine x_iastore hC hk115 hn115 (by decide) rfl rfl dX10_fills_141 (by omega) (by omega) (fun I116 eI116 => ?_)
                  have hs116 := hs3.put0 eI116 hk115 (rng_arr (by decide) _) rfl (xF_arr (by decide) _) (by decide)
                  have hF116 := hF3.put eI116 hk115 (inS_arr rfl _)
                  obtain ⟨x117_, e117⟩ : ∃ z : Int32, z = x3_4 + Int32.ofInt (1) := ⟨_, rfl⟩
                  refine r_iinc hC (j := 6) (v := x117_) (lv' := [(4, .int x117_), (3, .int x114_), (6, .int x106_), (5, .int x2), (0, .ref a0), (1, .int x1), (2, .int x2)]) dX10_fills_142 rfl (by rw [e117]) (by decide) rfl ?_
                  try have t117 : x117_.toInt = x3_4.toInt + (1) := by rw [e117]; exact (ti_add (b := Int32.ofInt (1)) (by show _ ≤ _ + (1 : Int); omega) (by show _ + (1 : Int) ≤ _; omega))
                  refine r_goto hC (tgt := 11) dX10_fills_145 (by decide) ?_
                  refine r_sub [4, 5, 6, 1, 0] rfl ?_
                  exact ih3 ((60 - x117_.toInt).toNat) (by omega) x117_ x114_ I116 hs116 hF116 (by omega) (by omega) rfl
              · refine r_aload_n hC dX10_fills_102 2 rfl ?_
                refine r_getr hC 3 (ci := 10) rfl u10_in (by decide) mT_4_238 dX10_fills_103 ka0 rfl rfl hbm ?_
                refine r_getiN hC 1 (ci := 9) rfl u9_in (by decide) nF_1 dX10_fills_106 khm rfl rfl (fun x118_ e118 => ?_)
                have w118 : x118_ = x107_ := by rw [e118]; exact e107.symm
                have wt118 : x118_.toInt = x107_.toInt := by rw [w118]
                refine r_goto hC (tgt := 114) dX10_fills_109 (by decide) ?_
                refine r_istore hC (lv' := [(6, .int x118_), (5, .int x2), (0, .ref a0), (1, .int x1), (2, .int x2), (3, .int x3_3), (4, .int x3_4)]) dX10_fills_114 (by decide) rfl ?_
                refine r_iload hC dX10_fills_116 1 rfl ?_
                refine r_iload_n hC dX10_fills_118 5 rfl ?_
                refine r_icmp_le hC (tgt := 129) dX10_fills_119 (by decide) (fun c119 => ?_) (fun c119 => ?_)
                · refine r_iload_n hC dX10_fills_129 5 rfl ?_
                  refine r_iload hC dX10_fills_130 0 rfl ?_
                  refine r_isub hC dX10_fills_132 (fun x120_ e120 => ?_)
                  try have t120 : x120_.toInt = x3_3.toInt - x118_.toInt := by rw [e120]; exact ti_sub (by omega) (by omega)
                  refine r_istore_n hC (lv' := [(3, .int x120_), (6, .int x118_), (5, .int x2), (0, .ref a0), (1, .int x1), (2, .int x2), (4, .int x3_4)]) dX10_fills_133 (by decide) rfl ?_
                  refine r_aload_n hC dX10_fills_134 3 rfl ?_
                  obtain ⟨a121_, hb121, hk121, hn121⟩ := hs3.row ka0 15 85 60 (by decide) (by decide)
                  refine r_getr hC 15 (ci := 10) rfl u10_in (by decide) mT_5_10 dX10_fills_135 ka0 rfl rfl hb121 ?_
                  refine r_iload hC dX10_fills_138 6 rfl ?_
                  refine r_iload_n hC dX10_fills_140 0 rfl ?_
                  refine x_iastore hC hk121 hn121 (by decide) rfl rfl dX10_fills_141 (by omega) (by omega) (fun I122 eI122 => ?_)
                  have hs122 := hs3.put0 eI122 hk121 (rng_arr (by decide) _) rfl (xF_arr (by decide) _) (by decide)
                  have hF122 := hF3.put eI122 hk121 (inS_arr rfl _)
                  obtain ⟨x123_, e123⟩ : ∃ z : Int32, z = x3_4 + Int32.ofInt (1) := ⟨_, rfl⟩
                  refine r_iinc hC (j := 6) (v := x123_) (lv' := [(4, .int x123_), (3, .int x120_), (6, .int x118_), (5, .int x2), (0, .ref a0), (1, .int x1), (2, .int x2)]) dX10_fills_142 rfl (by rw [e123]) (by decide) rfl ?_
                  try have t123 : x123_.toInt = x3_4.toInt + (1) := by rw [e123]; exact (ti_add (b := Int32.ofInt (1)) (by show _ ≤ _ + (1 : Int); omega) (by show _ + (1 : Int) ≤ _; omega))
                  refine r_goto hC (tgt := 11) dX10_fills_145 (by decide) ?_
                  refine r_sub [4, 5, 6, 1, 0] rfl ?_
                  exact ih3 ((60 - x123_.toInt).toNat) (by omega) x123_ x120_ I122 hs122 hF122 (by omega) (by omega) rfl
                · refine r_iload_n hC dX10_fills_122 5 rfl ?_
                  refine r_iload hC dX10_fills_123 0 rfl ?_
                  refine r_iadd hC dX10_fills_125 (fun x124_ e124 => ?_)
                  try have t124 : x124_.toInt = x3_3.toInt + x118_.toInt := by rw [e124]; exact ti_add (by omega) (by omega)
                  refine r_goto hC (tgt := 133) dX10_fills_126 (by decide) ?_
                  refine r_istore_n hC (lv' := [(3, .int x124_), (6, .int x118_), (5, .int x2), (0, .ref a0), (1, .int x1), (2, .int x2), (4, .int x3_4)]) dX10_fills_133 (by decide) rfl ?_
                  refine r_aload_n hC dX10_fills_134 3 rfl ?_
                  obtain ⟨a125_, hb125, hk125, hn125⟩ := hs3.row ka0 15 85 60 (by decide) (by decide)
                  refine r_getr hC 15 (ci := 10) rfl u10_in (by decide) mT_5_10 dX10_fills_135 ka0 rfl rfl hb125 ?_
                  refine r_iload hC dX10_fills_138 6 rfl ?_
                  refine r_iload_n hC dX10_fills_140 0 rfl ?_
                  refine x_iastore hC hk125 hn125 (by decide) rfl rfl dX10_fills_141 (by omega) (by omega) (fun I126 eI126 => ?_)
                  have hs126 := hs3.put0 eI126 hk125 (rng_arr (by decide) _) rfl (xF_arr (by decide) _) (by decide)
                  have hF126 := hF3.put eI126 hk125 (inS_arr rfl _)
                  obtain ⟨x127_, e127⟩ : ∃ z : Int32, z = x3_4 + Int32.ofInt (1) := ⟨_, rfl⟩
                  refine r_iinc hC (j := 6) (v := x127_) (lv' := [(4, .int x127_), (3, .int x124_), (6, .int x118_), (5, .int x2), (0, .ref a0), (1, .int x1), (2, .int x2)]) dX10_fills_142 rfl (by rw [e127]) (by decide) rfl ?_
                  try have t127 : x127_.toInt = x3_4.toInt + (1) := by rw [e127]; exact (ti_add (b := Int32.ofInt (1)) (by show _ ≤ _ + (1 : Int); omega) (by show _ + (1 : Int) ≤ _; omega))
                  refine r_goto hC (tgt := 11) dX10_fills_145 (by decide) ?_
                  refine r_sub [4, 5, 6, 1, 0] rfl ?_
                  exact ih3 ((60 - x127_.toInt).toNat) (by omega) x127_ x124_ I126 hs126 hF126 (by omega) (by omega) rfl
            · refine r_iload hC dX10_fills_77 0 rfl ?_
              refine r_iload_n hC dX10_fills_79 4 rfl ?_
              refine r_isub hC dX10_fills_80 (fun x128_ e128 => ?_)
              try have t128 : x128_.toInt = x2.toInt - x3_3.toInt := by rw [e128]; exact ti_sub (by omega) (by omega)
              refine r_goto hC (tgt := 88) dX10_fills_81 (by decide) ?_
              refine r_istore hC (lv' := [(6, .int x128_), (5, .int x2), (0, .ref a0), (1, .int x1), (2, .int x2), (3, .int x3_3), (4, .int x3_4)]) dX10_fills_88 (by decide) rfl ?_
              refine r_iload hC dX10_fills_90 0 rfl ?_
              refine r_aload_n hC dX10_fills_92 2 rfl ?_
              refine r_getr hC 3 (ci := 10) rfl u10_in (by decide) mT_4_238 dX10_fills_93 ka0 rfl rfl hbm ?_
              refine r_getiN hC 1 (ci := 9) rfl u9_in (by decide) nF_1 dX10_fills_96 khm rfl rfl (fun x129_ e129 => ?_)
              refine r_icmp_le hC (tgt := 112) dX10_fills_99 (by decide) (fun c130 => ?_) (fun c130 => ?_)
              · refine r_iload hC dX10_fills_112 0 rfl ?_
                refine r_istore hC (lv' := [(6, .int x128_), (5, .int x2), (0, .ref a0), (1, .int x1), (2, .int x2), (3, .int x3_3), (4, .int x3_4)]) dX10_fills_114 (by decide) rfl ?_
                refine r_iload hC dX10_fills_116 1 rfl ?_
                refine r_iload_n hC dX10_fills_118 5 rfl ?_
                refine r_icmp_le hC (tgt := 129) dX10_fills_119 (by decide) (fun c131 => ?_) (fun c131 => ?_)
                · refine r_iload_n hC dX10_fills_129 5 rfl ?_
                  refine r_iload hC dX10_fills_130 0 rfl ?_
                  refine r_isub hC dX10_fills_132 (fun x132_ e132 => ?_)
                  try have t132 : x132_.toInt = x3_3.toInt - x128_.toInt := by rw [e132]; exact ti_sub (by omega) (by omega)
                  refine r_istore_n hC (lv' := [(3, .int x132_), (6, .int x128_), (5, .int x2), (0, .ref a0), (1, .int x1), (2, .int x2), (4, .int x3_4)]) dX10_fills_133 (by decide) rfl ?_
                  refine r_aload_n hC dX10_fills_134 3 rfl ?_
                  obtain ⟨a133_, hb133, hk133, hn133⟩ := hs3.row ka0 15 85 60 (by decide) (by decide)
                  refine r_getr hC 15 (ci := 10) rfl u10_in (by decide) mT_5_10 dX10_fills_135 ka0 rfl rfl hb133 ?_
                  refine r_iload hC dX10_fills_138 6 rfl ?_
                  refine r_iload_n hC dX10_fills_140 0 rfl ?_
                  refine x_iastore hC hk133 hn133 (by decide) rfl rfl dX10_fills_141 (by omega) (by omega) (fun I134 eI134 => ?_)
                  have hs134 := hs3.put0 eI134 hk133 (rng_arr (by decide) _) rfl (xF_arr (by decide) _) (by decide)
                  have hF134 := hF3.put eI134 hk133 (inS_arr rfl _)
                  obtain ⟨x135_, e135⟩ : ∃ z : Int32, z = x3_4 + Int32.ofInt (1) := ⟨_, rfl⟩
                  refine r_iinc hC (j := 6) (v := x135_) (lv' := [(4, .int x135_), (3, .int x132_), (6, .int x128_), (5, .int x2), (0, .ref a0), (1, .int x1), (2, .int x2)]) dX10_fills_142 rfl (by rw [e135]) (by decide) rfl ?_
                  try have t135 : x135_.toInt = x3_4.toInt + (1) := by rw [e135]; exact (ti_add (b := Int32.ofInt (1)) (by show _ ≤ _ + (1 : Int); omega) (by show _ + (1 : Int) ≤ _; omega))
                  refine r_goto hC (tgt := 11) dX10_fills_145 (by decide) ?_
                  refine r_sub [4, 5, 6, 1, 0] rfl ?_
                  exact ih3 ((60 - x135_.toInt).toNat) (by omega) x135_ x132_ I134 hs134 hF134 (by omega) (by omega) rfl
                · refine r_iload_n hC dX10_fills_122 5 rfl ?_
                  refine r_iload hC dX10_fills_123 0 rfl ?_
                  refine r_iadd hC dX10_fills_125 (fun x136_ e136 => ?_)
                  try have t136 : x136_.toInt = x3_3.toInt + x128_.toInt := by rw [e136]; exact ti_add (by omega) (by omega)
                  refine r_goto hC (tgt := 133) dX10_fills_126 (by decide) ?_
                  refine r_istore_n hC (lv' := [(3, .int x136_), (6, .int x128_), (5, .int x2), (0, .ref a0), (1, .int x1), (2, .int x2), (4, .int x3_4)]) dX10_fills_133 (by decide) rfl ?_
                  refine r_aload_n hC dX10_fills_134 3 rfl ?_
                  obtain ⟨a137_, hb137, hk137, hn137⟩ := hs3.row ka0 15 85 60 (by decide) (by decide)
                  refine r_getr hC 15 (ci := 10) rfl u10_in (by decide) mT_5_10 dX10_fills_135 ka0 rfl rfl hb137 ?_
                  refine r_iload hC dX10_fills_138 6 rfl ?_
                  refine r_iload_n hC dX10_fills_140 0 rfl ?_
                  refine x_iastore hC hk137 hn137 (by decide) rfl rfl dX10_fills_141 (by omega) (by omega) (fun I138 eI138 => ?_)
                  have hs138 := hs3.put0 eI138 hk137 (rng_arr (by decide) _) rfl (xF_arr (by decide) _) (by decide)
                  have hF138 := hF3.put eI138 hk137 (inS_arr rfl _)
                  obtain ⟨x139_, e139⟩ : ∃ z : Int32, z = x3_4 + Int32.ofInt (1) := ⟨_, rfl⟩
                  refine r_iinc hC (j := 6) (v := x139_) (lv' := [(4, .int x139_), (3, .int x136_), (6, .int x128_), (5, .int x2), (0, .ref a0), (1, .int x1), (2, .int x2)]) dX10_fills_142 rfl (by rw [e139]) (by decide) rfl ?_
                  try have t139 : x139_.toInt = x3_4.toInt + (1) := by rw [e139]; exact (ti_add (b := Int32.ofInt (1)) (by show _ ≤ _ + (1 : Int); omega) (by show _ + (1 : Int) ≤ _; omega))
                  refine r_goto hC (tgt := 11) dX10_fills_145 (by decide) ?_
                  refine r_sub [4, 5, 6, 1, 0] rfl ?_
                  exact ih3 ((60 - x139_.toInt).toNat) (by omega) x139_ x136_ I138 hs138 hF138 (by omega) (by omega) rfl
              · refine r_aload_n hC dX10_fills_102 2 rfl ?_
                refine r_getr hC 3 (ci := 10) rfl u10_in (by decide) mT_4_238 dX10_fills_103 ka0 rfl rfl hbm ?_
                refine r_getiN hC 1 (ci := 9) rfl u9_in (by decide) nF_1 dX10_fills_106 khm rfl rfl (fun x140_ e140 => ?_)
                have w140 : x140_ = x129_ := by rw [e140]; exact e129.symm
                have wt140 : x140_.toInt = x129_.toInt := by rw [w140]
                refine r_goto hC (tgt := 114) dX10_fills_109 (by decide) ?_
                refine r_istore hC (lv' := [(6, .int x140_), (5, .int x2), (0, .ref a0), (1, .int x1), (2, .int x2), (3, .int x3_3), (4, .int x3_4)]) dX10_fills_114 (by decide) rfl ?_
                refine r_iload hC dX10_fills_116 1 rfl ?_
                refine r_iload_n hC dX10_fills_118 5 rfl ?_
                refine r_icmp_le hC (tgt := 129) dX10_fills_119 (by decide) (fun c141 => ?_) (fun c141 => ?_)
                · refine r_iload_n hC dX10_fills_129 5 rfl ?_
                  refine r_iload hC dX10_fills_130 0 rfl ?_
                  refine r_isub hC dX10_fills_132 (fun x142_ e142 => ?_)
                  try have t142 : x142_.toInt = x3_3.toInt - x140_.toInt := by rw [e142]; exact ti_sub (by omega) (by omega)
                  refine r_istore_n hC (lv' := [(3, .int x142_), (6, .int x140_), (5, .int x2), (0, .ref a0), (1, .int x1), (2, .int x2), (4, .int x3_4)]) dX10_fills_133 (by decide) rfl ?_
                  refine r_aload_n hC dX10_fills_134 3 rfl ?_
                  obtain ⟨a143_, hb143, hk143, hn143⟩ := hs3.row ka0 15 85 60 (by decide) (by decide)
                  refine r_getr hC 15 (ci := 10) rfl u10_in (by decide) mT_5_10 dX10_fills_135 ka0 rfl rfl hb143 ?_
                  refine r_iload hC dX10_fills_138 6 rfl ?_
                  refine r_iload_n hC dX10_fills_140 0 rfl ?_
                  refine x_iastore hC hk143 hn143 (by decide) rfl rfl dX10_fills_141 (by omega) (by omega) (fun I144 eI144 => ?_)
                  have hs144 := hs3.put0 eI144 hk143 (rng_arr (by decide) _) rfl (xF_arr (by decide) _) (by decide)
                  have hF144 := hF3.put eI144 hk143 (inS_arr rfl _)
                  obtain ⟨x145_, e145⟩ : ∃ z : Int32, z = x3_4 + Int32.ofInt (1) := ⟨_, rfl⟩
                  refine r_iinc hC (j := 6) (v := x145_) (lv' := [(4, .int x145_), (3, .int x142_), (6, .int x140_), (5, .int x2), (0, .ref a0), (1, .int x1), (2, .int x2)]) dX10_fills_142 rfl (by rw [e145]) (by decide) rfl ?_
                  try have t145 : x145_.toInt = x3_4.toInt + (1) := by rw [e145]; exact (ti_add (b := Int32.ofInt (1)) (by show _ ≤ _ + (1 : Int); omega) (by show _ + (1 : Int) ≤ _; omega))
                  refine r_goto hC (tgt := 11) dX10_fills_145 (by decide) ?_
                  refine r_sub [4, 5, 6, 1, 0] rfl ?_
                  exact ih3 ((60 - x145_.toInt).toNat) (by omega) x145_ x142_ I144 hs144 hF144 (by omega) (by omega) rfl
                · refine r_iload_n hC dX10_fills_122 5 rfl ?_
                  refine r_iload hC dX10_fills_123 0 rfl ?_
                  refine r_iadd hC dX10_fills_125 (fun x146_ e146 => ?_)
                  try have t146 : x146_.toInt = x3_3.toInt + x140_.toInt := by rw [e146]; exact ti_add (by omega) (by omega)
                  refine r_goto hC (tgt := 133) dX10_fills_126 (by decide) ?_
                  refine r_istore_n hC (lv' := [(3, .int x146_), (6, .int x140_), (5, .int x2), (0, .ref a0), (1, .int x1), (2, .int x2), (4, .int x3_4)]) dX10_fills_133 (by decide) rfl ?_
                  refine r_aload_n hC dX10_fills_134 3 rfl ?_
                  obtain ⟨a147_, hb147, hk147, hn147⟩ := hs3.row ka0 15 85 60 (by decide) (by decide)
                  refine r_getr hC 15 (ci := 10) rfl u10_in (by decide) mT_5_10 dX10_fills_135 ka0 rfl rfl hb147 ?_
                  refine r_iload hC dX10_fills_138 6 rfl ?_
                  refine r_iload_n hC dX10_fills_140 0 rfl ?_
                  refine x_iastore hC hk147 hn147 (by decide) rfl rfl dX10_fills_141 (by omega) (by omega) (fun I148 eI148 => ?_)
                  have hs148 := hs3.put0 eI148 hk147 (rng_arr (by decide) _) rfl (xF_arr (by decide) _) (by decide)
                  have hF148 := hF3.put eI148 hk147 (inS_arr rfl _)
                  obtain ⟨x149_, e149⟩ : ∃ z : Int32, z = x3_4 + Int32.ofInt (1) := ⟨_, rfl⟩
                  refine r_iinc hC (j := 6) (v := x149_) (lv' := [(4, .int x149_), (3, .int x146_), (6, .int x140_), (5, .int x2), (0, .ref a0), (1, .int x1), (2, .int x2)]) dX10_fills_142 rfl (by rw [e149]) (by decide) rfl ?_
                  try have t149 : x149_.toInt = x3_4.toInt + (1) := by rw [e149]; exact (ti_add (b := Int32.ofInt (1)) (by show _ ≤ _ + (1 : Int); omega) (by show _ + (1 : Int) ≤ _; omega))
                  refine r_goto hC (tgt := 11) dX10_fills_145 (by decide) ?_
                  refine r_sub [4, 5, 6, 1, 0] rfl ?_
                  exact ih3 ((60 - x149_.toInt).toNat) (by omega) x149_ x146_ I148 hs148 hF148 (by omega) (by omega) rfl
          · refine r_aload_n hC dX10_fills_57 1 rfl ?_
            refine r_getr hC 3 (ci := 10) rfl u10_in (by decide) mT_4_238 dX10_fills_58 ka0 rfl rfl hbm ?_
            refine r_getiN hC 2 (ci := 9) rfl u9_in (by decide) nF_2 dX10_fills_61 khm rfl rfl (fun x150_ e150 => ?_)
            have w150 : x150_ = x103_ := by rw [e150]; exact e103.symm
            have wt150 : x150_.toInt = x103_.toInt := by rw [w150]
            refine r_goto hC (tgt := 69) dX10_fills_64 (by decide) ?_
            refine r_istore hC (lv' := [(5, .int x150_), (0, .ref a0), (1, .int x1), (2, .int x2), (3, .int x3_3), (4, .int x3_4)]) dX10_fills_69 (by decide) rfl ?_
            refine r_iload hC dX10_fills_71 0 rfl ?_
            refine r_iload_n hC dX10_fills_73 4 rfl ?_
            refine r_icmp_le hC (tgt := 84) dX10_fills_74 (by decide) (fun c151 => ?_) (fun c151 => ?_)
            · refine r_iload_n hC dX10_fills_84 4 rfl ?_
              refine r_iload hC dX10_fills_85 0 rfl ?_
              refine r_isub hC dX10_fills_87 (fun x152_ e152 => ?_)
              try have t152 : x152_.toInt = x3_3.toInt - x150_.toInt := by rw [e152]; exact ti_sub (by omega) (by omega)
              refine r_istore hC (lv' := [(6, .int x152_), (5, .int x150_), (0, .ref a0), (1, .int x1), (2, .int x2), (3, .int x3_3), (4, .int x3_4)]) dX10_fills_88 (by decide) rfl ?_
              refine r_iload hC dX10_fills_90 0 rfl ?_
              refine r_aload_n hC dX10_fills_92 2 rfl ?_
              refine r_getr hC 3 (ci := 10) rfl u10_in (by decide) mT_4_238 dX10_fills_93 ka0 rfl rfl hbm ?_
              refine r_getiN hC 1 (ci := 9) rfl u9_in (by decide) nF_1 dX10_fills_96 khm rfl rfl (fun x153_ e153 => ?_)
              refine r_icmp_le hC (tgt := 112) dX10_fills_99 (by decide) (fun c154 => ?_) (fun c154 => ?_)
              · refine r_iload hC dX10_fills_112 0 rfl ?_
                refine r_istore hC (lv' := [(6, .int x152_), (5, .int x150_), (0, .ref a0), (1, .int x1), (2, .int x2), (3, .int x3_3), (4, .int x3_4)]) dX10_fills_114 (by decide) rfl ?_
                refine r_iload hC dX10_fills_116 1 rfl ?_
                refine r_iload_n hC dX10_fills_118 5 rfl ?_
                refine r_icmp_le hC (tgt := 129) dX10_fills_119 (by decide) (fun c155 => ?_) (fun c155 => ?_)
                · refine r_iload_n hC dX10_fills_129 5 rfl ?_
                  refine r_iload hC dX10_fills_130 0 rfl ?_
                  refine r_isub hC dX10_fills_132 (fun x156_ e156 => ?_)
                  try have t156 : x156_.toInt = x3_3.toInt - x152_.toInt := by rw [e156]; exact ti_sub (by omega) (by omega)
                  refine r_istore_n hC (lv' := [(3, .int x156_), (6, .int x152_), (5, .int x150_), (0, .ref a0), (1, .int x1), (2, .int x2), (4, .int x3_4)]) dX10_fills_133 (by decide) rfl ?_
                  refine r_aload_n hC dX10_fills_134 3 rfl ?_
                  obtain ⟨a157_, hb157, hk157, hn157⟩ := hs3.row ka0 15 85 60 (by decide) (by decide)
                  refine r_getr hC 15 (ci := 10) rfl u10_in (by decide) mT_5_10 dX10_fills_135 ka0 rfl rfl hb157 ?_
                  refine r_iload hC dX10_fills_138 6 rfl ?_
                  refine r_iload_n hC dX10_fills_140 0 rfl ?_
                  refine x_iastore hC hk157 hn157 (by decide) rfl rfl dX10_fills_141 (by omega) (by omega) (fun I158 eI158 => ?_)
                  have hs158 := hs3.put0 eI158 hk157 (rng_arr (by decide) _) rfl (xF_arr (by decide) _) (by decide)
                  have hF158 := hF3.put eI158 hk157 (inS_arr rfl _)
                  obtain ⟨x159_, e159⟩ : ∃ z : Int32, z = x3_4 + Int32.ofInt (1) := ⟨_, rfl⟩
                  refine r_iinc hC (j := 6) (v := x159_) (lv' := [(4, .int x159_), (3, .int x156_), (6, .int x152_), (5, .int x150_), (0, .ref a0), (1, .int x1), (2, .int x2)]) dX10_fills_142 rfl (by rw [e159]) (by decide) rfl ?_
                  try have t159 : x159_.toInt = x3_4.toInt + (1) := by rw [e159]; exact (ti_add (b := Int32.ofInt (1)) (by show _ ≤ _ + (1 : Int); omega) (by show _ + (1 : Int) ≤ _; omega))
                  refine r_goto hC (tgt := 11) dX10_fills_145 (by decide) ?_
                  refine r_sub [4, 5, 6, 1, 0] rfl ?_
                  exact ih3 ((60 - x159_.toInt).toNat) (by omega) x159_ x156_ I158 hs158 hF158 (by omega) (by omega) rfl
                · refine r_iload_n hC dX10_fills_122 5 rfl ?_
                  refine r_iload hC dX10_fills_123 0 rfl ?_
                  refine r_iadd hC dX10_fills_125 (fun x160_ e160 => ?_)
                  try have t160 : x160_.toInt = x3_3.toInt + x152_.toInt := by rw [e160]; exact ti_add (by omega) (by omega)
                  refine r_goto hC (tgt := 133) dX10_fills_126 (by decide) ?_
                  refine r_istore_n hC (lv' := [(3, .int x160_), (6, .int x152_), (5, .int x150_), (0, .ref a0), (1, .int x1), (2, .int x2), (4, .int x3_4)]) dX10_fills_133 (by decide) rfl ?_
                  refine r_aload_n hC dX10_fills_134 3 rfl ?_
                  obtain ⟨a161_, hb161, hk161, hn161⟩ := hs3.row ka0 15 85 60 (by decide) (by decide)
                  refine r_getr hC 15 (ci := 10) rfl u10_in (by decide) mT_5_10 dX10_fills_135 ka0 rfl rfl hb161 ?_
                  refine r_iload hC dX10_fills_138 6 rfl ?_
                  refine r_iload_n hC dX10_fills_140 0 rfl ?_
                  refine x_iastore hC hk161 hn161 (by decide) rfl rfl dX10_fills_141 (by omega) (by omega) (fun I162 eI162 => ?_)
                  have hs162 := hs3.put0 eI162 hk161 (rng_arr (by decide) _) rfl (xF_arr (by decide) _) (by decide)
                  have hF162 := hF3.put eI162 hk161 (inS_arr rfl _)
                  obtain ⟨x163_, e163⟩ : ∃ z : Int32, z = x3_4 + Int32.ofInt (1) := ⟨_, rfl⟩
                  refine r_iinc hC (j := 6) (v := x163_) (lv' := [(4, .int x163_), (3, .int x160_), (6, .int x152_), (5, .int x150_), (0, .ref a0), (1, .int x1), (2, .int x2)]) dX10_fills_142 rfl (by rw [e163]) (by decide) rfl ?_
                  try have t163 : x163_.toInt = x3_4.toInt + (1) := by rw [e163]; exact (ti_add (b := Int32.ofInt (1)) (by show _ ≤ _ + (1 : Int); omega) (by show _ + (1 : Int) ≤ _; omega))
                  refine r_goto hC (tgt := 11) dX10_fills_145 (by decide) ?_
                  refine r_sub [4, 5, 6, 1, 0] rfl ?_
                  exact ih3 ((60 - x163_.toInt).toNat) (by omega) x163_ x160_ I162 hs162 hF162 (by omega) (by omega) rfl
              · refine r_aload_n hC dX10_fills_102 2 rfl ?_
                refine r_getr hC 3 (ci := 10) rfl u10_in (by decide) mT_4_238 dX10_fills_103 ka0 rfl rfl hbm ?_
                refine r_getiN hC 1 (ci := 9) rfl u9_in (by decide) nF_1 dX10_fills_106 khm rfl rfl (fun x164_ e164 => ?_)
                have w164 : x164_ = x153_ := by rw [e164]; exact e153.symm
                have wt164 : x164_.toInt = x153_.toInt := by rw [w164]
                refine r_goto hC (tgt := 114) dX10_fills_109 (by decide) ?_
                refine r_istore hC (lv' := [(6, .int x164_), (5, .int x150_), (0, .ref a0), (1, .int x1), (2, .int x2), (3, .int x3_3), (4, .int x3_4)]) dX10_fills_114 (by decide) rfl ?_
                refine r_iload hC dX10_fills_116 1 rfl ?_
                refine r_iload_n hC dX10_fills_118 5 rfl ?_
                refine r_icmp_le hC (tgt := 129) dX10_fills_119 (by decide) (fun c165 => ?_) (fun c165 => ?_)
                · refine r_iload_n hC dX10_fills_129 5 rfl ?_
                  refine r_iload hC dX10_fills_130 0 rfl ?_
                  refine r_isub hC dX10_fills_132 (fun x166_ e166 => ?_)
                  try have t166 : x166_.toInt = x3_3.toInt - x164_.toInt := by rw [e166]; exact ti_sub (by omega) (by omega)
                  refine r_istore_n hC (lv' := [(3, .int x166_), (6, .int x164_), (5, .int x150_), (0, .ref a0), (1, .int x1), (2, .int x2), (4, .int x3_4)]) dX10_fills_133 (by decide) rfl ?_
                  refine r_aload_n hC dX10_fills_134 3 rfl ?_
                  obtain ⟨a167_, hb167, hk167, hn167⟩ := hs3.row ka0 15 85 60 (by decide) (by decide)
                  refine r_getr hC 15 (ci := 10) rfl u10_in (by decide) mT_5_10 dX10_fills_135 ka0 rfl rfl hb167 ?_
                  refine r_iload hC dX10_fills_138 6 rfl ?_
                  refine r_iload_n hC dX10_fills_140 0 rfl ?_
                  refine x_iastore hC hk167 hn167 (by decide) rfl rfl dX10_fills_141 (by omega) (by omega) (fun I168 eI168 => ?_)
                  have hs168 := hs3.put0 eI168 hk167 (rng_arr (by decide) _) rfl (xF_arr (by decide) _) (by decide)
                  have hF168 := hF3.put eI168 hk167 (inS_arr rfl _)
                  obtain ⟨x169_, e169⟩ : ∃ z : Int32, z = x3_4 + Int32.ofInt (1) := ⟨_, rfl⟩
                  refine r_iinc hC (j := 6) (v := x169_) (lv' := [(4, .int x169_), (3, .int x166_), (6, .int x164_), (5, .int x150_), (0, .ref a0), (1, .int x1), (2, .int x2)]) dX10_fills_142 rfl (by rw [e169]) (by decide) rfl ?_
                  try have t169 : x169_.toInt = x3_4.toInt + (1) := by rw [e169]; exact (ti_add (b := Int32.ofInt (1)) (by show _ ≤ _ + (1 : Int); omega) (by show _ + (1 : Int) ≤ _; omega))
                  refine r_goto hC (tgt := 11) dX10_fills_145 (by decide) ?_
                  refine r_sub [4, 5, 6, 1, 0] rfl ?_
                  exact ih3 ((60 - x169_.toInt).toNat) (by omega) x169_ x166_ I168 hs168 hF168 (by omega) (by omega) rfl
                · refine r_iload_n hC dX10_fills_122 5 rfl ?_
                  refine r_iload hC dX10_fills_123 0 rfl ?_
                  refine r_iadd hC dX10_fills_125 (fun x170_ e170 => ?_)
                  try have t170 : x170_.toInt = x3_3.toInt + x164_.toInt := by rw [e170]; exact ti_add (by omega) (by omega)
                  refine r_goto hC (tgt := 133) dX10_fills_126 (by decide) ?_
                  refine r_istore_n hC (lv' := [(3, .int x170_), (6, .int x164_), (5, .int x150_), (0, .ref a0), (1, .int x1), (2, .int x2), (4, .int x3_4)]) dX10_fills_133 (by decide) rfl ?_
                  refine r_aload_n hC dX10_fills_134 3 rfl ?_
                  obtain ⟨a171_, hb171, hk171, hn171⟩ := hs3.row ka0 15 85 60 (by decide) (by decide)
                  refine r_getr hC 15 (ci := 10) rfl u10_in (by decide) mT_5_10 dX10_fills_135 ka0 rfl rfl hb171 ?_
                  refine r_iload hC dX10_fills_138 6 rfl ?_
                  refine r_iload_n hC dX10_fills_140 0 rfl ?_
                  refine x_iastore hC hk171 hn171 (by decide) rfl rfl dX10_fills_141 (by omega) (by omega) (fun I172 eI172 => ?_)
                  have hs172 := hs3.put0 eI172 hk171 (rng_arr (by decide) _) rfl (xF_arr (by decide) _) (by decide)
                  have hF172 := hF3.put eI172 hk171 (inS_arr rfl _)
                  obtain ⟨x173_, e173⟩ : ∃ z : Int32, z = x3_4 + Int32.ofInt (1) := ⟨_, rfl⟩
                  refine r_iinc hC (j := 6) (v := x173_) (lv' := [(4, .int x173_), (3, .int x170_), (6, .int x164_), (5, .int x150_), (0, .ref a0), (1, .int x1), (2, .int x2)]) dX10_fills_142 rfl (by rw [e173]) (by decide) rfl ?_
                  try have t173 : x173_.toInt = x3_4.toInt + (1) := by rw [e173]; exact (ti_add (b := Int32.ofInt (1)) (by show _ ≤ _ + (1 : Int); omega) (by show _ + (1 : Int) ≤ _; omega))
                  refine r_goto hC (tgt := 11) dX10_fills_145 (by decide) ?_
                  refine r_sub [4, 5, 6, 1, 0] rfl ?_
                  exact ih3 ((60 - x173_.toInt).toNat) (by omega) x173_ x170_ I172 hs172 hF172 (by omega) (by omega) rfl
            · refine r_iload hC dX10_fills_77 0 rfl ?_
              refine r_iload_n hC dX10_fills_79 4 rfl ?_
              refine r_isub hC dX10_fills_80 (fun x174_ e174 => ?_)
              try have t174 : x174_.toInt = x150_.toInt - x3_3.toInt := by rw [e174]; exact ti_sub (by omega) (by omega)
              refine r_goto hC (tgt := 88) dX10_fills_81 (by decide) ?_
              refine r_istore hC (lv' := [(6, .int x174_), (5, .int x150_), (0, .ref a0), (1, .int x1), (2, .int x2), (3, .int x3_3), (4, .int x3_4)]) dX10_fills_88 (by decide) rfl ?_
              refine r_iload hC dX10_fills_90 0 rfl ?_
              refine r_aload_n hC dX10_fills_92 2 rfl ?_
              refine r_getr hC 3 (ci := 10) rfl u10_in (by decide) mT_4_238 dX10_fills_93 ka0 rfl rfl hbm ?_
              refine r_getiN hC 1 (ci := 9) rfl u9_in (by decide) nF_1 dX10_fills_96 khm rfl rfl (fun x175_ e175 => ?_)
              refine r_icmp_le hC (tgt := 112) dX10_fills_99 (by decide) (fun c176 => ?_) (fun c176 => ?_)
              · refine r_iload hC dX10_fills_112 0 rfl ?_
                refine r_istore hC (lv' := [(6, .int x174_), (5, .int x150_), (0, .ref a0), (1, .int x1), (2, .int x2), (3, .int x3_3), (4, .int x3_4)]) dX10_fills_114 (by decide) rfl ?_
                refine r_iload hC dX10_fills_116 1 rfl ?_
                refine r_iload_n hC dX10_fills_118 5 rfl ?_
                refine r_icmp_le hC (tgt := 129) dX10_fills_119 (by decide) (fun c177 => ?_) (fun c177 => ?_)
                · refine r_iload_n hC dX10_fills_129 5 rfl ?_
                  refine r_iload hC dX10_fills_130 0 rfl ?_
                  refine r_isub hC dX10_fills_132 (fun x178_ e178 => ?_)
                  try have t178 : x178_.toInt = x3_3.toInt - x174_.toInt := by rw [e178]; exact ti_sub (by omega) (by omega)
                  refine r_istore_n hC (lv' := [(3, .int x178_), (6, .int x174_), (5, .int x150_), (0, .ref a0), (1, .int x1), (2, .int x2), (4, .int x3_4)]) dX10_fills_133 (by decide) rfl ?_
                  refine r_aload_n hC dX10_fills_134 3 rfl ?_
                  obtain ⟨a179_, hb179, hk179, hn179⟩ := hs3.row ka0 15 85 60 (by decide) (by decide)
                  refine r_getr hC 15 (ci := 10) rfl u10_in (by decide) mT_5_10 dX10_fills_135 ka0 rfl rfl hb179 ?_
                  refine r_iload hC dX10_fills_138 6 rfl ?_
                  refine r_iload_n hC dX10_fills_140 0 rfl ?_
                  refine x_iastore hC hk179 hn179 (by decide) rfl rfl dX10_fills_141 (by omega) (by omega) (fun I180 eI180 => ?_)
                  have hs180 := hs3.put0 eI180 hk179 (rng_arr (by decide) _) rfl (xF_arr (by decide) _) (by decide)
                  have hF180 := hF3.put eI180 hk179 (inS_arr rfl _)
                  obtain ⟨x181_, e181⟩ : ∃ z : Int32, z = x3_4 + Int32.ofInt (1) := ⟨_, rfl⟩
                  refine r_iinc hC (j := 6) (v := x181_) (lv' := [(4, .int x181_), (3, .int x178_), (6, .int x174_), (5, .int x150_), (0, .ref a0), (1, .int x1), (2, .int x2)]) dX10_fills_142 rfl (by rw [e181]) (by decide) rfl ?_
                  try have t181 : x181_.toInt = x3_4.toInt + (1) := by rw [e181]; exact (ti_add (b := Int32.ofInt (1)) (by show _ ≤ _ + (1 : Int); omega) (by show _ + (1 : Int) ≤ _; omega))
                  refine r_goto hC (tgt := 11) dX10_fills_145 (by decide) ?_
                  refine r_sub [4, 5, 6, 1, 0] rfl ?_
                  exact ih3 ((60 - x181_.toInt).toNat) (by omega) x181_ x178_ I180 hs180 hF180 (by omega) (by omega) rfl
                · refine r_iload_n hC dX10_fills_122 5 rfl ?_
                  refine r_iload hC dX10_fills_123 0 rfl ?_
                  refine r_iadd hC dX10_fills_125 (fun x182_ e182 => ?_)
                  try have t182 : x182_.toInt = x3_3.toInt + x174_.toInt := by rw [e182]; exact ti_add (by omega) (by omega)
                  refine r_goto hC (tgt := 133) dX10_fills_126 (by decide) ?_
                  refine r_istore_n hC (lv' := [(3, .int x182_), (6, .int x174_), (5, .int x150_), (0, .ref a0), (1, .int x1), (2, .int x2), (4, .int x3_4)]) dX10_fills_133 (by decide) rfl ?_
                  refine r_aload_n hC dX10_fills_134 3 rfl ?_
                  obtain ⟨a183_, hb183, hk183, hn183⟩ := hs3.row ka0 15 85 60 (by decide) (by decide)
                  refine r_getr hC 15 (ci := 10) rfl u10_in (by decide) mT_5_10 dX10_fills_135 ka0 rfl rfl hb183 ?_
                  refine r_iload hC dX10_fills_138 6 rfl ?_
                  refine r_iload_n hC dX10_fills_140 0 rfl ?_
                  refine x_iastore hC hk183 hn183 (by decide) rfl rfl dX10_fills_141 (by omega) (by omega) (fun I184 eI184 => ?_)
                  have hs184 := hs3.put0 eI184 hk183 (rng_arr (by decide) _) rfl (xF_arr (by decide) _) (by decide)
                  have hF184 := hF3.put eI184 hk183 (inS_arr rfl _)
                  obtain ⟨x185_, e185⟩ : ∃ z : Int32, z = x3_4 + Int32.ofInt (1) := ⟨_, rfl⟩
                  refine r_iinc hC (j := 6) (v := x185_) (lv' := [(4, .int x185_), (3, .int x182_), (6, .int x174_), (5, .int x150_), (0, .ref a0), (1, .int x1), (2, .int x2)]) dX10_fills_142 rfl (by rw [e185]) (by decide) rfl ?_
                  try have t185 : x185_.toInt = x3_4.toInt + (1) := by rw [e185]; exact (ti_add (b := Int32.ofInt (1)) (by show _ ≤ _ + (1 : Int); omega) (by show _ + (1 : Int) ≤ _; omega))
                  refine r_goto hC (tgt := 11) dX10_fills_145 (by decide) ?_
                  refine r_sub [4, 5, 6, 1, 0] rfl ?_
                  exact ih3 ((60 - x185_.toInt).toNat) (by omega) x185_ x182_ I184 hs184 hF184 (by omega) (by omega) rfl
              · refine r_aload_n hC dX10_fills_102 2 rfl ?_
                refine r_getr hC 3 (ci := 10) rfl u10_in (by decide) mT_4_238 dX10_fills_103 ka0 rfl rfl hbm ?_
                refine r_getiN hC 1 (ci := 9) rfl u9_in (by decide) nF_1 dX10_fills_106 khm rfl rfl (fun x186_ e186 => ?_)
                have w186 : x186_ = x175_ := by rw [e186]; exact e175.symm
                have wt186 : x186_.toInt = x175_.toInt := by rw [w186]
                refine r_goto hC (tgt := 114) dX10_fills_109 (by decide) ?_
                refine r_istore hC (lv' := [(6, .int x186_), (5, .int x150_), (0, .ref a0), (1, .int x1), (2, .int x2), (3, .int x3_3), (4, .int x3_4)]) dX10_fills_114 (by decide) rfl ?_
                refine r_iload hC dX10_fills_116 1 rfl ?_
                refine r_iload_n hC dX10_fills_118 5 rfl ?_
                refine r_icmp_le hC (tgt := 129) dX10_fills_119 (by decide) (fun c187 => ?_) (fun c187 => ?_)
                · refine r_iload_n hC dX10_fills_129 5 rfl ?_
                  refine r_iload hC dX10_fills_130 0 rfl ?_
                  refine r_isub hC dX10_fills_132 (fun x188_ e188 => ?_)
                  try have t188 : x188_.toInt = x3_3.toInt - x186_.toInt := by rw [e188]; exact ti_sub (by omega) (by omega)
                  refine r_istore_n hC (lv' := [(3, .int x188_), (6, .int x186_), (5, .int x150_), (0, .ref a0), (1, .int x1), (2, .int x2), (4, .int x3_4)]) dX10_fills_133 (by decide) rfl ?_
                  refine r_aload_n hC dX10_fills_134 3 rfl ?_
                  obtain ⟨a189_, hb189, hk189, hn189⟩ := hs3.row ka0 15 85 60 (by decide) (by decide)
                  refine r_getr hC 15 (ci := 10) rfl u10_in (by decide) mT_5_10 dX10_fills_135 ka0 rfl rfl hb189 ?_
                  refine r_iload hC dX10_fills_138 6 rfl ?_
                  refine r_iload_n hC dX10_fills_140 0 rfl ?_
                  refine x_iastore hC hk189 hn189 (by decide) rfl rfl dX10_fills_141 (by omega) (by omega) (fun I190 eI190 => ?_)
                  have hs190 := hs3.put0 eI190 hk189 (rng_arr (by decide) _) rfl (xF_arr (by decide) _) (by decide)
                  have hF190 := hF3.put eI190 hk189 (inS_arr rfl _)
                  obtain ⟨x191_, e191⟩ : ∃ z : Int32, z = x3_4 + Int32.ofInt (1) := ⟨_, rfl⟩
                  refine r_iinc hC (j := 6) (v := x191_) (lv' := [(4, .int x191_), (3, .int x188_), (6, .int x186_), (5, .int x150_), (0, .ref a0), (1, .int x1), (2, .int x2)]) dX10_fills_142 rfl (by rw [e191]) (by decide) rfl ?_
                  try have t191 : x191_.toInt = x3_4.toInt + (1) := by rw [e191]; exact (ti_add (b := Int32.ofInt (1)) (by show _ ≤ _ + (1 : Int); omega) (by show _ + (1 : Int) ≤ _; omega))
                  refine r_goto hC (tgt := 11) dX10_fills_145 (by decide) ?_
                  refine r_sub [4, 5, 6, 1, 0] rfl ?_
                  exact ih3 ((60 - x191_.toInt).toNat) (by omega) x191_ x188_ I190 hs190 hF190 (by omega) (by omega) rfl
                · refine r_iload_n hC dX10_fills_122 5 rfl ?_
                  refine r_iload hC dX10_fills_123 0 rfl ?_
                  refine r_iadd hC dX10_fills_125 (fun x192_ e192 => ?_)
                  try have t192 : x192_.toInt = x3_3.toInt + x186_.toInt := by rw [e192]; exact ti_add (by omega) (by omega)
                  refine r_goto hC (tgt := 133) dX10_fills_126 (by decide) ?_
                  refine r_istore_n hC (lv' := [(3, .int x192_), (6, .int x186_), (5, .int x150_), (0, .ref a0), (1, .int x1), (2, .int x2), (4, .int x3_4)]) dX10_fills_133 (by decide) rfl ?_
                  refine r_aload_n hC dX10_fills_134 3 rfl ?_
                  obtain ⟨a193_, hb193, hk193, hn193⟩ := hs3.row ka0 15 85 60 (by decide) (by decide)
                  refine r_getr hC 15 (ci := 10) rfl u10_in (by decide) mT_5_10 dX10_fills_135 ka0 rfl rfl hb193 ?_
                  refine r_iload hC dX10_fills_138 6 rfl ?_
                  refine r_iload_n hC dX10_fills_140 0 rfl ?_
                  refine x_iastore hC hk193 hn193 (by decide) rfl rfl dX10_fills_141 (by omega) (by omega) (fun I194 eI194 => ?_)
                  have hs194 := hs3.put0 eI194 hk193 (rng_arr (by decide) _) rfl (xF_arr (by decide) _) (by decide)
                  have hF194 := hF3.put eI194 hk193 (inS_arr rfl _)
                  obtain ⟨x195_, e195⟩ : ∃ z : Int32, z = x3_4 + Int32.ofInt (1) := ⟨_, rfl⟩
                  refine r_iinc hC (j := 6) (v := x195_) (lv' := [(4, .int x195_), (3, .int x192_), (6, .int x186_), (5, .int x150_), (0, .ref a0), (1, .int x1), (2, .int x2)]) dX10_fills_142 rfl (by rw [e195]) (by decide) rfl ?_
                  try have t195 : x195_.toInt = x3_4.toInt + (1) := by rw [e195]; exact (ti_add (b := Int32.ofInt (1)) (by show _ ≤ _ + (1 : Int); omega) (by show _ + (1 : Int) ≤ _; omega))
                  refine r_goto hC (tgt := 11) dX10_fills_145 (by decide) ?_
                  refine r_sub [4, 5, 6, 1, 0] rfl ?_
                  exact ih3 ((60 - x195_.toInt).toNat) (by omega) x195_ x192_ I194 hs194 hF194 (by omega) (by omega) rfl
      · refine r_iconst hC (v := (0)) dX10_fills_24 (by decide) (by decide) (fun x196_ e196 t196 => ?_)
        refine r_goto hC (tgt := 43) dX10_fills_25 (by decide) ?_
        refine r_istore hC (lv' := [(5, .int x196_), (0, .ref a0), (1, .int x1), (2, .int x2), (3, .int x3_3), (4, .int x3_4)]) dX10_fills_43 (by decide) rfl ?_
        refine r_iload hC dX10_fills_45 0 rfl ?_
        refine r_aload_n hC dX10_fills_47 1 rfl ?_
        refine r_getr hC 3 (ci := 10) rfl u10_in (by decide) mT_4_238 dX10_fills_48 ka0 rfl rfl hbm ?_
        refine r_getiN hC 2 (ci := 9) rfl u9_in (by decide) nF_2 dX10_fills_51 khm rfl rfl (fun x197_ e197 => ?_)
        refine r_icmp_le hC (tgt := 67) dX10_fills_54 (by decide) (fun c198 => ?_) (fun c198 => ?_)
        · refine r_iload hC dX10_fills_67 0 rfl ?_
          refine r_istore hC (lv' := [(5, .int x196_), (0, .ref a0), (1, .int x1), (2, .int x2), (3, .int x3_3), (4, .int x3_4)]) dX10_fills_69 (by decide) rfl ?_
          refine r_iload hC dX10_fills_71 0 rfl ?_
          refine r_iload_n hC dX10_fills_73 4 rfl ?_
          refine r_icmp_le hC (tgt := 84) dX10_fills_74 (by decide) (fun c199 => ?_) (fun c199 => ?_)
          · refine r_iload_n hC dX10_fills_84 4 rfl ?_
            refine r_iload hC dX10_fills_85 0 rfl ?_
            refine r_isub hC dX10_fills_87 (fun x200_ e200 => ?_)
            try have t200 : x200_.toInt = x3_3.toInt - x196_.toInt := by rw [e200]; exact ti_sub (by omega) (by omega)
            refine r_istore hC (lv' := [(6, .int x200_), (5, .int x196_), (0, .ref a0), (1, .int x1), (2, .int x2), (3, .int x3_3), (4, .int x3_4)]) dX10_fills_88 (by decide) rfl ?_
            refine r_iload hC dX10_fills_90 0 rfl ?_
            refine r_aload_n hC dX10_fills_92 2 rfl ?_
            refine r_getr hC 3 (ci := 10) rfl u10_in (by decide) mT_4_238 dX10_fills_93 ka0 rfl rfl hbm ?_
            refine r_getiN hC 1 (ci := 9) rfl u9_in (by decide) nF_1 dX10_fills_96 khm rfl rfl (fun x201_ e201 => ?_)
            refine r_icmp_le hC (tgt := 112) dX10_fills_99 (by decide) (fun c202 => ?_) (fun c202 => ?_)
            · refine r_iload hC dX10_fills_112 0 rfl ?_
              refine r_istore hC (lv' := [(6, .int x200_), (5, .int x196_), (0, .ref a0), (1, .int x1), (2, .int x2), (3, .int x3_3), (4, .int x3_4)]) dX10_fills_114 (by decide) rfl ?_
              refine r_iload hC dX10_fills_116 1 rfl ?_
              refine r_iload_n hC dX10_fills_118 5 rfl ?_
              refine r_icmp_le hC (tgt := 129) dX10_fills_119 (by decide) (fun c203 => ?_) (fun c203 => ?_)
              · refine r_iload_n hC dX10_fills_129 5 rfl ?_
                refine r_iload hC dX10_fills_130 0 rfl ?_
                refine r_isub hC dX10_fills_132 (fun x204_ e204 => ?_)
                try have t204 : x204_.toInt = x3_3.toInt - x200_.toInt := by rw [e204]; exact ti_sub (by omega) (by omega)
                refine r_istore_n hC (lv' := [(3, .int x204_), (6, .int x200_), (5, .int x196_), (0, .ref a0), (1, .int x1), (2, .int x2), (4, .int x3_4)]) dX10_fills_133 (by decide) rfl ?_
                refine r_aload_n hC dX10_fills_134 3 rfl ?_
                obtain ⟨a205_, hb205, hk205, hn205⟩ := hs3.row ka0 15 85 60 (by decide) (by decide)
                refine r_getr hC 15 (ci := 10) rfl u10_in (by decide) mT_5_10 dX10_fills_135 ka0 rfl rfl hb205 ?_
                refine r_iload hC dX10_fills_138 6 rfl ?_
                refine r_iload_n hC dX10_fills_140 0 rfl ?_
                refine x_iastore hC hk205 hn205 (by decide) rfl rfl dX10_fills_141 (by omega) (by omega) (fun I206 eI206 => ?_)
                have hs206 := hs3.put0 eI206 hk205 (rng_arr (by decide) _) rfl (xF_arr (by decide) _) (by decide)
                have hF206 := hF3.put eI206 hk205 (inS_arr rfl _)
                obtain ⟨x207_, e207⟩ : ∃ z : Int32, z = x3_4 + Int32.ofInt (1) := ⟨_, rfl⟩
                refine r_iinc hC (j := 6) (v := x207_) (lv' := [(4, .int x207_), (3, .int x204_), (6, .int x200_), (5, .int x196_), (0, .ref a0), (1, .int x1), (2, .int x2)]) dX10_fills_142 rfl (by rw [e207]) (by decide) rfl ?_
                try have t207 : x207_.toInt = x3_4.toInt + (1) := by rw [e207]; exact (ti_add (b := Int32.ofInt (1)) (by show _ ≤ _ + (1 : Int); omega) (by show _ + (1 : Int) ≤ _; omega))
                refine r_goto hC (tgt := 11) dX10_fills_145 (by decide) ?_
                refine r_sub [4, 5, 6, 1, 0] rfl ?_
                exact ih3 ((60 - x207_.toInt).toNat) (by omega) x207_ x204_ I206 hs206 hF206 (by omega) (by omega) rfl
              · refine r_iload_n hC dX10_fills_122 5 rfl ?_
                refine r_iload hC dX10_fills_123 0 rfl ?_
                refine r_iadd hC dX10_fills_125 (fun x208_ e208 => ?_)
                try have t208 : x208_.toInt = x3_3.toInt + x200_.toInt := by rw [e208]; exact ti_add (by omega) (by omega)
                refine r_goto hC (tgt := 133) dX10_fills_126 (by decide) ?_
                refine r_istore_n hC (lv' := [(3, .int x208_), (6, .int x200_), (5, .int x196_), (0, .ref a0), (1, .int x1), (2, .int x2), (4, .int x3_4)]) dX10_fills_133 (by decide) rfl ?_
                refine r_aload_n hC dX10_fills_134 3 rfl ?_
                obtain ⟨a209_, hb209, hk209, hn209⟩ := hs3.row ka0 15 85 60 (by decide) (by decide)
                refine r_getr hC 15 (ci := 10) rfl u10_in (by decide) mT_5_10 dX10_fills_135 ka0 rfl rfl hb209 ?_
                refine r_iload hC dX10_fills_138 6 rfl ?_
                refine r_iload_n hC dX10_fills_140 0 rfl ?_
                refine x_iastore hC hk209 hn209 (by decide) rfl rfl dX10_fills_141 (by omega) (by omega) (fun I210 eI210 => ?_)
                have hs210 := hs3.put0 eI210 hk209 (rng_arr (by decide) _) rfl (xF_arr (by decide) _) (by decide)
                have hF210 := hF3.put eI210 hk209 (inS_arr rfl _)
                obtain ⟨x211_, e211⟩ : ∃ z : Int32, z = x3_4 + Int32.ofInt (1) := ⟨_, rfl⟩
                refine r_iinc hC (j := 6) (v := x211_) (lv' := [(4, .int x211_), (3, .int x208_), (6, .int x200_), (5, .int x196_), (0, .ref a0), (1, .int x1), (2, .int x2)]) dX10_fills_142 rfl (by rw [e211]) (by decide) rfl ?_
                try have t211 : x211_.toInt = x3_4.toInt + (1) := by rw [e211]; exact (ti_add (b := Int32.ofInt (1)) (by show _ ≤ _ + (1 : Int); omega) (by show _ + (1 : Int) ≤ _; omega))
                refine r_goto hC (tgt := 11) dX10_fills_145 (by decide) ?_
                refine r_sub [4, 5, 6, 1, 0] rfl ?_
                exact ih3 ((60 - x211_.toInt).toNat) (by omega) x211_ x208_ I210 hs210 hF210 (by omega) (by omega) rfl
            · refine r_aload_n hC dX10_fills_102 2 rfl ?_
              refine r_getr hC 3 (ci := 10) rfl u10_in (by decide) mT_4_238 dX10_fills_103 ka0 rfl rfl hbm ?_
              refine r_getiN hC 1 (ci := 9) rfl u9_in (by decide) nF_1 dX10_fills_106 khm rfl rfl (fun x212_ e212 => ?_)
              have w212 : x212_ = x201_ := by rw [e212]; exact e201.symm
              have wt212 : x212_.toInt = x201_.toInt := by rw [w212]
              refine r_goto hC (tgt := 114) dX10_fills_109 (by decide) ?_
              refine r_istore hC (lv' := [(6, .int x212_), (5, .int x196_), (0, .ref a0), (1, .int x1), (2, .int x2), (3, .int x3_3), (4, .int x3_4)]) dX10_fills_114 (by decide) rfl ?_
              refine r_iload hC dX10_fills_116 1 rfl ?_
              refine r_iload_n hC dX10_fills_118 5 rfl ?_
              refine r_icmp_le hC (tgt := 129) dX10_fills_119 (by decide) (fun c213 => ?_) (fun c213 => ?_)
              · refine r_iload_n hC dX10_fills_129 5 rfl ?_
                refine r_iload hC dX10_fills_130 0 rfl ?_
                refine r_isub hC dX10_fills_132 (fun x214_ e214 => ?_)
                try have t214 : x214_.toInt = x3_3.toInt - x212_.toInt := by rw [e214]; exact ti_sub (by omega) (by omega)
                refine r_istore_n hC (lv' := [(3, .int x214_), (6, .int x212_), (5, .int x196_), (0, .ref a0), (1, .int x1), (2, .int x2), (4, .int x3_4)]) dX10_fills_133 (by decide) rfl ?_
                refine r_aload_n hC dX10_fills_134 3 rfl ?_
                obtain ⟨a215_, hb215, hk215, hn215⟩ := hs3.row ka0 15 85 60 (by decide) (by decide)
                refine r_getr hC 15 (ci := 10) rfl u10_in (by decide) mT_5_10 dX10_fills_135 ka0 rfl rfl hb215 ?_
                refine r_iload hC dX10_fills_138 6 rfl ?_
                refine r_iload_n hC dX10_fills_140 0 rfl ?_
                refine x_iastore hC hk215 hn215 (by decide) rfl rfl dX10_fills_141 (by omega) (by omega) (fun I216 eI216 => ?_)
                have hs216 := hs3.put0 eI216 hk215 (rng_arr (by decide) _) rfl (xF_arr (by decide) _) (by decide)
                have hF216 := hF3.put eI216 hk215 (inS_arr rfl _)
                obtain ⟨x217_, e217⟩ : ∃ z : Int32, z = x3_4 + Int32.ofInt (1) := ⟨_, rfl⟩
                refine r_iinc hC (j := 6) (v := x217_) (lv' := [(4, .int x217_), (3, .int x214_), (6, .int x212_), (5, .int x196_), (0, .ref a0), (1, .int x1), (2, .int x2)]) dX10_fills_142 rfl (by rw [e217]) (by decide) rfl ?_
                try have t217 : x217_.toInt = x3_4.toInt + (1) := by rw [e217]; exact (ti_add (b := Int32.ofInt (1)) (by show _ ≤ _ + (1 : Int); omega) (by show _ + (1 : Int) ≤ _; omega))
                refine r_goto hC (tgt := 11) dX10_fills_145 (by decide) ?_
                refine r_sub [4, 5, 6, 1, 0] rfl ?_
                exact ih3 ((60 - x217_.toInt).toNat) (by omega) x217_ x214_ I216 hs216 hF216 (by omega) (by omega) rfl
              · refine r_iload_n hC dX10_fills_122 5 rfl ?_
                refine r_iload hC dX10_fills_123 0 rfl ?_
                refine r_iadd hC dX10_fills_125 (fun x218_ e218 => ?_)
                try have t218 : x218_.toInt = x3_3.toInt + x212_.toInt := by rw [e218]; exact ti_add (by omega) (by omega)
                refine r_goto hC (tgt := 133) dX10_fills_126 (by decide) ?_
                refine r_istore_n hC (lv' := [(3, .int x218_), (6, .int x212_), (5, .int x196_), (0, .ref a0), (1, .int x1), (2, .int x2), (4, .int x3_4)]) dX10_fills_133 (by decide) rfl ?_
                refine r_aload_n hC dX10_fills_134 3 rfl ?_
                obtain ⟨a219_, hb219, hk219, hn219⟩ := hs3.row ka0 15 85 60 (by decide) (by decide)
                refine r_getr hC 15 (ci := 10) rfl u10_in (by decide) mT_5_10 dX10_fills_135 ka0 rfl rfl hb219 ?_
                refine r_iload hC dX10_fills_138 6 rfl ?_
                refine r_iload_n hC dX10_fills_140 0 rfl ?_
                refine x_iastore hC hk219 hn219 (by decide) rfl rfl dX10_fills_141 (by omega) (by omega) (fun I220 eI220 => ?_)
                have hs220 := hs3.put0 eI220 hk219 (rng_arr (by decide) _) rfl (xF_arr (by decide) _) (by decide)
                have hF220 := hF3.put eI220 hk219 (inS_arr rfl _)
                obtain ⟨x221_, e221⟩ : ∃ z : Int32, z = x3_4 + Int32.ofInt (1) := ⟨_, rfl⟩
                refine r_iinc hC (j := 6) (v := x221_) (lv' := [(4, .int x221_), (3, .int x218_), (6, .int x212_), (5, .int x196_), (0, .ref a0), (1, .int x1), (2, .int x2)]) dX10_fills_142 rfl (by rw [e221]) (by decide) rfl ?_
                try have t221 : x221_.toInt = x3_4.toInt + (1) := by rw [e221]; exact (ti_add (b := Int32.ofInt (1)) (by show _ ≤ _ + (1 : Int); omega) (by show _ + (1 : Int) ≤ _; omega))
                refine r_goto hC (tgt := 11) dX10_fills_145 (by decide) ?_
                refine r_sub [4, 5, 6, 1, 0] rfl ?_
                exact ih3 ((60 - x221_.toInt).toNat) (by omega) x221_ x218_ I220 hs220 hF220 (by omega) (by omega) rfl
          · refine r_iload hC dX10_fills_77 0 rfl ?_
            refine r_iload_n hC dX10_fills_79 4 rfl ?_
            refine r_isub hC dX10_fills_80 (fun x222_ e222 => ?_)
            try have t222 : x222_.toInt = x196_.toInt - x3_3.toInt := by rw [e222]; exact ti_sub (by omega) (by omega)
            refine r_goto hC (tgt := 88) dX10_fills_81 (by decide) ?_
            refine r_istore hC (lv' := [(6, .int x222_), (5, .int x196_), (0, .ref a0), (1, .int x1), (2, .int x2), (3, .int x3_3), (4, .int x3_4)]) dX10_fills_88 (by decide) rfl ?_
            refine r_iload hC dX10_fills_90 0 rfl ?_
            refine r_aload_n hC dX10_fills_92 2 rfl ?_
            refine r_getr hC 3 (ci := 10) rfl u10_in (by decide) mT_4_238 dX10_fills_93 ka0 rfl rfl hbm ?_
            refine r_getiN hC 1 (ci := 9) rfl u9_in (by decide) nF_1 dX10_fills_96 khm rfl rfl (fun x223_ e223 => ?_)
            refine r_icmp_le hC (tgt := 112) dX10_fills_99 (by decide) (fun c224 => ?_) (fun c224 => ?_)
            · refine r_iload hC dX10_fills_112 0 rfl ?_
              refine r_istore hC (lv' := [(6, .int x222_), (5, .int x196_), (0, .ref a0), (1, .int x1), (2, .int x2), (3, .int x3_3), (4, .int x3_4)]) dX10_fills_114 (by decide) rfl ?_
              refine r_iload hC dX10_fills_116 1 rfl ?_
              refine r_iload_n hC dX10_fills_118 5 rfl ?_
              refine r_icmp_le hC (tgt := 129) dX10_fills_119 (by decide) (fun c225 => ?_) (fun c225 => ?_)
              · refine r_iload_n hC dX10_fills_129 5 rfl ?_
                refine r_iload hC dX10_fills_130 0 rfl ?_
                refine r_isub hC dX10_fills_132 (fun x226_ e226 => ?_)
                try have t226 : x226_.toInt = x3_3.toInt - x222_.toInt := by rw [e226]; exact ti_sub (by omega) (by omega)
                refine r_istore_n hC (lv' := [(3, .int x226_), (6, .int x222_), (5, .int x196_), (0, .ref a0), (1, .int x1), (2, .int x2), (4, .int x3_4)]) dX10_fills_133 (by decide) rfl ?_
                refine r_aload_n hC dX10_fills_134 3 rfl ?_
                obtain ⟨a227_, hb227, hk227, hn227⟩ := hs3.row ka0 15 85 60 (by decide) (by decide)
                refine r_getr hC 15 (ci := 10) rfl u10_in (by decide) mT_5_10 dX10_fills_135 ka0 rfl rfl hb227 ?_
                refine r_iload hC dX10_fills_138 6 rfl ?_
                refine r_iload_n hC dX10_fills_140 0 rfl ?_
                refine x_iastore hC hk227 hn227 (by decide) rfl rfl dX10_fills_141 (by omega) (by omega) (fun I228 eI228 => ?_)
                have hs228 := hs3.put0 eI228 hk227 (rng_arr (by decide) _) rfl (xF_arr (by decide) _) (by decide)
                have hF228 := hF3.put eI228 hk227 (inS_arr rfl _)
                obtain ⟨x229_, e229⟩ : ∃ z : Int32, z = x3_4 + Int32.ofInt (1) := ⟨_, rfl⟩
                refine r_iinc hC (j := 6) (v := x229_) (lv' := [(4, .int x229_), (3, .int x226_), (6, .int x222_), (5, .int x196_), (0, .ref a0), (1, .int x1), (2, .int x2)]) dX10_fills_142 rfl (by rw [e229]) (by decide) rfl ?_
                try have t229 : x229_.toInt = x3_4.toInt + (1) := by rw [e229]; exact (ti_add (b := Int32.ofInt (1)) (by show _ ≤ _ + (1 : Int); omega) (by show _ + (1 : Int) ≤ _; omega))
                refine r_goto hC (tgt := 11) dX10_fills_145 (by decide) ?_
                refine r_sub [4, 5, 6, 1, 0] rfl ?_
                exact ih3 ((60 - x229_.toInt).toNat) (by omega) x229_ x226_ I228 hs228 hF228 (by omega) (by omega) rfl
              · refine r_iload_n hC dX10_fills_122 5 rfl ?_
                refine r_iload hC dX10_fills_123 0 rfl ?_
                refine r_iadd hC dX10_fills_125 (fun x230_ e230 => ?_)
                try have t230 : x230_.toInt = x3_3.toInt + x222_.toInt := by rw [e230]; exact ti_add (by omega) (by omega)
                refine r_goto hC (tgt := 133) dX10_fills_126 (by decide) ?_
                refine r_istore_n hC (lv' := [(3, .int x230_), (6, .int x222_), (5, .int x196_), (0, .ref a0), (1, .int x1), (2, .int x2), (4, .int x3_4)]) dX10_fills_133 (by decide) rfl ?_
                refine r_aload_n hC dX10_fills_134 3 rfl ?_
                obtain ⟨a231_, hb231, hk231, hn231⟩ := hs3.row ka0 15 85 60 (by decide) (by decide)
                refine r_getr hC 15 (ci := 10) rfl u10_in (by decide) mT_5_10 dX10_fills_135 ka0 rfl rfl hb231 ?_
                refine r_iload hC dX10_fills_138 6 rfl ?_
                refine r_iload_n hC dX10_fills_140 0 rfl ?_
                refine x_iastore hC hk231 hn231 (by decide) rfl rfl dX10_fills_141 (by omega) (by omega) (fun I232 eI232 => ?_)
                have hs232 := hs3.put0 eI232 hk231 (rng_arr (by decide) _) rfl (xF_arr (by decide) _) (by decide)
                have hF232 := hF3.put eI232 hk231 (inS_arr rfl _)
                obtain ⟨x233_, e233⟩ : ∃ z : Int32, z = x3_4 + Int32.ofInt (1) := ⟨_, rfl⟩
                refine r_iinc hC (j := 6) (v := x233_) (lv' := [(4, .int x233_), (3, .int x230_), (6, .int x222_), (5, .int x196_), (0, .ref a0), (1, .int x1), (2, .int x2)]) dX10_fills_142 rfl (by rw [e233]) (by decide) rfl ?_
                try have t233 : x233_.toInt = x3_4.toInt + (1) := by rw [e233]; exact (ti_add (b := Int32.ofInt (1)) (by show _ ≤ _ + (1 : Int); omega) (by show _ + (1 : Int) ≤ _; omega))
                refine r_goto hC (tgt := 11) dX10_fills_145 (by decide) ?_
                refine r_sub [4, 5, 6, 1, 0] rfl ?_
                exact ih3 ((60 - x233_.toInt).toNat) (by omega) x233_ x230_ I232 hs232 hF232 (by omega) (by omega) rfl
            · refine r_aload_n hC dX10_fills_102 2 rfl ?_
              refine r_getr hC 3 (ci := 10) rfl u10_in (by decide) mT_4_238 dX10_fills_103 ka0 rfl rfl hbm ?_
              refine r_getiN hC 1 (ci := 9) rfl u9_in (by decide) nF_1 dX10_fills_106 khm rfl rfl (fun x234_ e234 => ?_)
              have w234 : x234_ = x223_ := by rw [e234]; exact e223.symm
              have wt234 : x234_.toInt = x223_.toInt := by rw [w234]
              refine r_goto hC (tgt := 114) dX10_fills_109 (by decide) ?_
              refine r_istore hC (lv' := [(6, .int x234_), (5, .int x196_), (0, .ref a0), (1, .int x1), (2, .int x2), (3, .int x3_3), (4, .int x3_4)]) dX10_fills_114 (by decide) rfl ?_
              refine r_iload hC dX10_fills_116 1 rfl ?_
              refine r_iload_n hC dX10_fills_118 5 rfl ?_
              refine r_icmp_le hC (tgt := 129) dX10_fills_119 (by decide) (fun c235 => ?_) (fun c235 => ?_)
              · refine r_iload_n hC dX10_fills_129 5 rfl ?_
                refine r_iload hC dX10_fills_130 0 rfl ?_
                refine r_isub hC dX10_fills_132 (fun x236_ e236 => ?_)
                try have t236 : x236_.toInt = x3_3.toInt - x234_.toInt := by rw [e236]; exact ti_sub (by omega) (by omega)
                refine r_istore_n hC (lv' := [(3, .int x236_), (6, .int x234_), (5, .int x196_), (0, .ref a0), (1, .int x1), (2, .int x2), (4, .int x3_4)]) dX10_fills_133 (by decide) rfl ?_
                refine r_aload_n hC dX10_fills_134 3 rfl ?_
                obtain ⟨a237_, hb237, hk237, hn237⟩ := hs3.row ka0 15 85 60 (by decide) (by decide)
                refine r_getr hC 15 (ci := 10) rfl u10_in (by decide) mT_5_10 dX10_fills_135 ka0 rfl rfl hb237 ?_
                refine r_iload hC dX10_fills_138 6 rfl ?_
                refine r_iload_n hC dX10_fills_140 0 rfl ?_
                refine x_iastore hC hk237 hn237 (by decide) rfl rfl dX10_fills_141 (by omega) (by omega) (fun I238 eI238 => ?_)
                have hs238 := hs3.put0 eI238 hk237 (rng_arr (by decide) _) rfl (xF_arr (by decide) _) (by decide)
                have hF238 := hF3.put eI238 hk237 (inS_arr rfl _)
                obtain ⟨x239_, e239⟩ : ∃ z : Int32, z = x3_4 + Int32.ofInt (1) := ⟨_, rfl⟩
                refine r_iinc hC (j := 6) (v := x239_) (lv' := [(4, .int x239_), (3, .int x236_), (6, .int x234_), (5, .int x196_), (0, .ref a0), (1, .int x1), (2, .int x2)]) dX10_fills_142 rfl (by rw [e239]) (by decide) rfl ?_
                try have t239 : x239_.toInt = x3_4.toInt + (1) := by rw [e239]; exact (ti_add (b := Int32.ofInt (1)) (by show _ ≤ _ + (1 : Int); omega) (by show _ + (1 : Int) ≤ _; omega))
                refine r_goto hC (tgt := 11) dX10_fills_145 (by decide) ?_
                refine r_sub [4, 5, 6, 1, 0] rfl ?_
                exact ih3 ((60 - x239_.toInt).toNat) (by omega) x239_ x236_ I238 hs238 hF238 (by omega) (by omega) rfl
              · refine r_iload_n hC dX10_fills_122 5 rfl ?_
                refine r_iload hC dX10_fills_123 0 rfl ?_
                refine r_iadd hC dX10_fills_125 (fun x240_ e240 => ?_)
                try have t240 : x240_.toInt = x3_3.toInt + x234_.toInt := by rw [e240]; exact ti_add (by omega) (by omega)
                refine r_goto hC (tgt := 133) dX10_fills_126 (by decide) ?_
                refine r_istore_n hC (lv' := [(3, .int x240_), (6, .int x234_), (5, .int x196_), (0, .ref a0), (1, .int x1), (2, .int x2), (4, .int x3_4)]) dX10_fills_133 (by decide) rfl ?_
                refine r_aload_n hC dX10_fills_134 3 rfl ?_
                obtain ⟨a241_, hb241, hk241, hn241⟩ := hs3.row ka0 15 85 60 (by decide) (by decide)
                refine r_getr hC 15 (ci := 10) rfl u10_in (by decide) mT_5_10 dX10_fills_135 ka0 rfl rfl hb241 ?_
                refine r_iload hC dX10_fills_138 6 rfl ?_
                refine r_iload_n hC dX10_fills_140 0 rfl ?_
                refine x_iastore hC hk241 hn241 (by decide) rfl rfl dX10_fills_141 (by omega) (by omega) (fun I242 eI242 => ?_)
                have hs242 := hs3.put0 eI242 hk241 (rng_arr (by decide) _) rfl (xF_arr (by decide) _) (by decide)
                have hF242 := hF3.put eI242 hk241 (inS_arr rfl _)
                obtain ⟨x243_, e243⟩ : ∃ z : Int32, z = x3_4 + Int32.ofInt (1) := ⟨_, rfl⟩
                refine r_iinc hC (j := 6) (v := x243_) (lv' := [(4, .int x243_), (3, .int x240_), (6, .int x234_), (5, .int x196_), (0, .ref a0), (1, .int x1), (2, .int x2)]) dX10_fills_142 rfl (by rw [e243]) (by decide) rfl ?_
                try have t243 : x243_.toInt = x3_4.toInt + (1) := by rw [e243]; exact (ti_add (b := Int32.ofInt (1)) (by show _ ≤ _ + (1 : Int); omega) (by show _ + (1 : Int) ≤ _; omega))
                refine r_goto hC (tgt := 11) dX10_fills_145 (by decide) ?_
                refine r_sub [4, 5, 6, 1, 0] rfl ?_
                exact ih3 ((60 - x243_.toInt).toNat) (by omega) x243_ x240_ I242 hs242 hF242 (by omega) (by omega) rfl
        · refine r_aload_n hC dX10_fills_57 1 rfl ?_
          refine r_getr hC 3 (ci := 10) rfl u10_in (by decide) mT_4_238 dX10_fills_58 ka0 rfl rfl hbm ?_
          refine r_getiN hC 2 (ci := 9) rfl u9_in (by decide) nF_2 dX10_fills_61 khm rfl rfl (fun x244_ e244 => ?_)
          have w244 : x244_ = x197_ := by rw [e244]; exact e197.symm
          have wt244 : x244_.toInt = x197_.toInt := by rw [w244]
          refine r_goto hC (tgt := 69) dX10_fills_64 (by decide) ?_
          refine r_istore hC (lv' := [(5, .int x244_), (0, .ref a0), (1, .int x1), (2, .int x2), (3, .int x3_3), (4, .int x3_4)]) dX10_fills_69 (by decide) rfl ?_
          refine r_iload hC dX10_fills_71 0 rfl ?_
          refine r_iload_n hC dX10_fills_73 4 rfl ?_
          refine r_icmp_le hC (tgt := 84) dX10_fills_74 (by decide) (fun c245 => ?_) (fun c245 => ?_)
          · refine r_iload_n hC dX10_fills_84 4 rfl ?_
            refine r_iload hC dX10_fills_85 0 rfl ?_
            refine r_isub hC dX10_fills_87 (fun x246_ e246 => ?_)
            try have t246 : x246_.toInt = x3_3.toInt - x244_.toInt := by rw [e246]; exact ti_sub (by omega) (by omega)
            refine r_istore hC (lv' := [(6, .int x246_), (5, .int x244_), (0, .ref a0), (1, .int x1), (2, .int x2), (3, .int x3_3), (4, .int x3_4)]) dX10_fills_88 (by decide) rfl ?_
            refine r_iload hC dX10_fills_90 0 rfl ?_
            refine r_aload_n hC dX10_fills_92 2 rfl ?_
            refine r_getr hC 3 (ci := 10) rfl u10_in (by decide) mT_4_238 dX10_fills_93 ka0 rfl rfl hbm ?_
            refine r_getiN hC 1 (ci := 9) rfl u9_in (by decide) nF_1 dX10_fills_96 khm rfl rfl (fun x247_ e247 => ?_)
            refine r_icmp_le hC (tgt := 112) dX10_fills_99 (by decide) (fun c248 => ?_) (fun c248 => ?_)
            · refine r_iload hC dX10_fills_112 0 rfl ?_
              refine r_istore hC (lv' := [(6, .int x246_), (5, .int x244_), (0, .ref a0), (1, .int x1), (2, .int x2), (3, .int x3_3), (4, .int x3_4)]) dX10_fills_114 (by decide) rfl ?_
              refine r_iload hC dX10_fills_116 1 rfl ?_
              refine r_iload_n hC dX10_fills_118 5 rfl ?_
              refine r_icmp_le hC (tgt := 129) dX10_fills_119 (by decide) (fun c249 => ?_) (fun c249 => ?_)
              · refine r_iload_n hC dX10_fills_129 5 rfl ?_
                refine r_iload hC dX10_fills_130 0 rfl ?_
                refine r_isub hC dX10_fills_132 (fun x250_ e250 => ?_)
                try have t250 : x250_.toInt = x3_3.toInt - x246_.toInt := by rw [e250]; exact ti_sub (by omega) (by omega)
                refine r_istore_n hC (lv' := [(3, .int x250_), (6, .int x246_), (5, .int x244_), (0, .ref a0), (1, .int x1), (2, .int x2), (4, .int x3_4)]) dX10_fills_133 (by decide) rfl ?_
                refine r_aload_n hC dX10_fills_134 3 rfl ?_
                obtain ⟨a251_, hb251, hk251, hn251⟩ := hs3.row ka0 15 85 60 (by decide) (by decide)
                refine r_getr hC 15 (ci := 10) rfl u10_in (by decide) mT_5_10 dX10_fills_135 ka0 rfl rfl hb251 ?_
                refine r_iload hC dX10_fills_138 6 rfl ?_
                refine r_iload_n hC dX10_fills_140 0 rfl ?_
                refine x_iastore hC hk251 hn251 (by decide) rfl rfl dX10_fills_141 (by omega) (by omega) (fun I252 eI252 => ?_)
                have hs252 := hs3.put0 eI252 hk251 (rng_arr (by decide) _) rfl (xF_arr (by decide) _) (by decide)
                have hF252 := hF3.put eI252 hk251 (inS_arr rfl _)
                obtain ⟨x253_, e253⟩ : ∃ z : Int32, z = x3_4 + Int32.ofInt (1) := ⟨_, rfl⟩
                refine r_iinc hC (j := 6) (v := x253_) (lv' := [(4, .int x253_), (3, .int x250_), (6, .int x246_), (5, .int x244_), (0, .ref a0), (1, .int x1), (2, .int x2)]) dX10_fills_142 rfl (by rw [e253]) (by decide) rfl ?_
                try have t253 : x253_.toInt = x3_4.toInt + (1) := by rw [e253]; exact (ti_add (b := Int32.ofInt (1)) (by show _ ≤ _ + (1 : Int); omega) (by show _ + (1 : Int) ≤ _; omega))
                refine r_goto hC (tgt := 11) dX10_fills_145 (by decide) ?_
                refine r_sub [4, 5, 6, 1, 0] rfl ?_
                exact ih3 ((60 - x253_.toInt).toNat) (by omega) x253_ x250_ I252 hs252 hF252 (by omega) (by omega) rfl
              · refine r_iload_n hC dX10_fills_122 5 rfl ?_
                refine r_iload hC dX10_fills_123 0 rfl ?_
                refine r_iadd hC dX10_fills_125 (fun x254_ e254 => ?_)
                try have t254 : x254_.toInt = x3_3.toInt + x246_.toInt := by rw [e254]; exact ti_add (by omega) (by omega)
                refine r_goto hC (tgt := 133) dX10_fills_126 (by decide) ?_
                refine r_istore_n hC (lv' := [(3, .int x254_), (6, .int x246_), (5, .int x244_), (0, .ref a0), (1, .int x1), (2, .int x2), (4, .int x3_4)]) dX10_fills_133 (by decide) rfl ?_
                refine r_aload_n hC dX10_fills_134 3 rfl ?_
                obtain ⟨a255_, hb255, hk255, hn255⟩ := hs3.row ka0 15 85 60 (by decide) (by decide)
                refine r_getr hC 15 (ci := 10) rfl u10_in (by decide) mT_5_10 dX10_fills_135 ka0 rfl rfl hb255 ?_
                refine r_iload hC dX10_fills_138 6 rfl ?_
                refine r_iload_n hC dX10_fills_140 0 rfl ?_
                refine x_iastore hC hk255 hn255 (by decide) rfl rfl dX10_fills_141 (by omega) (by omega) (fun I256 eI256 => ?_)
                have hs256 := hs3.put0 eI256 hk255 (rng_arr (by decide) _) rfl (xF_arr (by decide) _) (by decide)
                have hF256 := hF3.put eI256 hk255 (inS_arr rfl _)
                obtain ⟨x257_, e257⟩ : ∃ z : Int32, z = x3_4 + Int32.ofInt (1) := ⟨_, rfl⟩
                refine r_iinc hC (j := 6) (v := x257_) (lv' := [(4, .int x257_), (3, .int x254_), (6, .int x246_), (5, .int x244_), (0, .ref a0), (1, .int x1), (2, .int x2)]) dX10_fills_142 rfl (by rw [e257]) (by decide) rfl ?_
                try have t257 : x257_.toInt = x3_4.toInt + (1) := by rw [e257]; exact (ti_add (b := Int32.ofInt (1)) (by show _ ≤ _ + (1 : Int); omega) (by show _ + (1 : Int) ≤ _; omega))
                refine r_goto hC (tgt := 11) dX10_fills_145 (by decide) ?_
                refine r_sub [4, 5, 6, 1, 0] rfl ?_
                exact ih3 ((60 - x257_.toInt).toNat) (by omega) x257_ x254_ I256 hs256 hF256 (by omega) (by omega) rfl
            · refine r_aload_n hC dX10_fills_102 2 rfl ?_
              refine r_getr hC 3 (ci := 10) rfl u10_in (by decide) mT_4_238 dX10_fills_103 ka0 rfl rfl hbm ?_
              refine r_getiN hC 1 (ci := 9) rfl u9_in (by decide) nF_1 dX10_fills_106 khm rfl rfl (fun x258_ e258 => ?_)
              have w258 : x258_ = x247_ := by rw [e258]; exact e247.symm
              have wt258 : x258_.toInt = x247_.toInt := by rw [w258]
              refine r_goto hC (tgt := 114) dX10_fills_109 (by decide) ?_
              refine r_istore hC (lv' := [(6, .int x258_), (5, .int x244_), (0, .ref a0), (1, .int x1), (2, .int x2), (3, .int x3_3), (4, .int x3_4)]) dX10_fills_114 (by decide) rfl ?_
              refine r_iload hC dX10_fills_116 1 rfl ?_
              refine r_iload_n hC dX10_fills_118 5 rfl ?_
              refine r_icmp_le hC (tgt := 129) dX10_fills_119 (by decide) (fun c259 => ?_) (fun c259 => ?_)
              · refine r_iload_n hC dX10_fills_129 5 rfl ?_
                refine r_iload hC dX10_fills_130 0 rfl ?_
                refine r_isub hC dX10_fills_132 (fun x260_ e260 => ?_)
                try have t260 : x260_.toInt = x3_3.toInt - x258_.toInt := by rw [e260]; exact ti_sub (by omega) (by omega)
                refine r_istore_n hC (lv' := [(3, .int x260_), (6, .int x258_), (5, .int x244_), (0, .ref a0), (1, .int x1), (2, .int x2), (4, .int x3_4)]) dX10_fills_133 (by decide) rfl ?_
                refine r_aload_n hC dX10_fills_134 3 rfl ?_
                obtain ⟨a261_, hb261, hk261, hn261⟩ := hs3.row ka0 15 85 60 (by decide) (by decide)
                refine r_getr hC 15 (ci := 10) rfl u10_in (by decide) mT_5_10 dX10_fills_135 ka0 rfl rfl hb261 ?_
                refine r_iload hC dX10_fills_138 6 rfl ?_
                refine r_iload_n hC dX10_fills_140 0 rfl ?_
                refine x_iastore hC hk261 hn261 (by decide) rfl rfl dX10_fills_141 (by omega) (by omega) (fun I262 eI262 => ?_)
                have hs262 := hs3.put0 eI262 hk261 (rng_arr (by decide) _) rfl (xF_arr (by decide) _) (by decide)
                have hF262 := hF3.put eI262 hk261 (inS_arr rfl _)
                obtain ⟨x263_, e263⟩ : ∃ z : Int32, z = x3_4 + Int32.ofInt (1) := ⟨_, rfl⟩
                refine r_iinc hC (j := 6) (v := x263_) (lv' := [(4, .int x263_), (3, .int x260_), (6, .int x258_), (5, .int x244_), (0, .ref a0), (1, .int x1), (2, .int x2)]) dX10_fills_142 rfl (by rw [e263]) (by decide) rfl ?_
                try have t263 : x263_.toInt = x3_4.toInt + (1) := by rw [e263]; exact (ti_add (b := Int32.ofInt (1)) (by show _ ≤ _ + (1 : Int); omega) (by show _ + (1 : Int) ≤ _; omega))
                refine r_goto hC (tgt := 11) dX10_fills_145 (by decide) ?_
                refine r_sub [4, 5, 6, 1, 0] rfl ?_
                exact ih3 ((60 - x263_.toInt).toNat) (by omega) x263_ x260_ I262 hs262 hF262 (by omega) (by omega) rfl
              · refine r_iload_n hC dX10_fills_122 5 rfl ?_
                refine r_iload hC dX10_fills_123 0 rfl ?_
                refine r_iadd hC dX10_fills_125 (fun x264_ e264 => ?_)
                try have t264 : x264_.toInt = x3_3.toInt + x258_.toInt := by rw [e264]; exact ti_add (by omega) (by omega)
                refine r_goto hC (tgt := 133) dX10_fills_126 (by decide) ?_
                refine r_istore_n hC (lv' := [(3, .int x264_), (6, .int x258_), (5, .int x244_), (0, .ref a0), (1, .int x1), (2, .int x2), (4, .int x3_4)]) dX10_fills_133 (by decide) rfl ?_
                refine r_aload_n hC dX10_fills_134 3 rfl ?_
                obtain ⟨a265_, hb265, hk265, hn265⟩ := hs3.row ka0 15 85 60 (by decide) (by decide)
                refine r_getr hC 15 (ci := 10) rfl u10_in (by decide) mT_5_10 dX10_fills_135 ka0 rfl rfl hb265 ?_
                refine r_iload hC dX10_fills_138 6 rfl ?_
                refine r_iload_n hC dX10_fills_140 0 rfl ?_
                refine x_iastore hC hk265 hn265 (by decide) rfl rfl dX10_fills_141 (by omega) (by omega) (fun I266 eI266 => ?_)
                have hs266 := hs3.put0 eI266 hk265 (rng_arr (by decide) _) rfl (xF_arr (by decide) _) (by decide)
                have hF266 := hF3.put eI266 hk265 (inS_arr rfl _)
                obtain ⟨x267_, e267⟩ : ∃ z : Int32, z = x3_4 + Int32.ofInt (1) := ⟨_, rfl⟩
                refine r_iinc hC (j := 6) (v := x267_) (lv' := [(4, .int x267_), (3, .int x264_), (6, .int x258_), (5, .int x244_), (0, .ref a0), (1, .int x1), (2, .int x2)]) dX10_fills_142 rfl (by rw [e267]) (by decide) rfl ?_
                try have t267 : x267_.toInt = x3_4.toInt + (1) := by rw [e267]; exact (ti_add (b := Int32.ofInt (1)) (by show _ ≤ _ + (1 : Int); omega) (by show _ + (1 : Int) ≤ _; omega))
                refine r_goto hC (tgt := 11) dX10_fills_145 (by decide) ?_
                refine r_sub [4, 5, 6, 1, 0] rfl ?_
                exact ih3 ((60 - x267_.toInt).toNat) (by omega) x267_ x264_ I266 hs266 hF266 (by omega) (by omega) rfl
          · refine r_iload hC dX10_fills_77 0 rfl ?_
            refine r_iload_n hC dX10_fills_79 4 rfl ?_
            refine r_isub hC dX10_fills_80 (fun x268_ e268 => ?_)
            try have t268 : x268_.toInt = x244_.toInt - x3_3.toInt := by rw [e268]; exact ti_sub (by omega) (by omega)
            refine r_goto hC (tgt := 88) dX10_fills_81 (by decide) ?_
            refine r_istore hC (lv' := [(6, .int x268_), (5, .int x244_), (0, .ref a0), (1, .int x1), (2, .int x2), (3, .int x3_3), (4, .int x3_4)]) dX10_fills_88 (by decide) rfl ?_
            refine r_iload hC dX10_fills_90 0 rfl ?_
            refine r_aload_n hC dX10_fills_92 2 rfl ?_
            refine r_getr hC 3 (ci := 10) rfl u10_in (by decide) mT_4_238 dX10_fills_93 ka0 rfl rfl hbm ?_
            refine r_getiN hC 1 (ci := 9) rfl u9_in (by decide) nF_1 dX10_fills_96 khm rfl rfl (fun x269_ e269 => ?_)
            refine r_icmp_le hC (tgt := 112) dX10_fills_99 (by decide) (fun c270 => ?_) (fun c270 => ?_)
            · refine r_iload hC dX10_fills_112 0 rfl ?_
              refine r_istore hC (lv' := [(6, .int x268_), (5, .int x244_), (0, .ref a0), (1, .int x1), (2, .int x2), (3, .int x3_3), (4, .int x3_4)]) dX10_fills_114 (by decide) rfl ?_
              refine r_iload hC dX10_fills_116 1 rfl ?_
              refine r_iload_n hC dX10_fills_118 5 rfl ?_
              refine r_icmp_le hC (tgt := 129) dX10_fills_119 (by decide) (fun c271 => ?_) (fun c271 => ?_)
              · refine r_iload_n hC dX10_fills_129 5 rfl ?_
                refine r_iload hC dX10_fills_130 0 rfl ?_
                refine r_isub hC dX10_fills_132 (fun x272_ e272 => ?_)
                try have t272 : x272_.toInt = x3_3.toInt - x268_.toInt := by rw [e272]; exact ti_sub (by omega) (by omega)
                refine r_istore_n hC (lv' := [(3, .int x272_), (6, .int x268_), (5, .int x244_), (0, .ref a0), (1, .int x1), (2, .int x2), (4, .int x3_4)]) dX10_fills_133 (by decide) rfl ?_
                refine r_aload_n hC dX10_fills_134 3 rfl ?_
                obtain ⟨a273_, hb273, hk273, hn273⟩ := hs3.row ka0 15 85 60 (by decide) (by decide)
                refine r_getr hC 15 (ci := 10) rfl u10_in (by decide) mT_5_10 dX10_fills_135 ka0 rfl rfl hb273 ?_
                refine r_iload hC dX10_fills_138 6 rfl ?_
                refine r_iload_n hC dX10_fills_140 0 rfl ?_
                refine x_iastore hC hk273 hn273 (by decide) rfl rfl dX10_fills_141 (by omega) (by omega) (fun I274 eI274 => ?_)
                have hs274 := hs3.put0 eI274 hk273 (rng_arr (by decide) _) rfl (xF_arr (by decide) _) (by decide)
                have hF274 := hF3.put eI274 hk273 (inS_arr rfl _)
                obtain ⟨x275_, e275⟩ : ∃ z : Int32, z = x3_4 + Int32.ofInt (1) := ⟨_, rfl⟩
                refine r_iinc hC (j := 6) (v := x275_) (lv' := [(4, .int x275_), (3, .int x272_), (6, .int x268_), (5, .int x244_), (0, .ref a0), (1, .int x1), (2, .int x2)]) dX10_fills_142 rfl (by rw [e275]) (by decide) rfl ?_
                try have t275 : x275_.toInt = x3_4.toInt + (1) := by rw [e275]; exact (ti_add (b := Int32.ofInt (1)) (by show _ ≤ _ + (1 : Int); omega) (by show _ + (1 : Int) ≤ _; omega))
                refine r_goto hC (tgt := 11) dX10_fills_145 (by decide) ?_
                refine r_sub [4, 5, 6, 1, 0] rfl ?_
                exact ih3 ((60 - x275_.toInt).toNat) (by omega) x275_ x272_ I274 hs274 hF274 (by omega) (by omega) rfl
              · refine r_iload_n hC dX10_fills_122 5 rfl ?_
                refine r_iload hC dX10_fills_123 0 rfl ?_
                refine r_iadd hC dX10_fills_125 (fun x276_ e276 => ?_)
                try have t276 : x276_.toInt = x3_3.toInt + x268_.toInt := by rw [e276]; exact ti_add (by omega) (by omega)
                refine r_goto hC (tgt := 133) dX10_fills_126 (by decide) ?_
                refine r_istore_n hC (lv' := [(3, .int x276_), (6, .int x268_), (5, .int x244_), (0, .ref a0), (1, .int x1), (2, .int x2), (4, .int x3_4)]) dX10_fills_133 (by decide) rfl ?_
                refine r_aload_n hC dX10_fills_134 3 rfl ?_
                obtain ⟨a277_, hb277, hk277, hn277⟩ := hs3.row ka0 15 85 60 (by decide) (by decide)
                refine r_getr hC 15 (ci := 10) rfl u10_in (by decide) mT_5_10 dX10_fills_135 ka0 rfl rfl hb277 ?_
                refine r_iload hC dX10_fills_138 6 rfl ?_
                refine r_iload_n hC dX10_fills_140 0 rfl ?_
                refine x_iastore hC hk277 hn277 (by decide) rfl rfl dX10_fills_141 (by omega) (by omega) (fun I278 eI278 => ?_)
                have hs278 := hs3.put0 eI278 hk277 (rng_arr (by decide) _) rfl (xF_arr (by decide) _) (by decide)
                have hF278 := hF3.put eI278 hk277 (inS_arr rfl _)
                obtain ⟨x279_, e279⟩ : ∃ z : Int32, z = x3_4 + Int32.ofInt (1) := ⟨_, rfl⟩
                refine r_iinc hC (j := 6) (v := x279_) (lv' := [(4, .int x279_), (3, .int x276_), (6, .int x268_), (5, .int x244_), (0, .ref a0), (1, .int x1), (2, .int x2)]) dX10_fills_142 rfl (by rw [e279]) (by decide) rfl ?_
                try have t279 : x279_.toInt = x3_4.toInt + (1) := by rw [e279]; exact (ti_add (b := Int32.ofInt (1)) (by show _ ≤ _ + (1 : Int); omega) (by show _ + (1 : Int) ≤ _; omega))
                refine r_goto hC (tgt := 11) dX10_fills_145 (by decide) ?_
                refine r_sub [4, 5, 6, 1, 0] rfl ?_
                exact ih3 ((60 - x279_.toInt).toNat) (by omega) x279_ x276_ I278 hs278 hF278 (by omega) (by omega) rfl
            · refine r_aload_n hC dX10_fills_102 2 rfl ?_
              refine r_getr hC 3 (ci := 10) rfl u10_in (by decide) mT_4_238 dX10_fills_103 ka0 rfl rfl hbm ?_
              refine r_getiN hC 1 (ci := 9) rfl u9_in (by decide) nF_1 dX10_fills_106 khm rfl rfl (fun x280_ e280 => ?_)
              have w280 : x280_ = x269_ := by rw [e280]; exact e269.symm
              have wt280 : x280_.toInt = x269_.toInt := by rw [w280]
              refine r_goto hC (tgt := 114) dX10_fills_109 (by decide) ?_
              refine r_istore hC (lv' := [(6, .int x280_), (5, .int x244_), (0, .ref a0), (1, .int x1), (2, .int x2), (3, .int x3_3), (4, .int x3_4)]) dX10_fills_114 (by decide) rfl ?_
              refine r_iload hC dX10_fills_116 1 rfl ?_
              refine r_iload_n hC dX10_fills_118 5 rfl ?_
              refine r_icmp_le hC (tgt := 129) dX10_fills_119 (by decide) (fun c281 => ?_) (fun c281 => ?_)
              · refine r_iload_n hC dX10_fills_129 5 rfl ?_
                refine r_iload hC dX10_fills_130 0 rfl ?_
                refine r_isub hC dX10_fills_132 (fun x282_ e282 => ?_)
                try have t282 : x282_.toInt = x3_3.toInt - x280_.toInt := by rw [e282]; exact ti_sub (by omega) (by omega)
                refine r_istore_n hC (lv' := [(3, .int x282_), (6, .int x280_), (5, .int x244_), (0, .ref a0), (1, .int x1), (2, .int x2), (4, .int x3_4)]) dX10_fills_133 (by decide) rfl ?_
                refine r_aload_n hC dX10_fills_134 3 rfl ?_
                obtain ⟨a283_, hb283, hk283, hn283⟩ := hs3.row ka0 15 85 60 (by decide) (by decide)
                refine r_getr hC 15 (ci := 10) rfl u10_in (by decide) mT_5_10 dX10_fills_135 ka0 rfl rfl hb283 ?_
                refine r_iload hC dX10_fills_138 6 rfl ?_
                refine r_iload_n hC dX10_fills_140 0 rfl ?_
                refine x_iastore hC hk283 hn283 (by decide) rfl rfl dX10_fills_141 (by omega) (by omega) (fun I284 eI284 => ?_)
                have hs284 := hs3.put0 eI284 hk283 (rng_arr (by decide) _) rfl (xF_arr (by decide) _) (by decide)
                have hF284 := hF3.put eI284 hk283 (inS_arr rfl _)
                obtain ⟨x285_, e285⟩ : ∃ z : Int32, z = x3_4 + Int32.ofInt (1) := ⟨_, rfl⟩
                refine r_iinc hC (j := 6) (v := x285_) (lv' := [(4, .int x285_), (3, .int x282_), (6, .int x280_), (5, .int x244_), (0, .ref a0), (1, .int x1), (2, .int x2)]) dX10_fills_142 rfl (by rw [e285]) (by decide) rfl ?_
                try have t285 : x285_.toInt = x3_4.toInt + (1) := by rw [e285]; exact (ti_add (b := Int32.ofInt (1)) (by show _ ≤ _ + (1 : Int); omega) (by show _ + (1 : Int) ≤ _; omega))
                refine r_goto hC (tgt := 11) dX10_fills_145 (by decide) ?_
                refine r_sub [4, 5, 6, 1, 0] rfl ?_
                exact ih3 ((60 - x285_.toInt).toNat) (by omega) x285_ x282_ I284 hs284 hF284 (by omega) (by omega) rfl
              · refine r_iload_n hC dX10_fills_122 5 rfl ?_
                refine r_iload hC dX10_fills_123 0 rfl ?_
                refine r_iadd hC dX10_fills_125 (fun x286_ e286 => ?_)
                try have t286 : x286_.toInt = x3_3.toInt + x280_.toInt := by rw [e286]; exact ti_add (by omega) (by omega)
                refine r_goto hC (tgt := 133) dX10_fills_126 (by decide) ?_
                refine r_istore_n hC (lv' := [(3, .int x286_), (6, .int x280_), (5, .int x244_), (0, .ref a0), (1, .int x1), (2, .int x2), (4, .int x3_4)]) dX10_fills_133 (by decide) rfl ?_
                refine r_aload_n hC dX10_fills_134 3 rfl ?_
                obtain ⟨a287_, hb287, hk287, hn287⟩ := hs3.row ka0 15 85 60 (by decide) (by decide)
                refine r_getr hC 15 (ci := 10) rfl u10_in (by decide) mT_5_10 dX10_fills_135 ka0 rfl rfl hb287 ?_
                refine r_iload hC dX10_fills_138 6 rfl ?_
                refine r_iload_n hC dX10_fills_140 0 rfl ?_
                refine x_iastore hC hk287 hn287 (by decide) rfl rfl dX10_fills_141 (by omega) (by omega) (fun I288 eI288 => ?_)
                have hs288 := hs3.put0 eI288 hk287 (rng_arr (by decide) _) rfl (xF_arr (by decide) _) (by decide)
                have hF288 := hF3.put eI288 hk287 (inS_arr rfl _)
                obtain ⟨x289_, e289⟩ : ∃ z : Int32, z = x3_4 + Int32.ofInt (1) := ⟨_, rfl⟩
                refine r_iinc hC (j := 6) (v := x289_) (lv' := [(4, .int x289_), (3, .int x286_), (6, .int x280_), (5, .int x244_), (0, .ref a0), (1, .int x1), (2, .int x2)]) dX10_fills_142 rfl (by rw [e289]) (by decide) rfl ?_
                try have t289 : x289_.toInt = x3_4.toInt + (1) := by rw [e289]; exact (ti_add (b := Int32.ofInt (1)) (by show _ ≤ _ + (1 : Int); omega) (by show _ + (1 : Int) ≤ _; omega))
                refine r_goto hC (tgt := 11) dX10_fills_145 (by decide) ?_
                refine r_sub [4, 5, 6, 1, 0] rfl ?_
                exact ih3 ((60 - x289_.toInt).toNat) (by omega) x289_ x286_ I288 hs288 hF288 (by omega) (by omega) rfl
  refine r_sub [2, 3, 4, 1, 0] rfl ?_
  exact LP3 _ x2_ x1_ I hs hF (by omega) (by omega) rfl
set_option maxHeartbeats 4000000 in
set_option maxRecDepth 100000 in
theorem c_X10_levelAt (g : GG) (l : Launch) (K len : Nat → Nat) (I : Nat → Nat → Int32) (J : Nat → Nat → Int64) (R : Nat → Nat → Option Nat) (hs : Sf K len I R) (a0 : Nat) (ka0 : K a0 = 11) (x1 : Int32) (hm : Nat) (hbm : R a0 3 = some hm) (khm : K hm = 10) (p0 : x1.toInt ≤ 59) : Ct g l yX10_levelAt cX10_levelAt 2 (Option.some Jvm.ClassFile.FieldType.int) rmX10_levelAt [.ref a0, .int x1] (K, len, I, J, R) (pI0 (K, len, I, J, R) (fun r => True)) := by
  refine Ct_intro (by decide +kernel) (Nat.le_of_ble_eq_true rfl) (fun X hC hL hKK hNm hr hlk hQ => ?_)
  subst hL
  have hC : Cx g X cX10_levelAt "HillTapModel" 2 rmX10_levelAt := hC
  show P g X 2 0 [(0, .ref a0), (1, .int x1)] [] 0 0 (K, len, I, J, R)
  have hF : Fr K [] I I := Fr.refl
  have b_x1 := ti_rng x1
  refine r_iload_n hC dX10_levelAt_0 1 rfl ?_
  refine r_if_ge hC (tgt := 14) dX10_levelAt_1 (by decide) (fun c1 => ?_) (fun c1 => ?_)
  · refine r_aload_n hC dX10_levelAt_14 0 rfl ?_
    obtain ⟨a2_, hb2, hk2, hn2⟩ := hs.row ka0 15 85 60 (by decide) (by decide)
    refine r_getr hC 15 (ci := 10) rfl u10_in (by decide) mT_5_10 dX10_levelAt_15 ka0 rfl rfl hb2 ?_
    refine r_iload_n hC dX10_levelAt_18 1 rfl ?_
    refine x_iaload hC hk2 hn2 (by decide) rfl rfl dX10_levelAt_19 (by omega) (by omega) (fun x3_ e3 => ?_)
    exact r_iret hC hQ hlk hr rfl (by decide) (by decide) dX10_levelAt_20 ⟨_, rfl, rfl, trivial⟩
  · refine r_aload_n hC dX10_levelAt_4 0 rfl ?_
    refine r_getr hC 3 (ci := 10) rfl u10_in (by decide) mT_4_238 dX10_levelAt_5 ka0 rfl rfl hbm ?_
    refine r_getiN hC 0 (ci := 9) rfl u9_in (by decide) nF_0 dX10_levelAt_8 khm rfl rfl (fun x4_ e4 => ?_)
    have f4 : x4_.toInt = (I hm 0).toInt := by rw [e4]
    refine r_goto hC (tgt := 20) dX10_levelAt_11 (by decide) ?_
    exact r_iret hC hQ hlk hr rfl (by decide) (by decide) dX10_levelAt_20 ⟨_, rfl, rfl, trivial⟩
set_option maxHeartbeats 4000000 in
set_option maxRecDepth 100000 in
theorem c_X10_isDay (g : GG) (l : Launch) (K len : Nat → Nat) (I : Nat → Nat → Int32) (J : Nat → Nat → Int64) (R : Nat → Nat → Option Nat) (hs : Sf K len I R) (a0 : Nat) (ka0 : K a0 = 11) (x1 : Int32) : Ct g l yX10_isDay cX10_isDay 2 (Option.some Jvm.ClassFile.FieldType.boolean) rmX10_isDay [.ref a0, .int x1] (K, len, I, J, R) (pI0 (K, len, I, J, R) (fun r => (0 ≤ r.toInt) ∧ (r.toInt ≤ 1) ∧ (r.toInt ≠ 0 → R a0 3 ≠ none) ∧ (r.toInt ≠ 0 → 0 ≤ x1.toInt ∧ x1.toInt ≤ 59))) := by
  refine Ct_intro (by decide +kernel) (Nat.le_of_ble_eq_true rfl) (fun X hC hL hKK hNm hr hlk hQ => ?_)
  subst hL
  have hC : Cx g X cX10_isDay "HillTapModel" 2 rmX10_isDay := hC
  show P g X 2 0 [(0, .ref a0), (1, .int x1)] [] 0 0 (K, len, I, J, R)
  have hF : Fr K [] I I := Fr.refl
  have b_x1 := ti_rng x1
  refine r_aload_n hC dX10_isDay_0 0 rfl ?_
  rcases hs.2.1.2.2.1 a0 ka0 with hz1 | ⟨a1_, hb1, hk1⟩
  · refine r_getz hC 3 (ci := 10) rfl u10_in (by decide) mT_4_238 dX10_isDay_1 ka0 rfl rfl hz1 ?_
    refine r_ifnullN hC (tgt := 21) dX10_isDay_4 (by decide) ?_
    refine r_iconst hC (v := (0)) dX10_isDay_21 (by decide) (by decide) (fun x2_ e2 t2 => ?_)
    exact r_iret hC hQ hlk hr (by rw [e2]; rfl) (by decide) (by decide) dX10_isDay_22 ⟨_, rfl, rfl, ⟨(by omega), (by omega), (by first | (intro h9; exfalso; omega) | (intro h9; simp [hz1])), (by omega)⟩⟩
  · refine r_getr hC 3 (ci := 10) rfl u10_in (by decide) mT_4_238 dX10_isDay_1 ka0 rfl rfl hb1 ?_
    refine r_ifnull hC dX10_isDay_4 ?_
    refine r_iload_n hC dX10_isDay_7 1 rfl ?_
    refine r_if_lt hC (tgt := 21) dX10_isDay_8 (by decide) (fun c3 => ?_) (fun c3 => ?_)
    · refine r_iconst hC (v := (0)) dX10_isDay_21 (by decide) (by decide) (fun x4_ e4 t4 => ?_)
      exact r_iret hC hQ hlk hr (by rw [e4]; rfl) (by decide) (by decide) dX10_isDay_22 ⟨_, rfl, rfl, ⟨(by omega), (by omega), (by first | (intro h9; exfalso; omega) | (intro h9; simp [hb1])), (by omega)⟩⟩
    · refine r_iload_n hC dX10_isDay_11 1 rfl ?_
      refine r_bipush hC (v := (60)) dX10_isDay_12 (by decide) (by decide) (fun x5_ e5 t5 => ?_)
      refine r_icmp_ge hC (tgt := 21) dX10_isDay_14 (by decide) (fun c6 => ?_) (fun c6 => ?_)
      · refine r_iconst hC (v := (0)) dX10_isDay_21 (by decide) (by decide) (fun x7_ e7 t7 => ?_)
        exact r_iret hC hQ hlk hr (by rw [e7]; rfl) (by decide) (by decide) dX10_isDay_22 ⟨_, rfl, rfl, ⟨(by omega), (by omega), (by first | (intro h9; exfalso; omega) | (intro h9; simp [hb1])), (by omega)⟩⟩
      · refine r_iconst hC (v := (1)) dX10_isDay_17 (by decide) (by decide) (fun x8_ e8 t8 => ?_)
        refine r_goto hC (tgt := 22) dX10_isDay_18 (by decide) ?_
        exact r_iret hC hQ hlk hr (by rw [e8]; rfl) (by decide) (by decide) dX10_isDay_22 ⟨_, rfl, rfl, ⟨(by omega), (by omega), (by first | (intro h9; exfalso; omega) | (intro h9; simp [hb1])), (by omega)⟩⟩
set_option maxHeartbeats 4000000 in
set_option maxRecDepth 100000 in
theorem c_X10_isPeg (g : GG) (l : Launch) (K len : Nat → Nat) (I : Nat → Nat → Int32) (J : Nat → Nat → Int64) (R : Nat → Nat → Option Nat) (hs : Sf K len I R) (a0 : Nat) (ka0 : K a0 = 11) (x1 : Int32) : Ct g l yX10_isPeg cX10_isPeg 2 (Option.some Jvm.ClassFile.FieldType.boolean) rmX10_isPeg [.ref a0, .int x1] (K, len, I, J, R) (pI0 (K, len, I, J, R) (fun r => (0 ≤ r.toInt) ∧ (r.toInt ≤ 1) ∧ (r.toInt ≠ 0 → R a0 3 ≠ none) ∧ (r.toInt ≠ 0 → 0 ≤ x1.toInt ∧ x1.toInt ≤ 4))) := by
  refine Ct_intro (by decide +kernel) (Nat.le_of_ble_eq_true rfl) (fun X hC hL hKK hNm hr hlk hQ => ?_)
  subst hL
  have hC : Cx g X cX10_isPeg "HillTapModel" 2 rmX10_isPeg := hC
  show P g X 2 0 [(0, .ref a0), (1, .int x1)] [] 0 0 (K, len, I, J, R)
  have hF : Fr K [] I I := Fr.refl
  have b_x1 := ti_rng x1
  refine r_aload_n hC dX10_isPeg_0 0 rfl ?_
  rcases hs.2.1.2.2.1 a0 ka0 with hz1 | ⟨a1_, hb1, hk1⟩
  · refine r_getz hC 3 (ci := 10) rfl u10_in (by decide) mT_4_238 dX10_isPeg_1 ka0 rfl rfl hz1 ?_
    refine r_ifnullN hC (tgt := 26) dX10_isPeg_4 (by decide) ?_
    refine r_iconst hC (v := (0)) dX10_isPeg_26 (by decide) (by decide) (fun x2_ e2 t2 => ?_)
    exact r_iret hC hQ hlk hr (by rw [e2]; rfl) (by decide) (by decide) dX10_isPeg_27 ⟨_, rfl, rfl, ⟨(by omega), (by omega), (by first | (intro h9; exfalso; omega) | (intro h9; simp [hz1])), (by omega)⟩⟩
  · refine r_getr hC 3 (ci := 10) rfl u10_in (by decide) mT_4_238 dX10_isPeg_1 ka0 rfl rfl hb1 ?_
    refine r_ifnull hC dX10_isPeg_4 ?_
    refine r_iload_n hC dX10_isPeg_7 1 rfl ?_
    refine r_if_lt hC (tgt := 26) dX10_isPeg_8 (by decide) (fun c3 => ?_) (fun c3 => ?_)
    · refine r_iconst hC (v := (0)) dX10_isPeg_26 (by decide) (by decide) (fun x4_ e4 t4 => ?_)
      exact r_iret hC hQ hlk hr (by rw [e4]; rfl) (by decide) (by decide) dX10_isPeg_27 ⟨_, rfl, rfl, ⟨(by omega), (by omega), (by first | (intro h9; exfalso; omega) | (intro h9; simp [hb1])), (by omega)⟩⟩
    · refine r_iload_n hC dX10_isPeg_11 1 rfl ?_
      refine r_aload_n hC dX10_isPeg_12 0 rfl ?_
      refine r_getr hC 3 (ci := 10) rfl u10_in (by decide) mT_4_238 dX10_isPeg_13 ka0 rfl rfl hb1 ?_
      refine r_getiN hC 3 (ci := 9) rfl u9_in (by decide) nF_3 dX10_isPeg_16 hk1 rfl rfl (fun x5_ e5 => ?_)
      have r5 := hs.rng hk1 rfl e5
      have f5 : x5_.toInt = (I a1_ 3).toInt := by rw [e5]
      refine r_icmp_ge hC (tgt := 26) dX10_isPeg_19 (by decide) (fun c6 => ?_) (fun c6 => ?_)
      · refine r_iconst hC (v := (0)) dX10_isPeg_26 (by decide) (by decide) (fun x7_ e7 t7 => ?_)
        exact r_iret hC hQ hlk hr (by rw [e7]; rfl) (by decide) (by decide) dX10_isPeg_27 ⟨_, rfl, rfl, ⟨(by omega), (by omega), (by first | (intro h9; exfalso; omega) | (intro h9; simp [hb1])), (by omega)⟩⟩
      · refine r_iconst hC (v := (1)) dX10_isPeg_22 (by decide) (by decide) (fun x8_ e8 t8 => ?_)
        refine r_goto hC (tgt := 27) dX10_isPeg_23 (by decide) ?_
        exact r_iret hC hQ hlk hr (by rw [e8]; rfl) (by decide) (by decide) dX10_isPeg_27 ⟨_, rfl, rfl, ⟨(by omega), (by omega), (by first | (intro h9; exfalso; omega) | (intro h9; simp [hb1])), (by omega)⟩⟩
set_option maxHeartbeats 4000000 in
set_option maxRecDepth 100000 in
theorem c_X10_isVillage (g : GG) (l : Launch) (K len : Nat → Nat) (I : Nat → Nat → Int32) (J : Nat → Nat → Int64) (R : Nat → Nat → Option Nat) (hs : Sf K len I R) (a0 : Nat) (ka0 : K a0 = 11) (x1 : Int32) : Ct g l yX10_isVillage cX10_isVillage 2 (Option.some Jvm.ClassFile.FieldType.boolean) rmX10_isVillage [.ref a0, .int x1] (K, len, I, J, R) (pI0 (K, len, I, J, R) (fun r => (0 ≤ r.toInt) ∧ (r.toInt ≤ 1) ∧ (r.toInt ≠ 0 → R a0 3 ≠ none) ∧ (r.toInt ≠ 0 → 0 ≤ x1.toInt ∧ x1.toInt ≤ 3))) := by
  refine Ct_intro (by decide +kernel) (Nat.le_of_ble_eq_true rfl) (fun X hC hL hKK hNm hr hlk hQ => ?_)
  subst hL
  have hC : Cx g X cX10_isVillage "HillTapModel" 2 rmX10_isVillage := hC
  show P g X 2 0 [(0, .ref a0), (1, .int x1)] [] 0 0 (K, len, I, J, R)
  have hF : Fr K [] I I := Fr.refl
  have b_x1 := ti_rng x1
  refine r_aload_n hC dX10_isVillage_0 0 rfl ?_
  rcases hs.2.1.2.2.1 a0 ka0 with hz1 | ⟨a1_, hb1, hk1⟩
  · refine r_getz hC 3 (ci := 10) rfl u10_in (by decide) mT_4_238 dX10_isVillage_1 ka0 rfl rfl hz1 ?_
    refine r_ifnullN hC (tgt := 26) dX10_isVillage_4 (by decide) ?_
    refine r_iconst hC (v := (0)) dX10_isVillage_26 (by decide) (by decide) (fun x2_ e2 t2 => ?_)
    exact r_iret hC hQ hlk hr (by rw [e2]; rfl) (by decide) (by decide) dX10_isVillage_27 ⟨_, rfl, rfl, ⟨(by omega), (by omega), (by first | (intro h9; exfalso; omega) | (intro h9; simp [hz1])), (by omega)⟩⟩
  · refine r_getr hC 3 (ci := 10) rfl u10_in (by decide) mT_4_238 dX10_isVillage_1 ka0 rfl rfl hb1 ?_
    refine r_ifnull hC dX10_isVillage_4 ?_
    refine r_iload_n hC dX10_isVillage_7 1 rfl ?_
    refine r_if_lt hC (tgt := 26) dX10_isVillage_8 (by decide) (fun c3 => ?_) (fun c3 => ?_)
    · refine r_iconst hC (v := (0)) dX10_isVillage_26 (by decide) (by decide) (fun x4_ e4 t4 => ?_)
      exact r_iret hC hQ hlk hr (by rw [e4]; rfl) (by decide) (by decide) dX10_isVillage_27 ⟨_, rfl, rfl, ⟨(by omega), (by omega), (by first | (intro h9; exfalso; omega) | (intro h9; simp [hb1])), (by omega)⟩⟩
    · refine r_iload_n hC dX10_isVillage_11 1 rfl ?_
      refine r_aload_n hC dX10_isVillage_12 0 rfl ?_
      refine r_getr hC 3 (ci := 10) rfl u10_in (by decide) mT_4_238 dX10_isVillage_13 ka0 rfl rfl hb1 ?_
      refine r_getiN hC 8 (ci := 9) rfl u9_in (by decide) nF_8 dX10_isVillage_16 hk1 rfl rfl (fun x5_ e5 => ?_)
      have r5 := hs.rng hk1 rfl e5
      have f5 : x5_.toInt = (I a1_ 8).toInt := by rw [e5]
      refine r_icmp_ge hC (tgt := 26) dX10_isVillage_19 (by decide) (fun c6 => ?_) (fun c6 => ?_)
      · refine r_iconst hC (v := (0)) dX10_isVillage_26 (by decide) (by decide) (fun x7_ e7 t7 => ?_)
        exact r_iret hC hQ hlk hr (by rw [e7]; rfl) (by decide) (by decide) dX10_isVillage_27 ⟨_, rfl, rfl, ⟨(by omega), (by omega), (by first | (intro h9; exfalso; omega) | (intro h9; simp [hb1])), (by omega)⟩⟩
      · refine r_iconst hC (v := (1)) dX10_isVillage_22 (by decide) (by decide) (fun x8_ e8 t8 => ?_)
        refine r_goto hC (tgt := 27) dX10_isVillage_23 (by decide) ?_
        exact r_iret hC hQ hlk hr (by rw [e8]; rfl) (by decide) (by decide) dX10_isVillage_27 ⟨_, rfl, rfl, ⟨(by omega), (by omega), (by first | (intro h9; exfalso; omega) | (intro h9; simp [hb1])), (by omega)⟩⟩
set_option maxHeartbeats 4000000 in
set_option maxRecDepth 100000 in
theorem c_X10_isStory (g : GG) (l : Launch) (K len : Nat → Nat) (I : Nat → Nat → Int32) (J : Nat → Nat → Int64) (R : Nat → Nat → Option Nat) (hs : Sf K len I R) (a0 : Nat) (ka0 : K a0 = 11) (x1 : Int32) : Ct g l yX10_isStory cX10_isStory 2 (Option.some Jvm.ClassFile.FieldType.boolean) rmX10_isStory [.ref a0, .int x1] (K, len, I, J, R) (pI0 (K, len, I, J, R) (fun r => (0 ≤ r.toInt) ∧ (r.toInt ≤ 1) ∧ (r.toInt ≠ 0 → R a0 3 ≠ none) ∧ (r.toInt ≠ 0 → 0 ≤ x1.toInt ∧ x1.toInt ≤ 5) ∧ (r.toInt ≠ 0 → ∀ b, R a0 3 = some b → x1.toInt < (I b 7).toInt))) := by
  refine Ct_intro (by decide +kernel) (Nat.le_of_ble_eq_true rfl) (fun X hC hL hKK hNm hr hlk hQ => ?_)
  subst hL
  have hC : Cx g X cX10_isStory "HillTapModel" 2 rmX10_isStory := hC
  show P g X 2 0 [(0, .ref a0), (1, .int x1)] [] 0 0 (K, len, I, J, R)
  have hF : Fr K [] I I := Fr.refl
  have b_x1 := ti_rng x1
  refine r_aload_n hC dX10_isStory_0 0 rfl ?_
  rcases hs.2.1.2.2.1 a0 ka0 with hz1 | ⟨a1_, hb1, hk1⟩
  · refine r_getz hC 3 (ci := 10) rfl u10_in (by decide) mT_4_238 dX10_isStory_1 ka0 rfl rfl hz1 ?_
    refine r_ifnullN hC (tgt := 26) dX10_isStory_4 (by decide) ?_
    refine r_iconst hC (v := (0)) dX10_isStory_26 (by decide) (by decide) (fun x2_ e2 t2 => ?_)
    exact r_iret hC hQ hlk hr (by rw [e2]; rfl) (by decide) (by decide) dX10_isStory_27 ⟨_, rfl, rfl, ⟨(by omega), (by omega), (by first | (intro h9; exfalso; omega) | (intro h9; simp [hz1])), (by omega), (by first | (intro h9; exfalso; omega) | (intro h9 b hb9; rw [hz1] at hb9; cases hb9; omega))⟩⟩
  · refine r_getr hC 3 (ci := 10) rfl u10_in (by decide) mT_4_238 dX10_isStory_1 ka0 rfl rfl hb1 ?_
    refine r_ifnull hC dX10_isStory_4 ?_
    refine r_iload_n hC dX10_isStory_7 1 rfl ?_
    refine r_if_lt hC (tgt := 26) dX10_isStory_8 (by decide) (fun c3 => ?_) (fun c3 => ?_)
    · refine r_iconst hC (v := (0)) dX10_isStory_26 (by decide) (by decide) (fun x4_ e4 t4 => ?_)
      exact r_iret hC hQ hlk hr (by rw [e4]; rfl) (by decide) (by decide) dX10_isStory_27 ⟨_, rfl, rfl, ⟨(by omega), (by omega), (by first | (intro h9; exfalso; omega) | (intro h9; simp [hb1])), (by omega), (by first | (intro h9; exfalso; omega) | (intro h9 b hb9; rw [hb1] at hb9; cases hb9; omega))⟩⟩
    · refine r_iload_n hC dX10_isStory_11 1 rfl ?_
      refine r_aload_n hC dX10_isStory_12 0 rfl ?_
      refine r_getr hC 3 (ci := 10) rfl u10_in (by decide) mT_4_238 dX10_isStory_13 ka0 rfl rfl hb1 ?_
      refine r_getiN hC 7 (ci := 9) rfl u9_in (by decide) nF_7 dX10_isStory_16 hk1 rfl rfl (fun x5_ e5 => ?_)
      have r5 := hs.rng hk1 rfl e5
      have f5 : x5_.toInt = (I a1_ 7).toInt := by rw [e5]
      refine r_icmp_ge hC (tgt := 26) dX10_isStory_19 (by decide) (fun c6 => ?_) (fun c6 => ?_)
      · refine r_iconst hC (v := (0)) dX10_isStory_26 (by decide) (by decide) (fun x7_ e7 t7 => ?_)
        exact r_iret hC hQ hlk hr (by rw [e7]; rfl) (by decide) (by decide) dX10_isStory_27 ⟨_, rfl, rfl, ⟨(by omega), (by omega), (by first | (intro h9; exfalso; omega) | (intro h9; simp [hb1])), (by omega), (by first | (intro h9; exfalso; omega) | (intro h9 b hb9; rw [hb1] at hb9; cases hb9; omega))⟩⟩
      · refine r_iconst hC (v := (1)) dX10_isStory_22 (by decide) (by decide) (fun x8_ e8 t8 => ?_)
        refine r_goto hC (tgt := 27) dX10_isStory_23 (by decide) ?_
        exact r_iret hC hQ hlk hr (by rw [e8]; rfl) (by decide) (by decide) dX10_isStory_27 ⟨_, rfl, rfl, ⟨(by omega), (by omega), (by first | (intro h9; exfalso; omega) | (intro h9; simp [hb1])), (by omega), (by first | (intro h9; exfalso; omega) | (intro h9 b hb9; rw [hb1] at hb9; cases hb9; omega))⟩⟩
set_option maxHeartbeats 4000000 in
set_option maxRecDepth 100000 in
theorem c_X10_isLine (g : GG) (l : Launch) (K len : Nat → Nat) (I : Nat → Nat → Int32) (J : Nat → Nat → Int64) (R : Nat → Nat → Option Nat) (hs : Sf K len I R) (a0 : Nat) (ka0 : K a0 = 11) (x1 : Int32) (x2 : Int32) (x3 : Int32) : Ct g l yX10_isLine cX10_isLine 4 (Option.some Jvm.ClassFile.FieldType.boolean) rmX10_isLine [.ref a0, .int x1, .int x2, .int x3] (K, len, I, J, R) (pI0 (K, len, I, J, R) (fun r => (0 ≤ r.toInt) ∧ (r.toInt ≤ 1) ∧ (r.toInt ≠ 0 → R a0 3 ≠ none) ∧ (r.toInt ≠ 0 → 0 ≤ x1.toInt ∧ x1.toInt ≤ 5 ∧ 0 ≤ x2.toInt ∧ x2.toInt ≤ 4 ∧ 0 ≤ x3.toInt ∧ x3.toInt ≤ 58) ∧ (r.toInt ≠ 0 → ∀ b, R a0 3 = some b → x1.toInt < (I b 7).toInt))) := by
  refine Ct_intro (by decide +kernel) (Nat.le_of_ble_eq_true rfl) (fun X hC hL hKK hNm hr hlk hQ => ?_)
  subst hL
  have hC : Cx g X cX10_isLine "HillTapModel" 4 rmX10_isLine := hC
  show P g X 4 0 [(0, .ref a0), (1, .int x1), (2, .int x2), (3, .int x3)] [] 0 0 (K, len, I, J, R)
  have hF : Fr K [] I I := Fr.refl
  have b_x1 := ti_rng x1
  have b_x2 := ti_rng x2
  have b_x3 := ti_rng x3
  rcases hs.2.1.2.2.1 a0 ka0 with hz | ⟨hm, hbm, khm⟩
  · refine r_aload_n hC dX10_isLine_0 0 rfl ?_
    refine r_iload_n hC dX10_isLine_1 1 rfl ?_
    refine r_callV hC (As := [.int x1]) (rest := []) (ci := 10) (c_X10_isStory g (xL X) K len I J R hs a0 ka0 x1) mT_6_119 mT_1_10 mT_6_116 mT_6_118 mP_71 okX10_isStory ⟨by decide, by decide⟩ rfl (by show kO (K a0) = _; rw [ka0]; rfl) rfl rfl (Nat.le_of_ble_eq_true rfl) ⟨by decide, by decide⟩ dX10_isLine_2 (aI0 (F := fun st M => P g X 4 5 [(0, .ref a0), (1, .int x1), (2, .int x2), (3, .int x3)] st _ _ M) (M := (K, len, I, J, R)) fun x1_ h1 => ?_)
    obtain ⟨k1_0, k1_1, k1_2, k1_3, k1_4⟩ := h1
    show P g X 4 5 [(0, .ref a0), (1, .int x1), (2, .int x2), (3, .int x3)] [.int x1_] _ _ (K, len, I, J, R)
    refine r_if_eq hC (tgt := 30) dX10_isLine_5 (by decide) (fun c2 => ?_) (fun c2 => ?_)
    · refine r_iconst hC (v := (0)) dX10_isLine_30 (by decide) (by decide) (fun x3_ e3 t3 => ?_)
      exact r_iret hC hQ hlk hr (by rw [e3]; rfl) (by decide) (by decide) dX10_isLine_31 ⟨_, rfl, rfl, ⟨(by omega), (by omega), (by first | (intro h9; exfalso; omega) | (intro h9; exfalso; first | exact absurd hz (k1_2 (by omega))) | (intro h9; simp [hbm])), (by omega), (by first | (intro h9; exfalso; omega) | (intro h9; exfalso; first | exact absurd hz (k1_2 (by omega))) | (intro h9 b hb9; rw [hbm] at hb9; cases hb9; omega))⟩⟩
    · refine r_aload_n hC dX10_isLine_8 0 rfl ?_
      refine r_iload_n hC dX10_isLine_9 2 rfl ?_
      refine r_callV hC (As := [.int x2]) (rest := []) (ci := 10) (c_X10_isPeg g (xL X) K len I J R hs a0 ka0 x2) mT_6_123 mT_1_10 mT_6_120 mT_6_122 mP_72 okX10_isPeg ⟨by decide, by decide⟩ rfl (by show kO (K a0) = _; rw [ka0]; rfl) rfl rfl (Nat.le_of_ble_eq_true rfl) ⟨by decide, by decide⟩ dX10_isLine_10 (aI0 (F := fun st M => P g X 4 13 [(0, .ref a0), (1, .int x1), (2, .int x2), (3, .int x3)] st _ _ M) (M := (K, len, I, J, R)) fun x4_ h4 => ?_)
      obtain ⟨k4_0, k4_1, k4_2, k4_3⟩ := h4
      show P g X 4 13 [(0, .ref a0), (1, .int x1), (2, .int x2), (3, .int x3)] [.int x4_] _ _ (K, len, I, J, R)
      refine r_if_eq hC (tgt := 30) dX10_isLine_13 (by decide) (fun c5 => ?_) (fun c5 => ?_)
      · refine r_iconst hC (v := (0)) dX10_isLine_30 (by decide) (by decide) (fun x6_ e6 t6 => ?_)
        exact r_iret hC hQ hlk hr (by rw [e6]; rfl) (by decide) (by decide) dX10_isLine_31 ⟨_, rfl, rfl, ⟨(by omega), (by omega), (by first | (intro h9; exfalso; omega) | (intro h9; exfalso; first | exact absurd hz (k1_2 (by omega)) | exact absurd hz (k4_2 (by omega))) | (intro h9; simp [hbm])), (by omega), (by first | (intro h9; exfalso; omega) | (intro h9; exfalso; first | exact absurd hz (k1_2 (by omega)) | exact absurd hz (k4_2 (by omega))) | (intro h9 b hb9; rw [hbm] at hb9; cases hb9; omega))⟩⟩
      · refine r_iload_n hC dX10_isLine_16 3 rfl ?_
        refine r_if_lt hC (tgt := 30) dX10_isLine_17 (by decide) (fun c7 => ?_) (fun c7 => ?_)
        · refine r_iconst hC (v := (0)) dX10_isLine_30 (by decide) (by decide) (fun x8_ e8 t8 => ?_)
          exact r_iret hC hQ hlk hr (by rw [e8]; rfl) (by decide) (by decide) dX10_isLine_31 ⟨_, rfl, rfl, ⟨(by omega), (by omega), (by first | (intro h9; exfalso; omega) | (intro h9; exfalso; first | exact absurd hz (k1_2 (by omega)) | exact absurd hz (k4_2 (by omega))) | (intro h9; simp [hbm])), (by omega), (by first | (intro h9; exfalso; omega) | (intro h9; exfalso; first | exact absurd hz (k1_2 (by omega)) | exact absurd hz (k4_2 (by omega))) | (intro h9 b hb9; rw [hbm] at hb9; cases hb9; omega))⟩⟩
        · refine r_iload_n hC dX10_isLine_20 3 rfl ?_
          refine r_bipush hC (v := (59)) dX10_isLine_21 (by decide) (by decide) (fun x9_ e9 t9 => ?_)
          refine r_icmp_ge hC (tgt := 30) dX10_isLine_23 (by decide) (fun c10 => ?_) (fun c10 => ?_)
          · refine r_iconst hC (v := (0)) dX10_isLine_30 (by decide) (by decide) (fun x11_ e11 t11 => ?_)
            exact r_iret hC hQ hlk hr (by rw [e11]; rfl) (by decide) (by decide) dX10_isLine_31 ⟨_, rfl, rfl, ⟨(by omega), (by omega), (by first | (intro h9; exfalso; omega) | (intro h9; exfalso; first | exact absurd hz (k1_2 (by omega)) | exact absurd hz (k4_2 (by omega))) | (intro h9; simp [hbm])), (by omega), (by first | (intro h9; exfalso; omega) | (intro h9; exfalso; first | exact absurd hz (k1_2 (by omega)) | exact absurd hz (k4_2 (by omega))) | (intro h9 b hb9; rw [hbm] at hb9; cases hb9; omega))⟩⟩
          · refine r_iconst hC (v := (1)) dX10_isLine_26 (by decide) (by decide) (fun x12_ e12 t12 => ?_)
            refine r_goto hC (tgt := 31) dX10_isLine_27 (by decide) ?_
            exact r_iret hC hQ hlk hr (by rw [e12]; rfl) (by decide) (by decide) dX10_isLine_31 ⟨_, rfl, rfl, ⟨(by omega), (by omega), (by first | (intro h9; exfalso; omega) | (intro h9; exfalso; first | exact absurd hz (k1_2 (by omega)) | exact absurd hz (k4_2 (by omega))) | (intro h9; simp [hbm])), (by omega), (by first | (intro h9; exfalso; omega) | (intro h9; exfalso; first | exact absurd hz (k1_2 (by omega)) | exact absurd hz (k4_2 (by omega))) | (intro h9 b hb9; rw [hbm] at hb9; cases hb9; omega))⟩⟩
  · obtain ⟨S0, eS0⟩ : ∃ z : Int32, z = I hm 7 := ⟨_, rfl⟩
    have fS0 : S0.toInt = (I hm 7).toInt := by rw [eS0]
    have rS0 := hs.rng khm rfl eS0
    refine r_aload_n hC dX10_isLine_0 0 rfl ?_
    refine r_iload_n hC dX10_isLine_1 1 rfl ?_
    refine r_callV hC (As := [.int x1]) (rest := []) (ci := 10) (c_X10_isStory g (xL X) K len I J R hs a0 ka0 x1) mT_6_119 mT_1_10 mT_6_116 mT_6_118 mP_71 okX10_isStory ⟨by decide, by decide⟩ rfl (by show kO (K a0) = _; rw [ka0]; rfl) rfl rfl (Nat.le_of_ble_eq_true rfl) ⟨by decide, by decide⟩ dX10_isLine_2 (aI0 (F := fun st M => P g X 4 5 [(0, .ref a0), (1, .int x1), (2, .int x2), (3, .int x3)] st _ _ M) (M := (K, len, I, J, R)) fun x13_ h13 => ?_)
    obtain ⟨k13_0, k13_1, k13_2, k13_3, k13_4⟩ := h13
    show P g X 4 5 [(0, .ref a0), (1, .int x1), (2, .int x2), (3, .int x3)] [.int x13_] _ _ (K, len, I, J, R)
    have z13 := fun h9 => k13_4 h9 hm hbm
    have vz13 : (I hm 7).toInt = S0.toInt := congrArg Int32.toInt eS0.symm
    refine r_if_eq hC (tgt := 30) dX10_isLine_5 (by decide) (fun c14 => ?_) (fun c14 => ?_)
    · refine r_iconst hC (v := (0)) dX10_isLine_30 (by decide) (by decide) (fun x15_ e15 t15 => ?_)
      exact r_iret hC hQ hlk hr (by rw [e15]; rfl) (by decide) (by decide) dX10_isLine_31 ⟨_, rfl, rfl, ⟨(by omega), (by omega), (by first | (intro h9; exfalso; omega) | (intro h9; exfalso; first | exact absurd hz (k13_2 (by omega))) | (intro h9; simp [hbm])), (by omega), (by first | (intro h9; exfalso; omega) | (intro h9; exfalso; first | exact absurd hz (k13_2 (by omega))) | (intro h9 b hb9; rw [hbm] at hb9; cases hb9; omega))⟩⟩
    · refine r_aload_n hC dX10_isLine_8 0 rfl ?_
      refine r_iload_n hC dX10_isLine_9 2 rfl ?_
      refine r_callV hC (As := [.int x2]) (rest := []) (ci := 10) (c_X10_isPeg g (xL X) K len I J R hs a0 ka0 x2) mT_6_123 mT_1_10 mT_6_120 mT_6_122 mP_72 okX10_isPeg ⟨by decide, by decide⟩ rfl (by show kO (K a0) = _; rw [ka0]; rfl) rfl rfl (Nat.le_of_ble_eq_true rfl) ⟨by decide, by decide⟩ dX10_isLine_10 (aI0 (F := fun st M => P g X 4 13 [(0, .ref a0), (1, .int x1), (2, .int x2), (3, .int x3)] st _ _ M) (M := (K, len, I, J, R)) fun x16_ h16 => ?_)
      obtain ⟨k16_0, k16_1, k16_2, k16_3⟩ := h16
      show P g X 4 13 [(0, .ref a0), (1, .int x1), (2, .int x2), (3, .int x3)] [.int x16_] _ _ (K, len, I, J, R)
      refine r_if_eq hC (tgt := 30) dX10_isLine_13 (by decide) (fun c17 => ?_) (fun c17 => ?_)
      · refine r_iconst hC (v := (0)) dX10_isLine_30 (by decide) (by decide) (fun x18_ e18 t18 => ?_)
        exact r_iret hC hQ hlk hr (by rw [e18]; rfl) (by decide) (by decide) dX10_isLine_31 ⟨_, rfl, rfl, ⟨(by omega), (by omega), (by first | (intro h9; exfalso; omega) | (intro h9; exfalso; first | exact absurd hz (k13_2 (by omega)) | exact absurd hz (k16_2 (by omega))) | (intro h9; simp [hbm])), (by omega), (by first | (intro h9; exfalso; omega) | (intro h9; exfalso; first | exact absurd hz (k13_2 (by omega)) | exact absurd hz (k16_2 (by omega))) | (intro h9 b hb9; rw [hbm] at hb9; cases hb9; omega))⟩⟩
      · refine r_iload_n hC dX10_isLine_16 3 rfl ?_
        refine r_if_lt hC (tgt := 30) dX10_isLine_17 (by decide) (fun c19 => ?_) (fun c19 => ?_)
        · refine r_iconst hC (v := (0)) dX10_isLine_30 (by decide) (by decide) (fun x20_ e20 t20 => ?_)
          exact r_iret hC hQ hlk hr (by rw [e20]; rfl) (by decide) (by decide) dX10_isLine_31 ⟨_, rfl, rfl, ⟨(by omega), (by omega), (by first | (intro h9; exfalso; omega) | (intro h9; exfalso; first | exact absurd hz (k13_2 (by omega)) | exact absurd hz (k16_2 (by omega))) | (intro h9; simp [hbm])), (by omega), (by first | (intro h9; exfalso; omega) | (intro h9; exfalso; first | exact absurd hz (k13_2 (by omega)) | exact absurd hz (k16_2 (by omega))) | (intro h9 b hb9; rw [hbm] at hb9; cases hb9; omega))⟩⟩
        · refine r_iload_n hC dX10_isLine_20 3 rfl ?_
          refine r_bipush hC (v := (59)) dX10_isLine_21 (by decide) (by decide) (fun x21_ e21 t21 => ?_)
          refine r_icmp_ge hC (tgt := 30) dX10_isLine_23 (by decide) (fun c22 => ?_) (fun c22 => ?_)
          · refine r_iconst hC (v := (0)) dX10_isLine_30 (by decide) (by decide) (fun x23_ e23 t23 => ?_)
            exact r_iret hC hQ hlk hr (by rw [e23]; rfl) (by decide) (by decide) dX10_isLine_31 ⟨_, rfl, rfl, ⟨(by omega), (by omega), (by first | (intro h9; exfalso; omega) | (intro h9; exfalso; first | exact absurd hz (k13_2 (by omega)) | exact absurd hz (k16_2 (by omega))) | (intro h9; simp [hbm])), (by omega), (by first | (intro h9; exfalso; omega) | (intro h9; exfalso; first | exact absurd hz (k13_2 (by omega)) | exact absurd hz (k16_2 (by omega))) | (intro h9 b hb9; rw [hbm] at hb9; cases hb9; omega))⟩⟩
          · refine r_iconst hC (v := (1)) dX10_isLine_26 (by decide) (by decide) (fun x24_ e24 t24 => ?_)
            refine r_goto hC (tgt := 31) dX10_isLine_27 (by decide) ?_
            exact r_iret hC hQ hlk hr (by rw [e24]; rfl) (by decide) (by decide) dX10_isLine_31 ⟨_, rfl, rfl, ⟨(by omega), (by omega), (by first | (intro h9; exfalso; omega) | (intro h9; exfalso; first | exact absurd hz (k13_2 (by omega)) | exact absurd hz (k16_2 (by omega))) | (intro h9; simp [hbm])), (by omega), (by first | (intro h9; exfalso; omega) | (intro h9; exfalso; first | exact absurd hz (k13_2 (by omega)) | exact absurd hz (k16_2 (by omega))) | (intro h9 b hb9; rw [hbm] at hb9; cases hb9; omega))⟩⟩
