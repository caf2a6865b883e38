abbrev rmX2_goalOf : Room := { frames := 1, cells := 0, slots := 0, locals := 21 }
abbrev rmX2_towards : Room := { frames := 1, cells := 0, slots := 0, locals := 21 }
abbrev rmX2_fillByPlan : Room := { frames := 2, cells := 0, slots := 0, locals := 45 }
abbrev rmX2_fillSteady : Room := { frames := 2, cells := 0, slots := 0, locals := 43 }
abbrev rmX4_findsAt : Room := { frames := 0, cells := 0, slots := 0, locals := 0 }
abbrev rmX5_add : Room := { frames := 0, cells := 0, slots := 0, locals := 0 }
set_option maxHeartbeats 4000000 in
set_option maxRecDepth 100000 in
theorem c_X2_goalOf (g : GG) (l : Launch) (K len : Nat → Nat) (I : Nat → Nat → Int32) (J : Nat → Nat → Int64) (R : Nat → Nat → Option Nat) (hs : Sf K len I R) (a0 : Nat) (ka0 : K a0 = 3) (x1 : Int32) : Ct g l yX2_goalOf cX2_goalOf 5 (Option.some Jvm.ClassFile.FieldType.int) rmX2_goalOf [.ref a0, .int x1] (K, len, I, J, R) (pI0 (K, len, I, J, R) (fun r => True)) := by
  refine Ct_intro (by decide +kernel) (Nat.le_of_ble_eq_true rfl) (fun X hC hL hKK hNm hr hlk hQ => ?_)
  subst hL
  have hC : Cx g X cX2_goalOf "HillTap$Lake" 5 rmX2_goalOf := hC
  show P g X 5 0 [(0, .ref a0), (1, .int x1)] [] 0 0 (K, len, I, J, R)
  have hF : Fr K [] I I := Fr.refl
  have b_x1 := ti_rng x1
  refine r_iconst hC (v := (0)) dX2_goalOf_0 (by decide) (by decide) (fun x1_ e1 t1 => ?_)
  refine r_istore_n hC (lv' := [(2, .int x1_), (0, .ref a0), (1, .int x1)]) dX2_goalOf_1 (by decide) rfl ?_
  refine r_aload_n hC dX2_goalOf_2 1 rfl ?_
  refine r_geti hC 1 (ci := 2) rfl u2_in (by decide) mT_1_119 dX2_goalOf_3 ka0 rfl rfl (fun x2_ e2 => ?_)
  refine r_istore_n hC (lv' := [(3, .int x2_), (2, .int x1_), (0, .ref a0), (1, .int x1)]) dX2_goalOf_6 (by decide) rfl ?_
  refine r_iconst hC (v := (0)) dX2_goalOf_7 (by decide) (by decide) (fun x3_ e3 t3 => ?_)
  refine r_istore hC (lv' := [(4, .int x3_), (3, .int x2_), (2, .int x1_), (0, .ref a0), (1, .int x1)]) dX2_goalOf_8 (by decide) rfl ?_
  have LP4 : ∀ (mu : Nat) (x4_4 : Int32) (x4_3 : Int32) (x4_2 : Int32) (v4_0 : 0 ≤ x4_4.toInt) (v4_1 : x4_4.toInt ≤ 16), (16 - x4_4.toInt).toNat = mu → P g X 5 10 [(0, .ref a0), (1, .int x1), (2, .int x4_2), (3, .int x4_3), (4, .int x4_4)] [] 0 0 (K, len, I, J, R) := by
    intro mu; induction mu using Nat.strongRecOn with | ind mu ih => ?_
    intro x4_4 x4_3 x4_2 v4_0 v4_1 hmu
    have ih4 := ih
    clear ih
    have hmu4 := hmu
    clear hmu
    refine r_iload hC dX2_goalOf_10 4 rfl ?_
    refine r_aload_n hC dX2_goalOf_12 0 rfl ?_
    refine r_geti hC 4 (ci := 2) rfl u2_in (by decide) mT_1_128 dX2_goalOf_13 ka0 rfl rfl (fun x5_ e5 => ?_)
    have r5 := hs.rng ka0 rfl e5
    have f5 : x5_.toInt = (I a0 4).toInt := by rw [e5]
    refine r_icmp_ge hC (tgt := 63) dX2_goalOf_16 (by decide) (fun c6 => ?_) (fun c6 => ?_)
    · refine r_iload_n hC dX2_goalOf_63 3 rfl ?_
      refine r_aload_n hC dX2_goalOf_64 0 rfl ?_
      refine r_geti hC 3 (ci := 2) rfl u2_in (by decide) mT_1_125 dX2_goalOf_65 ka0 rfl rfl (fun x7_ e7 => ?_)
      refine r_mmin hC mT_3_106 mT_2_154 mT_1_12 mT_2_155 (by decide) (Nat.le_of_ble_eq_true rfl) (Nat.zero_le _) (Nat.zero_le _) dX2_goalOf_68 (fun x8_ e8 t8a t8b t8c => ?_)
      exact r_iret hC hQ hlk hr rfl (by decide) (by decide) dX2_goalOf_71 ⟨_, rfl, rfl, trivial⟩
    · refine r_aload_n hC dX2_goalOf_19 0 rfl ?_
      obtain ⟨a9_, hb9, hk9, hn9⟩ := hs.row ka0 6 63 16 (by decide) (by decide)
      refine r_getr hC 6 (ci := 2) rfl u2_in (by decide) mT_1_133 dX2_goalOf_20 ka0 rfl rfl hb9 ?_
      refine r_iload hC dX2_goalOf_23 4 rfl ?_
      refine x_iaload hC hk9 hn9 (by decide) rfl rfl dX2_goalOf_25 (by omega) (by omega) (fun x10_ e10 => ?_)
      refine r_iload_n hC dX2_goalOf_26 1 rfl ?_
      refine r_icmp_gt hC (tgt := 57) dX2_goalOf_27 (by decide) (fun c11 => ?_) (fun c11 => ?_)
      · obtain ⟨x12_, e12⟩ : ∃ z : Int32, z = x4_4 + Int32.ofInt (1) := ⟨_, rfl⟩
        refine r_iinc hC (j := 4) (v := x12_) (lv' := [(4, .int x12_), (0, .ref a0), (1, .int x1), (2, .int x4_2), (3, .int x4_3)]) dX2_goalOf_57 rfl (by rw [e12]) (by decide) rfl ?_
        try have t12 : x12_.toInt = x4_4.toInt + (1) := by rw [e12]; exact (ti_add (b := Int32.ofInt (1)) (by show _ ≤ _ + (1 : Int); omega) (by show _ + (1 : Int) ≤ _; omega))
        refine r_goto hC (tgt := 10) dX2_goalOf_60 (by decide) ?_
        refine r_sub [1, 2, 3, 4, 0] rfl ?_
        exact ih4 ((16 - x12_.toInt).toNat) (by omega) x12_ x4_3 x4_2 (by omega) (by omega) rfl
      · refine r_aload_n hC dX2_goalOf_30 0 rfl ?_
        refine r_getr hC 6 (ci := 2) rfl u2_in (by decide) mT_1_133 dX2_goalOf_31 ka0 rfl rfl hb9 ?_
        refine r_iload hC dX2_goalOf_34 4 rfl ?_
        refine x_iaload hC hk9 hn9 (by decide) rfl rfl dX2_goalOf_36 (by omega) (by omega) (fun x13_ e13 => ?_)
        refine r_iload_n hC dX2_goalOf_37 2 rfl ?_
        refine r_icmp_lt hC (tgt := 57) dX2_goalOf_38 (by decide) (fun c14 => ?_) (fun c14 => ?_)
        · obtain ⟨x15_, e15⟩ : ∃ z : Int32, z = x4_4 + Int32.ofInt (1) := ⟨_, rfl⟩
          refine r_iinc hC (j := 4) (v := x15_) (lv' := [(4, .int x15_), (0, .ref a0), (1, .int x1), (2, .int x4_2), (3, .int x4_3)]) dX2_goalOf_57 rfl (by rw [e15]) (by decide) rfl ?_
          try have t15 : x15_.toInt = x4_4.toInt + (1) := by rw [e15]; exact (ti_add (b := Int32.ofInt (1)) (by show _ ≤ _ + (1 : Int); omega) (by show _ + (1 : Int) ≤ _; omega))
          refine r_goto hC (tgt := 10) dX2_goalOf_60 (by decide) ?_
          refine r_sub [1, 2, 3, 4, 0] rfl ?_
          exact ih4 ((16 - x15_.toInt).toNat) (by omega) x15_ x4_3 x4_2 (by omega) (by omega) rfl
        · refine r_aload_n hC dX2_goalOf_41 0 rfl ?_
          refine r_getr hC 6 (ci := 2) rfl u2_in (by decide) mT_1_133 dX2_goalOf_42 ka0 rfl rfl hb9 ?_
          refine r_iload hC dX2_goalOf_45 4 rfl ?_
          refine x_iaload hC hk9 hn9 (by decide) rfl rfl dX2_goalOf_47 (by omega) (by omega) (fun x16_ e16 => ?_)
          refine r_istore_n hC (lv' := [(2, .int x16_), (0, .ref a0), (1, .int x1), (3, .int x4_3), (4, .int x4_4)]) dX2_goalOf_48 (by decide) rfl ?_
          refine r_aload_n hC dX2_goalOf_49 1 rfl ?_
          obtain ⟨a17_, hb17, hk17, hn17⟩ := hs.row ka0 7 64 16 (by decide) (by decide)
          refine r_getr hC 7 (ci := 2) rfl u2_in (by decide) mT_1_134 dX2_goalOf_50 ka0 rfl rfl hb17 ?_
          refine r_iload hC dX2_goalOf_53 4 rfl ?_
          refine x_iaload hC hk17 hn17 (by decide) rfl rfl dX2_goalOf_55 (by omega) (by omega) (fun x18_ e18 => ?_)
          refine r_istore_n hC (lv' := [(3, .int x18_), (2, .int x16_), (0, .ref a0), (1, .int x1), (4, .int x4_4)]) dX2_goalOf_56 (by decide) rfl ?_
          obtain ⟨x19_, e19⟩ : ∃ z : Int32, z = x4_4 + Int32.ofInt (1) := ⟨_, rfl⟩
          refine r_iinc hC (j := 4) (v := x19_) (lv' := [(4, .int x19_), (3, .int x18_), (2, .int x16_), (0, .ref a0), (1, .int x1)]) dX2_goalOf_57 rfl (by rw [e19]) (by decide) rfl ?_
          try have t19 : x19_.toInt = x4_4.toInt + (1) := by rw [e19]; exact (ti_add (b := Int32.ofInt (1)) (by show _ ≤ _ + (1 : Int); omega) (by show _ + (1 : Int) ≤ _; omega))
          refine r_goto hC (tgt := 10) dX2_goalOf_60 (by decide) ?_
          refine r_sub [3, 4, 2, 1, 0] rfl ?_
          exact ih4 ((16 - x19_.toInt).toNat) (by omega) x19_ x18_ x16_ (by omega) (by omega) rfl
  refine r_sub [3, 4, 2, 1, 0] rfl ?_
  exact LP4 _ x3_ x2_ x1_ (by omega) (by omega) rfl
set_option maxHeartbeats 4000000 in
set_option maxRecDepth 100000 in
theorem c_X2_towards (g : GG) (l : Launch) (K len : Nat → Nat) (I : Nat → Nat → Int32) (J : Nat → Nat → Int64) (R : Nat → Nat → Option Nat) (hs : Sf K len I R) (a0 : Nat) (ka0 : K a0 = 3) (x1 : Int32) (x2 : Int32) : Ct g l yX2_towards cX2_towards 3 (Option.some Jvm.ClassFile.FieldType.int) rmX2_towards [.ref a0, .int x1, .int x2] (K, len, I, J, R) (pI0 (K, len, I, J, R) (fun r => True)) := by
  refine Ct_intro (by decide +kernel) (Nat.le_of_ble_eq_true rfl) (fun X hC hL hKK hNm hr hlk hQ => ?_)
  subst hL
  have hC : Cx g X cX2_towards "HillTap$Lake" 3 rmX2_towards := hC
  show P g X 3 0 [(0, .ref a0), (1, .int x1), (2, .int x2)] [] 0 0 (K, len, I, J, R)
  have hF : Fr K [] I I := Fr.refl
  have b_x1 := ti_rng x1
  have b_x2 := ti_rng x2
  refine r_iload_n hC dX2_towards_0 2 rfl ?_
  refine r_iload_n hC dX2_towards_1 1 rfl ?_
  refine r_icmp_ge hC (tgt := 18) dX2_towards_2 (by decide) (fun c1 => ?_) (fun c1 => ?_)
  · refine r_iload_n hC dX2_towards_18 1 rfl ?_
    refine r_iload_n hC dX2_towards_19 2 rfl ?_
    refine r_aload_n hC dX2_towards_20 0 rfl ?_
    refine r_geti hC 2 (ci := 2) rfl u2_in (by decide) mT_1_123 dX2_towards_21 ka0 rfl rfl (fun x2_ e2 => ?_)
    refine r_isub hC dX2_towards_24 (fun x3_ e3 => ?_)
    try have t3 : x3_.toInt = x2.toInt - x2_.toInt := by rw [e3]; exact ti_sub (by omega) (by omega)
    refine r_mmax hC mT_3_111 mT_3_11 mT_1_12 mT_3_12 (by decide) (Nat.le_of_ble_eq_true rfl) (Nat.zero_le _) (Nat.zero_le _) dX2_towards_25 (fun x4_ e4 t4a t4b t4c => ?_)
    exact r_iret hC hQ hlk hr rfl (by decide) (by decide) dX2_towards_28 ⟨_, rfl, rfl, trivial⟩
  · refine r_iload_n hC dX2_towards_5 1 rfl ?_
    refine r_iload_n hC dX2_towards_6 2 rfl ?_
    refine r_aload_n hC dX2_towards_7 0 rfl ?_
    refine r_geti hC 2 (ci := 2) rfl u2_in (by decide) mT_1_123 dX2_towards_8 ka0 rfl rfl (fun x5_ e5 => ?_)
    refine r_iadd hC dX2_towards_11 (fun x6_ e6 => ?_)
    try have t6 : x6_.toInt = x2.toInt + x5_.toInt := by rw [e6]; exact ti_add (by omega) (by omega)
    refine r_mmin hC mT_3_106 mT_2_154 mT_1_12 mT_2_155 (by decide) (Nat.le_of_ble_eq_true rfl) (Nat.zero_le _) (Nat.zero_le _) dX2_towards_12 (fun x7_ e7 t7a t7b t7c => ?_)
    refine r_goto hC (tgt := 28) dX2_towards_15 (by decide) ?_
    exact r_iret hC hQ hlk hr rfl (by decide) (by decide) dX2_towards_28 ⟨_, rfl, rfl, trivial⟩
set_option maxHeartbeats 4000000 in
set_option maxRecDepth 100000 in
theorem c_X4_findsAt (g : GG) (l : Launch) (K len : Nat → Nat) (I : Nat → Nat → Int32) (J : Nat → Nat → Int64) (R : Nat → Nat → Option Nat) (hs : Sf K len I R) (a0 : Nat) (ka0 : K a0 = 5) (x1 : Int32) : Ct g l yX4_findsAt cX4_findsAt 2 (Option.some Jvm.ClassFile.FieldType.int) rmX4_findsAt [.ref a0, .int x1] (K, len, I, J, R) (pI0 (K, len, I, J, R) (fun r => True)) := by
  refine Ct_intro (by decide +kernel) (Nat.le_of_ble_eq_true rfl) (fun X hC hL hKK hNm hr hlk hQ => ?_)
  subst hL
  have hC : Cx g X cX4_findsAt "HillTap$Story" 2 rmX4_findsAt := hC
  show P g X 2 0 [(0, .ref a0), (1, .int x1)] [] 0 0 (K, len, I, J, R)
  have hF : Fr K [] I I := Fr.refl
  have b_x1 := ti_rng x1
  refine r_aload_n hC dX4_findsAt_0 0 rfl ?_
  refine r_geti hC 1 (ci := 4) rfl u4_in (by decide) mT_1_162 dX4_findsAt_1 ka0 rfl rfl (fun x1_ e1 => ?_)
  by_cases o2 : x1_.toInt < 1 ∨ 5 < x1_.toInt
  · refine r_tabOut hC (tgt := 89) dX4_findsAt_4 o2 (by decide) ?_
    refine r_iconst hC (v := (0)) dX4_findsAt_89 (by decide) (by decide) (fun x3_ e3 t3 => ?_)
    exact r_iret hC hQ hlk hr rfl (by decide) (by decide) dX4_findsAt_90 ⟨_, rfl, rfl, trivial⟩
  · rcases (show x1_.toInt = 1 ∨ x1_.toInt = 2 ∨ x1_.toInt = 3 ∨ x1_.toInt = 4 ∨ x1_.toInt = 5 by omega) with o2 | o2 | o2 | o2 | o2
    · refine r_tabIn hC (tgt := 40) (off := 36) dX4_findsAt_4 (by omega) (by omega) (by rw [o2]; decide) (by decide) ?_
      refine r_iload_n hC dX4_findsAt_40 1 rfl ?_
      refine r_aload_n hC dX4_findsAt_41 0 rfl ?_
      refine r_geti hC 2 (ci := 4) rfl u4_in (by decide) mT_1_166 dX4_findsAt_42 ka0 rfl rfl (fun x4_ e4 => ?_)
      refine r_icmp_gt hC (tgt := 52) dX4_findsAt_45 (by decide) (fun c5 => ?_) (fun c5 => ?_)
      · refine r_iconst hC (v := (0)) dX4_findsAt_52 (by decide) (by decide) (fun x6_ e6 t6 => ?_)
        exact r_iret hC hQ hlk hr rfl (by decide) (by decide) dX4_findsAt_53 ⟨_, rfl, rfl, trivial⟩
      · refine r_iconst hC (v := (1)) dX4_findsAt_48 (by decide) (by decide) (fun x7_ e7 t7 => ?_)
        refine r_goto hC (tgt := 53) dX4_findsAt_49 (by decide) ?_
        exact r_iret hC hQ hlk hr rfl (by decide) (by decide) dX4_findsAt_53 ⟨_, rfl, rfl, trivial⟩
    · refine r_tabIn hC (tgt := 54) (off := 50) dX4_findsAt_4 (by omega) (by omega) (by rw [o2]; decide) (by decide) ?_
      refine r_aload_n hC dX4_findsAt_54 0 rfl ?_
      refine r_geti hC 2 (ci := 4) rfl u4_in (by decide) mT_1_166 dX4_findsAt_55 ka0 rfl rfl (fun x8_ e8 => ?_)
      refine r_iload_n hC dX4_findsAt_58 1 rfl ?_
      refine r_imul hC dX4_findsAt_59 (fun x9_ e9 => ?_)
      refine r_bipush hC (v := (10)) dX4_findsAt_60 (by decide) (by decide) (fun x10_ e10 t10 => ?_)
      refine r_idiv hC dX4_findsAt_62 (ne_0 (by omega)) (fun x11_ e11 => ?_)
      exact r_iret hC hQ hlk hr rfl (by decide) (by decide) dX4_findsAt_63 ⟨_, rfl, rfl, trivial⟩
    · refine r_tabIn hC (tgt := 64) (off := 60) dX4_findsAt_4 (by omega) (by omega) (by rw [o2]; decide) (by decide) ?_
      refine r_iload_n hC dX4_findsAt_64 1 rfl ?_
      refine r_aload_n hC dX4_findsAt_65 0 rfl ?_
      refine r_geti hC 2 (ci := 4) rfl u4_in (by decide) mT_1_166 dX4_findsAt_66 ka0 rfl rfl (fun x12_ e12 => ?_)
      refine r_icmp_ne hC (tgt := 76) dX4_findsAt_69 (by decide) (fun c13 => ?_) (fun c13 => ?_)
      · refine r_iconst hC (v := (0)) dX4_findsAt_76 (by decide) (by decide) (fun x14_ e14 t14 => ?_)
        exact r_iret hC hQ hlk hr rfl (by decide) (by decide) dX4_findsAt_77 ⟨_, rfl, rfl, trivial⟩
      · refine r_iconst hC (v := (2)) dX4_findsAt_72 (by decide) (by decide) (fun x15_ e15 t15 => ?_)
        refine r_goto hC (tgt := 77) dX4_findsAt_73 (by decide) ?_
        exact r_iret hC hQ hlk hr rfl (by decide) (by decide) dX4_findsAt_77 ⟨_, rfl, rfl, trivial⟩
    · refine r_tabIn hC (tgt := 89) (off := 85) dX4_findsAt_4 (by omega) (by omega) (by rw [o2]; decide) (by decide) ?_
      refine r_iconst hC (v := (0)) dX4_findsAt_89 (by decide) (by decide) (fun x16_ e16 t16 => ?_)
      exact r_iret hC hQ hlk hr rfl (by decide) (by decide) dX4_findsAt_90 ⟨_, rfl, rfl, trivial⟩
    · refine r_tabIn hC (tgt := 78) (off := 74) dX4_findsAt_4 (by omega) (by omega) (by rw [o2]; decide) (by decide) ?_
      refine r_iload_n hC dX4_findsAt_78 1 rfl ?_
      refine r_iconst hC (v := (5)) dX4_findsAt_79 (by decide) (by decide) (fun x17_ e17 t17 => ?_)
      refine r_icmp_gt hC (tgt := 87) dX4_findsAt_80 (by decide) (fun c18 => ?_) (fun c18 => ?_)
      · refine r_iconst hC (v := (0)) dX4_findsAt_87 (by decide) (by decide) (fun x19_ e19 t19 => ?_)
        exact r_iret hC hQ hlk hr rfl (by decide) (by decide) dX4_findsAt_88 ⟨_, rfl, rfl, trivial⟩
      · refine r_iconst hC (v := (1)) dX4_findsAt_83 (by decide) (by decide) (fun x20_ e20 t20 => ?_)
        refine r_goto hC (tgt := 88) dX4_findsAt_84 (by decide) ?_
        exact r_iret hC hQ hlk hr rfl (by decide) (by decide) dX4_findsAt_88 ⟨_, rfl, rfl, trivial⟩
