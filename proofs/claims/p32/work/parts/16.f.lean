abbrev rmX8_refuse : Room := { frames := 0, cells := 0, slots := 0, locals := 0 }
abbrev rmX8_answer : Room := { frames := 0, cells := 0, slots := 0, locals := 0 }
abbrev rmX8_noHill : Room := { frames := 0, cells := 0, slots := 0, locals := 0 }
abbrev rmX8_isDay : Room := { frames := 0, cells := 0, slots := 0, locals := 0 }
abbrev rmX8_isStory : Room := { frames := 0, cells := 0, slots := 0, locals := 0 }
abbrev rmX8_isPeg : Room := { frames := 0, cells := 0, slots := 0, locals := 0 }
abbrev rmX8_isVillage : Room := { frames := 0, cells := 0, slots := 0, locals := 0 }
abbrev rmX8_isPegDay : Room := { frames := 1, cells := 0, slots := 0, locals := 21 }
abbrev rmX8_planAnew : Room := { frames := 3, cells := 0, slots := 0, locals := 69 }
abbrev rmX8_courseOf : Room := { frames := 4, cells := 0, slots := 0, locals := 100 }
abbrev rmX8_staysIfDownFrom : Room := { frames := 4, cells := 0, slots := 0, locals := 100 }
abbrev rmX8_staysIfSteady : Room := { frames := 4, cells := 0, slots := 0, locals := 100 }
abbrev rmX8_findFits : Room := { frames := 5, cells := 0, slots := 0, locals := 122 }
abbrev rmX8_isFit : Room := { frames := 0, cells := 0, slots := 0, locals := 0 }
abbrev rmX8_countFitsUpTo : Room := { frames := 0, cells := 0, slots := 0, locals := 0 }
abbrev rmX8_weightOfFits : Room := { frames := 1, cells := 0, slots := 0, locals := 21 }
abbrev rmX8_strikes : Room := { frames := 5, cells := 0, slots := 0, locals := 122 }
abbrev rmX8_weightFinding : Room := { frames := 0, cells := 0, slots := 0, locals := 0 }
abbrev rmX8_greatestAlike : Room := { frames := 1, cells := 0, slots := 0, locals := 23 }
abbrev rmX8_falls : Room := { frames := 1, cells := 0, slots := 0, locals := 20 }
abbrev rmX8_isLetting : Room := { frames := 2, cells := 0, slots := 0, locals := 42 }
abbrev rmX8_countLettings : Room := { frames := 3, cells := 0, slots := 0, locals := 63 }
abbrev rmX8_tapOf : Room := { frames := 5, cells := 0, slots := 0, locals := 122 }
abbrev rmX8_noughtBy : Room := { frames := 0, cells := 0, slots := 0, locals := 0 }
set_option maxHeartbeats 4000000 in
set_option maxRecDepth 100000 in
theorem c_X8_refuse (g : GG) (l : Launch) (K len : Nat → Nat) (I : Nat → Nat → Int32) (J : Nat → Nat → Int64) (R : Nat → Nat → Option Nat) (hs : Sf K len I R) (a0 : Nat) (ka0 : K a0 = 9) (x1 : Int32) : Ct g l yX8_refuse cX8_refuse 2 (Option.some Jvm.ClassFile.FieldType.int) rmX8_refuse [.ref a0, .int x1] (K, len, I, J, R) (pI1 (K, len, I, J, R) (fun r I' => Sf K len I' R ∧ Fr K [(9, 12)] I I' ∧ (r.toInt = -1) ∧ ((I' a0 12).toInt = x1.toInt))) := by
  refine Ct_intro (by decide +kernel) (Nat.le_of_ble_eq_true rfl) (fun X hC hL hKK hNm hr hlk hQ => ?_)
  subst hL
  have hC : Cx g X cX8_refuse "HillTap" 2 rmX8_refuse := hC
  show P g X 2 0 [(0, .ref a0), (1, .int x1)] [] 0 0 (K, len, I, J, R)
  have hF : Fr K [(9, 12)] I I := Fr.refl
  have b_x1 := ti_rng x1
  refine r_aload_n hC dX8_refuse_0 0 rfl ?_
  refine r_iload_n hC dX8_refuse_1 1 rfl ?_
  refine r_puti hC 12 (ci := 8) rfl u8_in tyX8_ok nmX8 (by decide) mT_2_90 rfl rfl rfl dX8_refuse_2 ka0 rfl rfl (fun I1 eI1 => ?_)
  have hs1 := hs.put0 eI1 ka0 rfl rfl rfl (by decide)
  have hF1 := hF.put eI1 ka0 rfl
  refine r_iconst hC (v := (-1)) dX8_refuse_5 (by decide) (by decide) (fun x2_ e2 t2 => ?_)
  have hv12 : I1 a0 12 = x1 := (by rw [eI1]; exact up2_self _ _ _ _)
  have hv12t : (I1 a0 12).toInt = x1.toInt := congrArg Int32.toInt hv12
  exact r_iret hC hQ hlk hr rfl (by decide) (by decide) dX8_refuse_6 ⟨_, _, rfl, rfl, ⟨hs1, hF1, (by omega), (by omega)⟩⟩
set_option maxHeartbeats 4000000 in
set_option maxRecDepth 100000 in
theorem c_X8_answer (g : GG) (l : Launch) (K len : Nat → Nat) (I : Nat → Nat → Int32) (J : Nat → Nat → Int64) (R : Nat → Nat → Option Nat) (hs : Sf K len I R) (a0 : Nat) (ka0 : K a0 = 9) (x1 : Int32) : Ct g l yX8_answer cX8_answer 2 (Option.some Jvm.ClassFile.FieldType.int) rmX8_answer [.ref a0, .int x1] (K, len, I, J, R) (pI1 (K, len, I, J, R) (fun r I' => Sf K len I' R ∧ Fr K [(9, 12)] I I' ∧ (r = x1) ∧ ((I' a0 12).toInt = 0))) := by
  refine Ct_intro (by decide +kernel) (Nat.le_of_ble_eq_true rfl) (fun X hC hL hKK hNm hr hlk hQ => ?_)
  subst hL
  have hC : Cx g X cX8_answer "HillTap" 2 rmX8_answer := hC
  show P g X 2 0 [(0, .ref a0), (1, .int x1)] [] 0 0 (K, len, I, J, R)
  have hF : Fr K [(9, 12)] I I := Fr.refl
  have b_x1 := ti_rng x1
  refine r_aload_n hC dX8_answer_0 0 rfl ?_
  refine r_iconst hC (v := (0)) dX8_answer_1 (by decide) (by decide) (fun x1_ e1 t1 => ?_)
  refine r_puti hC 12 (ci := 8) rfl u8_in tyX8_ok nmX8 (by decide) mT_2_90 rfl rfl rfl dX8_answer_2 ka0 rfl rfl (fun I2 eI2 => ?_)
  have hs2 := hs.put0 eI2 ka0 rfl rfl rfl (by decide)
  have hF2 := hF.put eI2 ka0 rfl
  refine r_iload_n hC dX8_answer_5 1 rfl ?_
  have hv12 : I2 a0 12 = x1_ := (by rw [eI2]; exact up2_self _ _ _ _)
  have hv12t : (I2 a0 12).toInt = x1_.toInt := congrArg Int32.toInt hv12
  exact r_iret hC hQ hlk hr rfl (by decide) (by decide) dX8_answer_6 ⟨_, _, rfl, rfl, ⟨hs2, hF2, (by rfl), (by omega)⟩⟩
set_option maxHeartbeats 4000000 in
set_option maxRecDepth 100000 in
theorem c_X8_noHill (g : GG) (l : Launch) (K len : Nat → Nat) (I : Nat → Nat → Int32) (J : Nat → Nat → Int64) (R : Nat → Nat → Option Nat) (hs : Sf K len I R) (a0 : Nat) (ka0 : K a0 = 9) : Ct g l yX8_noHill cX8_noHill 1 (Option.some Jvm.ClassFile.FieldType.boolean) rmX8_noHill [.ref a0] (K, len, I, J, R) (pI0 (K, len, I, J, R) (fun r => (0 ≤ r.toInt) ∧ (r.toInt ≤ 1))) := by
  refine Ct_intro (by decide +kernel) (Nat.le_of_ble_eq_true rfl) (fun X hC hL hKK hNm hr hlk hQ => ?_)
  subst hL
  have hC : Cx g X cX8_noHill "HillTap" 1 rmX8_noHill := hC
  show P g X 1 0 [(0, .ref a0)] [] 0 0 (K, len, I, J, R)
  have hF : Fr K [] I I := Fr.refl
  refine r_aload_n hC dX8_noHill_0 0 rfl ?_
  obtain ⟨a1_, hb1, hk1⟩ := hs.obj ka0 2 2 (by decide)
  refine r_getr hC 2 (ci := 8) rfl u8_in (by decide) mT_2_80 dX8_noHill_1 ka0 rfl rfl hb1 ?_
  refine r_geti hC 6 (ci := 1) rfl u1_in (by decide) mT_1_202 dX8_noHill_4 hk1 rfl rfl (fun x2_ e2 => ?_)
  have r2 := hs.rng hk1 rfl e2
  refine r_if_ne hC (tgt := 14) dX8_noHill_7 (by decide) (fun c3 => ?_) (fun c3 => ?_)
  · refine r_iconst hC (v := (0)) dX8_noHill_14 (by decide) (by decide) (fun x4_ e4 t4 => ?_)
    exact r_iret hC hQ hlk hr (by rw [e4]; rfl) (by decide) (by decide) dX8_noHill_15 ⟨_, rfl, rfl, ⟨(by omega), (by omega)⟩⟩
  · refine r_iconst hC (v := (1)) dX8_noHill_10 (by decide) (by decide) (fun x5_ e5 t5 => ?_)
    refine r_goto hC (tgt := 15) dX8_noHill_11 (by decide) ?_
    exact r_iret hC hQ hlk hr (by rw [e5]; rfl) (by decide) (by decide) dX8_noHill_15 ⟨_, rfl, rfl, ⟨(by omega), (by omega)⟩⟩
set_option maxHeartbeats 4000000 in
set_option maxRecDepth 100000 in
theorem c_X8_isDay (g : GG) (l : Launch) (K len : Nat → Nat) (I : Nat → Nat → Int32) (J : Nat → Nat → Int64) (R : Nat → Nat → Option Nat) (hs : Sf K len I R) (x0 : Int32) : Ct g l yX8_isDay cX8_isDay 1 (Option.some Jvm.ClassFile.FieldType.boolean) rmX8_isDay [.int x0] (K, len, I, J, R) (pI0 (K, len, I, J, R) (fun r => (0 ≤ r.toInt) ∧ (r.toInt ≤ 1) ∧ (r.toInt ≠ 0 → 0 ≤ x0.toInt ∧ x0.toInt ≤ 59))) := by
  refine Ct_intro (by decide +kernel) (Nat.le_of_ble_eq_true rfl) (fun X hC hL hKK hNm hr hlk hQ => ?_)
  subst hL
  have hC : Cx g X cX8_isDay "HillTap" 1 rmX8_isDay := hC
  show P g X 1 0 [(0, .int x0)] [] 0 0 (K, len, I, J, R)
  have hF : Fr K [] I I := Fr.refl
  have b_x0 := ti_rng x0
  refine r_iload_n hC dX8_isDay_0 0 rfl ?_
  refine r_if_lt hC (tgt := 14) dX8_isDay_1 (by decide) (fun c1 => ?_) (fun c1 => ?_)
  · refine r_iconst hC (v := (0)) dX8_isDay_14 (by decide) (by decide) (fun x2_ e2 t2 => ?_)
    exact r_iret hC hQ hlk hr (by rw [e2]; rfl) (by decide) (by decide) dX8_isDay_15 ⟨_, rfl, rfl, ⟨(by omega), (by omega), (by omega)⟩⟩
  · refine r_iload_n hC dX8_isDay_4 0 rfl ?_
    refine r_bipush hC (v := (60)) dX8_isDay_5 (by decide) (by decide) (fun x3_ e3 t3 => ?_)
    refine r_icmp_ge hC (tgt := 14) dX8_isDay_7 (by decide) (fun c4 => ?_) (fun c4 => ?_)
    · refine r_iconst hC (v := (0)) dX8_isDay_14 (by decide) (by decide) (fun x5_ e5 t5 => ?_)
      exact r_iret hC hQ hlk hr (by rw [e5]; rfl) (by decide) (by decide) dX8_isDay_15 ⟨_, rfl, rfl, ⟨(by omega), (by omega), (by omega)⟩⟩
    · refine r_iconst hC (v := (1)) dX8_isDay_10 (by decide) (by decide) (fun x6_ e6 t6 => ?_)
      refine r_goto hC (tgt := 15) dX8_isDay_11 (by decide) ?_
      exact r_iret hC hQ hlk hr (by rw [e6]; rfl) (by decide) (by decide) dX8_isDay_15 ⟨_, rfl, rfl, ⟨(by omega), (by omega), (by omega)⟩⟩
set_option maxHeartbeats 4000000 in
set_option maxRecDepth 100000 in
theorem c_X8_isFit (g : GG) (l : Launch) (K len : Nat → Nat) (I : Nat → Nat → Int32) (J : Nat → Nat → Int64) (R : Nat → Nat → Option Nat) (hs : Sf K len I R) (a0 : Nat) (ka0 : K a0 = 9) (x1 : Int32) (p0 : 0 ≤ x1.toInt) (p1 : x1.toInt ≤ 5) : Ct g l yX8_isFit cX8_isFit 2 (Option.some Jvm.ClassFile.FieldType.boolean) rmX8_isFit [.ref a0, .int x1] (K, len, I, J, R) (pI0 (K, len, I, J, R) (fun r => (0 ≤ r.toInt) ∧ (r.toInt ≤ 1))) := by
  refine Ct_intro (by decide +kernel) (Nat.le_of_ble_eq_true rfl) (fun X hC hL hKK hNm hr hlk hQ => ?_)
  subst hL
  have hC : Cx g X cX8_isFit "HillTap" 2 rmX8_isFit := hC
  show P g X 2 0 [(0, .ref a0), (1, .int x1)] [] 0 0 (K, len, I, J, R)
  have hF : Fr K [] I I := Fr.refl
  have b_x1 := ti_rng x1
  refine r_aload_n hC dX8_isFit_0 0 rfl ?_
  obtain ⟨a1_, hb1, hk1, hn1⟩ := hs.row ka0 10 67 6 (by decide) (by decide)
  refine r_getr hC 10 (ci := 8) rfl u8_in (by decide) mT_2_88 dX8_isFit_1 ka0 rfl rfl hb1 ?_
  refine r_iload_n hC dX8_isFit_4 1 rfl ?_
  refine x_iaload hC hk1 hn1 (by decide) rfl rfl dX8_isFit_5 (by omega) (by omega) (fun x2_ e2 => ?_)
  refine r_bipush hC (v := (60)) dX8_isFit_6 (by decide) (by decide) (fun x3_ e3 t3 => ?_)
  refine r_icmp_ne hC (tgt := 15) dX8_isFit_8 (by decide) (fun c4 => ?_) (fun c4 => ?_)
  · refine r_iconst hC (v := (0)) dX8_isFit_15 (by decide) (by decide) (fun x5_ e5 t5 => ?_)
    exact r_iret hC hQ hlk hr (by rw [e5]; rfl) (by decide) (by decide) dX8_isFit_16 ⟨_, rfl, rfl, ⟨(by omega), (by omega)⟩⟩
  · refine r_iconst hC (v := (1)) dX8_isFit_11 (by decide) (by decide) (fun x6_ e6 t6 => ?_)
    refine r_goto hC (tgt := 16) dX8_isFit_12 (by decide) ?_
    exact r_iret hC hQ hlk hr (by rw [e6]; rfl) (by decide) (by decide) dX8_isFit_16 ⟨_, rfl, rfl, ⟨(by omega), (by omega)⟩⟩
set_option maxHeartbeats 4000000 in
set_option maxRecDepth 100000 in
theorem c_X8_countFitsUpTo (g : GG) (l : Launch) (K len : Nat → Nat) (I : Nat → Nat → Int32) (J : Nat → Nat → Int64) (R : Nat → Nat → Option Nat) (hs : Sf K len I R) (a0 : Nat) (ka0 : K a0 = 9) (x1 : Int32) : Ct g l yX8_countFitsUpTo cX8_countFitsUpTo 4 (Option.some Jvm.ClassFile.FieldType.int) rmX8_countFitsUpTo [.ref a0, .int x1] (K, len, I, J, R) (pI0 (K, len, I, J, R) (fun r => True)) := by
  refine Ct_intro (by decide +kernel) (Nat.le_of_ble_eq_true rfl) (fun X hC hL hKK hNm hr hlk hQ => ?_)
  subst hL
  have hC : Cx g X cX8_countFitsUpTo "HillTap" 4 rmX8_countFitsUpTo := hC
  show P g X 4 0 [(0, .ref a0), (1, .int x1)] [] 0 0 (K, len, I, J, R)
  have hF : Fr K [] I I := Fr.refl
  have b_x1 := ti_rng x1
  refine r_iconst hC (v := (0)) dX8_countFitsUpTo_0 (by decide) (by decide) (fun x1_ e1 t1 => ?_)
  refine r_istore_n hC (lv' := [(2, .int x1_), (0, .ref a0), (1, .int x1)]) dX8_countFitsUpTo_1 (by decide) rfl ?_
  refine r_iconst hC (v := (0)) dX8_countFitsUpTo_2 (by decide) (by decide) (fun x2_ e2 t2 => ?_)
  refine r_istore_n hC (lv' := [(3, .int x2_), (2, .int x1_), (0, .ref a0), (1, .int x1)]) dX8_countFitsUpTo_3 (by decide) rfl ?_
  have LP3 : ∀ (mu : Nat) (x3_3 : Int32) (x3_2 : Int32) (v3_0 : 0 ≤ x3_3.toInt) (v3_1 : x3_3.toInt ≤ 6), (6 - x3_3.toInt).toNat = mu → P g X 4 4 [(0, .ref a0), (1, .int x1), (2, .int x3_2), (3, .int x3_3)] [] 0 0 (K, len, I, J, R) := by
    intro mu; induction mu using Nat.strongRecOn with | ind mu ih => ?_
    intro x3_3 x3_2 v3_0 v3_1 hmu
    have ih3 := ih
    clear ih
    have hmu3 := hmu
    clear hmu
    refine r_iload_n hC dX8_countFitsUpTo_4 3 rfl ?_
    refine r_aload_n hC dX8_countFitsUpTo_5 0 rfl ?_
    obtain ⟨a4_, hb4, hk4⟩ := hs.obj ka0 2 2 (by decide)
    refine r_getr hC 2 (ci := 8) rfl u8_in (by decide) mT_2_80 dX8_countFitsUpTo_6 ka0 rfl rfl hb4 ?_
    refine r_geti hC 6 (ci := 1) rfl u1_in (by decide) mT_1_202 dX8_countFitsUpTo_9 hk4 rfl rfl (fun x5_ e5 => ?_)
    have r5 := hs.rng hk4 rfl e5
    refine r_icmp_ge hC (tgt := 34) dX8_countFitsUpTo_12 (by decide) (fun c6 => ?_) (fun c6 => ?_)
    · refine r_iload_n hC dX8_countFitsUpTo_34 2 rfl ?_
      exact r_iret hC hQ hlk hr rfl (by decide) (by decide) dX8_countFitsUpTo_35 ⟨_, rfl, rfl, trivial⟩
    · refine r_aload_n hC dX8_countFitsUpTo_15 0 rfl ?_
      obtain ⟨a7_, hb7, hk7, hn7⟩ := hs.row ka0 10 67 6 (by decide) (by decide)
      refine r_getr hC 10 (ci := 8) rfl u8_in (by decide) mT_2_88 dX8_countFitsUpTo_16 ka0 rfl rfl hb7 ?_
      refine r_iload_n hC dX8_countFitsUpTo_19 3 rfl ?_
      refine x_iaload hC hk7 hn7 (by decide) rfl rfl dX8_countFitsUpTo_20 (by omega) (by omega) (fun x8_ e8 => ?_)
      refine r_iload_n hC dX8_countFitsUpTo_21 1 rfl ?_
      refine r_icmp_le hC (tgt := 28) dX8_countFitsUpTo_22 (by decide) (fun c9 => ?_) (fun c9 => ?_)
      · obtain ⟨x10_, e10⟩ : ∃ z : Int32, z = x3_3 + Int32.ofInt (1) := ⟨_, rfl⟩
        refine r_iinc hC (j := 3) (v := x10_) (lv' := [(3, .int x10_), (0, .ref a0), (1, .int x1), (2, .int x3_2)]) dX8_countFitsUpTo_28 rfl (by rw [e10]) (by decide) rfl ?_
        try have t10 : x10_.toInt = x3_3.toInt + (1) := by rw [e10]; exact (ti_add (b := Int32.ofInt (1)) (by show _ ≤ _ + (1 : Int); omega) (by show _ + (1 : Int) ≤ _; omega))
        refine r_goto hC (tgt := 4) dX8_countFitsUpTo_31 (by decide) ?_
        refine r_sub [1, 2, 3, 0] rfl ?_
        exact ih3 ((6 - x10_.toInt).toNat) (by omega) x10_ x3_2 (by omega) (by omega) rfl
      · obtain ⟨x11_, e11⟩ : ∃ z : Int32, z = x3_2 + Int32.ofInt (1) := ⟨_, rfl⟩
        refine r_iinc hC (j := 2) (v := x11_) (lv' := [(2, .int x11_), (0, .ref a0), (1, .int x1), (3, .int x3_3)]) dX8_countFitsUpTo_25 rfl (by rw [e11]) (by decide) rfl ?_
        try have t11 : x11_.toInt = x3_2.toInt + (1) := by rw [e11]; exact (ti_add (b := Int32.ofInt (1)) (by show _ ≤ _ + (1 : Int); omega) (by show _ + (1 : Int) ≤ _; omega))
        obtain ⟨x12_, e12⟩ : ∃ z : Int32, z = x3_3 + Int32.ofInt (1) := ⟨_, rfl⟩
        refine r_iinc hC (j := 3) (v := x12_) (lv' := [(3, .int x12_), (2, .int x11_), (0, .ref a0), (1, .int x1)]) dX8_countFitsUpTo_28 rfl (by rw [e12]) (by decide) rfl ?_
        try have t12 : x12_.toInt = x3_3.toInt + (1) := by rw [e12]; exact (ti_add (b := Int32.ofInt (1)) (by show _ ≤ _ + (1 : Int); omega) (by show _ + (1 : Int) ≤ _; omega))
        refine r_goto hC (tgt := 4) dX8_countFitsUpTo_31 (by decide) ?_
        refine r_sub [2, 3, 1, 0] rfl ?_
        exact ih3 ((6 - x12_.toInt).toNat) (by omega) x12_ x11_ (by omega) (by omega) rfl
  refine r_sub [2, 3, 1, 0] rfl ?_
  exact LP3 _ x2_ x1_ (by omega) (by omega) rfl
set_option maxHeartbeats 4000000 in
set_option maxRecDepth 100000 in
theorem c_X8_weightOfFits (g : GG) (l : Launch) (K len : Nat → Nat) (I : Nat → Nat → Int32) (J : Nat → Nat → Int64) (R : Nat → Nat → Option Nat) (hs : Sf K len I R) (a0 : Nat) (ka0 : K a0 = 9) : Ct g l yX8_weightOfFits cX8_weightOfFits 3 (Option.some Jvm.ClassFile.FieldType.int) rmX8_weightOfFits [.ref a0] (K, len, I, J, R) (pI0 (K, len, I, J, R) (fun r => True)) := by
  refine Ct_intro (by decide +kernel) (Nat.le_of_ble_eq_true rfl) (fun X hC hL hKK hNm hr hlk hQ => ?_)
  subst hL
  have hC : Cx g X cX8_weightOfFits "HillTap" 3 rmX8_weightOfFits := hC
  show P g X 3 0 [(0, .ref a0)] [] 0 0 (K, len, I, J, R)
  have hF : Fr K [] I I := Fr.refl
  refine r_iconst hC (v := (0)) dX8_weightOfFits_0 (by decide) (by decide) (fun x1_ e1 t1 => ?_)
  refine r_istore_n hC (lv' := [(1, .int x1_), (0, .ref a0)]) dX8_weightOfFits_1 (by decide) rfl ?_
  refine r_iconst hC (v := (0)) dX8_weightOfFits_2 (by decide) (by decide) (fun x2_ e2 t2 => ?_)
  refine r_istore_n hC (lv' := [(2, .int x2_), (1, .int x1_), (0, .ref a0)]) dX8_weightOfFits_3 (by decide) rfl ?_
  have LP3 : ∀ (mu : Nat) (x3_2 : Int32) (x3_1 : Int32) (v3_0 : 0 ≤ x3_2.toInt) (v3_1 : x3_2.toInt ≤ 6), (6 - x3_2.toInt).toNat = mu → P g X 3 4 [(0, .ref a0), (1, .int x3_1), (2, .int x3_2)] [] 0 0 (K, len, I, J, R) := by
    intro mu; induction mu using Nat.strongRecOn with | ind mu ih => ?_
    intro x3_2 x3_1 v3_0 v3_1 hmu
    have ih3 := ih
    clear ih
    have hmu3 := hmu
    clear hmu
    refine r_iload_n hC dX8_weightOfFits_4 2 rfl ?_
    refine r_aload_n hC dX8_weightOfFits_5 0 rfl ?_
    obtain ⟨a4_, hb4, hk4⟩ := hs.obj ka0 2 2 (by decide)
    refine r_getr hC 2 (ci := 8) rfl u8_in (by decide) mT_2_80 dX8_weightOfFits_6 ka0 rfl rfl hb4 ?_
    refine r_geti hC 6 (ci := 1) rfl u1_in (by decide) mT_1_202 dX8_weightOfFits_9 hk4 rfl rfl (fun x5_ e5 => ?_)
    have r5 := hs.rng hk4 rfl e5
    refine r_icmp_ge hC (tgt := 44) dX8_weightOfFits_12 (by decide) (fun c6 => ?_) (fun c6 => ?_)
    · refine r_iload_n hC dX8_weightOfFits_44 1 rfl ?_
      exact r_iret hC hQ hlk hr rfl (by decide) (by decide) dX8_weightOfFits_45 ⟨_, rfl, rfl, trivial⟩
    · refine r_aload_n hC dX8_weightOfFits_15 0 rfl ?_
      refine r_iload_n hC dX8_weightOfFits_16 2 rfl ?_
      refine r_callV hC (As := [.int x3_2]) (rest := []) (ci := 8) (c_X8_isFit g (xL X) K len I J R hs a0 ka0 x3_2 (by omega) (by omega)) mT_4_7 mT_1_1 mT_4_4 mT_4_6 mP_35 okX8_isFit ⟨by decide, by decide⟩ rfl (by show kO (K a0) = _; rw [ka0]; rfl) rfl rfl (Nat.le_of_ble_eq_true rfl) ⟨by decide, by decide⟩ dX8_weightOfFits_17 (aI0 (F := fun st M => P g X 3 20 [(0, .ref a0), (1, .int x3_1), (2, .int x3_2)] st _ _ M) (M := (K, len, I, J, R)) fun x7_ h7 => ?_)
      obtain ⟨k7_0, k7_1⟩ := h7
      show P g X 3 20 [(0, .ref a0), (1, .int x3_1), (2, .int x3_2)] [.int x7_] _ _ (K, len, I, J, R)
      refine r_if_eq hC (tgt := 38) dX8_weightOfFits_20 (by decide) (fun c8 => ?_) (fun c8 => ?_)
      · obtain ⟨x9_, e9⟩ : ∃ z : Int32, z = x3_2 + Int32.ofInt (1) := ⟨_, rfl⟩
        refine r_iinc hC (j := 2) (v := x9_) (lv' := [(2, .int x9_), (0, .ref a0), (1, .int x3_1)]) dX8_weightOfFits_38 rfl (by rw [e9]) (by decide) rfl ?_
        try have t9 : x9_.toInt = x3_2.toInt + (1) := by rw [e9]; exact (ti_add (b := Int32.ofInt (1)) (by show _ ≤ _ + (1 : Int); omega) (by show _ + (1 : Int) ≤ _; omega))
        refine r_goto hC (tgt := 4) dX8_weightOfFits_41 (by decide) ?_
        refine r_sub [1, 2, 0] rfl ?_
        exact ih3 ((6 - x9_.toInt).toNat) (by omega) x9_ x3_1 (by omega) (by omega) rfl
      · refine r_iload_n hC dX8_weightOfFits_23 1 rfl ?_
        refine r_aload_n hC dX8_weightOfFits_24 0 rfl ?_
        refine r_getr hC 2 (ci := 8) rfl u8_in (by decide) mT_2_80 dX8_weightOfFits_25 ka0 rfl rfl hb4 ?_
        obtain ⟨a10_, hb10, hk10, hn10⟩ := hs.row hk4 7 45 6 (by decide) (by decide)
        refine r_getr hC 7 (ci := 1) rfl u1_in (by decide) mT_1_205 dX8_weightOfFits_28 hk4 rfl rfl hb10 ?_
        refine r_iload_n hC dX8_weightOfFits_31 2 rfl ?_
        obtain ⟨a11_, hb11, hk11⟩ := hs.sto hk10 (i := x3_2) (by omega) (by omega)
        refine x_aaload (C := "HillTap$Story") hC hk10 hn10 (by decide) rfl (by decide) dX8_weightOfFits_32 (by omega) (by omega) hb11 ?_
        refine r_geti hC 0 (ci := 4) rfl u4_in (by decide) mT_1_161 dX8_weightOfFits_33 hk11 rfl rfl (fun x12_ e12 => ?_)
        refine r_iadd hC dX8_weightOfFits_36 (fun x13_ e13 => ?_)
        try have t13 : x13_.toInt = x3_1.toInt + x12_.toInt := by rw [e13]; exact ti_add (by omega) (by omega)
        refine r_istore_n hC (lv' := [(1, .int x13_), (0, .ref a0), (2, .int x3_2)]) dX8_weightOfFits_37 (by decide) rfl ?_
        obtain ⟨x14_, e14⟩ : ∃ z : Int32, z = x3_2 + Int32.ofInt (1) := ⟨_, rfl⟩
        refine r_iinc hC (j := 2) (v := x14_) (lv' := [(2, .int x14_), (1, .int x13_), (0, .ref a0)]) dX8_weightOfFits_38 rfl (by rw [e14]) (by decide) rfl ?_
        try have t14 : x14_.toInt = x3_2.toInt + (1) := by rw [e14]; exact (ti_add (b := Int32.ofInt (1)) (by show _ ≤ _ + (1 : Int); omega) (by show _ + (1 : Int) ≤ _; omega))
        refine r_goto hC (tgt := 4) dX8_weightOfFits_41 (by decide) ?_
        refine r_sub [2, 1, 0] rfl ?_
        exact ih3 ((6 - x14_.toInt).toNat) (by omega) x14_ x13_ (by omega) (by omega) rfl
  refine r_sub [2, 1, 0] rfl ?_
  exact LP3 _ x2_ x1_ (by omega) (by omega) rfl
set_option maxHeartbeats 4000000 in
set_option maxRecDepth 100000 in
theorem c_X8_weightFinding (g : GG) (l : Launch) (K len : Nat → Nat) (I : Nat → Nat → Int32) (J : Nat → Nat → Int64) (R : Nat → Nat → Option Nat) (hs : Sf K len I R) (a0 : Nat) (ka0 : K a0 = 9) (x1 : Int32) : Ct g l yX8_weightFinding cX8_weightFinding 4 (Option.some Jvm.ClassFile.FieldType.int) rmX8_weightFinding [.ref a0, .int x1] (K, len, I, J, R) (pI0 (K, len, I, J, R) (fun r => True)) := by
  refine Ct_intro (by decide +kernel) (Nat.le_of_ble_eq_true rfl) (fun X hC hL hKK hNm hr hlk hQ => ?_)
  subst hL
  have hC : Cx g X cX8_weightFinding "HillTap" 4 rmX8_weightFinding := hC
  show P g X 4 0 [(0, .ref a0), (1, .int x1)] [] 0 0 (K, len, I, J, R)
  have hF : Fr K [] I I := Fr.refl
  have b_x1 := ti_rng x1
  refine r_iconst hC (v := (0)) dX8_weightFinding_0 (by decide) (by decide) (fun x1_ e1 t1 => ?_)
  refine r_istore_n hC (lv' := [(2, .int x1_), (0, .ref a0), (1, .int x1)]) dX8_weightFinding_1 (by decide) rfl ?_
  refine r_iconst hC (v := (0)) dX8_weightFinding_2 (by decide) (by decide) (fun x2_ e2 t2 => ?_)
  refine r_istore_n hC (lv' := [(3, .int x2_), (2, .int x1_), (0, .ref a0), (1, .int x1)]) dX8_weightFinding_3 (by decide) rfl ?_
  have LP3 : ∀ (mu : Nat) (x3_3 : Int32) (x3_2 : Int32) (v3_0 : 0 ≤ x3_3.toInt) (v3_1 : x3_3.toInt ≤ 6), (6 - x3_3.toInt).toNat = mu → P g X 4 4 [(0, .ref a0), (1, .int x1), (2, .int x3_2), (3, .int x3_3)] [] 0 0 (K, len, I, J, R) := by
    intro mu; induction mu using Nat.strongRecOn with | ind mu ih => ?_
    intro x3_3 x3_2 v3_0 v3_1 hmu
    have ih3 := ih
    clear ih
    have hmu3 := hmu
    clear hmu
    refine r_iload_n hC dX8_weightFinding_4 3 rfl ?_
    refine r_aload_n hC dX8_weightFinding_5 0 rfl ?_
    obtain ⟨a4_, hb4, hk4⟩ := hs.obj ka0 2 2 (by decide)
    refine r_getr hC 2 (ci := 8) rfl u8_in (by decide) mT_2_80 dX8_weightFinding_6 ka0 rfl rfl hb4 ?_
    refine r_geti hC 6 (ci := 1) rfl u1_in (by decide) mT_1_202 dX8_weightFinding_9 hk4 rfl rfl (fun x5_ e5 => ?_)
    have r5 := hs.rng hk4 rfl e5
    refine r_icmp_ge hC (tgt := 46) dX8_weightFinding_12 (by decide) (fun c6 => ?_) (fun c6 => ?_)
    · refine r_iload_n hC dX8_weightFinding_46 2 rfl ?_
      exact r_iret hC hQ hlk hr rfl (by decide) (by decide) dX8_weightFinding_47 ⟨_, rfl, rfl, trivial⟩
    · refine r_aload_n hC dX8_weightFinding_15 0 rfl ?_
      obtain ⟨a7_, hb7, hk7, hn7⟩ := hs.row ka0 11 68 6 (by decide) (by decide)
      refine r_getr hC 11 (ci := 8) rfl u8_in (by decide) mT_2_89 dX8_weightFinding_16 ka0 rfl rfl hb7 ?_
      refine r_iload_n hC dX8_weightFinding_19 3 rfl ?_
      refine x_iaload hC hk7 hn7 (by decide) rfl rfl dX8_weightFinding_20 (by omega) (by omega) (fun x8_ e8 => ?_)
      refine r_iload_n hC dX8_weightFinding_21 1 rfl ?_
      refine r_icmp_ne hC (tgt := 40) dX8_weightFinding_22 (by decide) (fun c9 => ?_) (fun c9 => ?_)
      · obtain ⟨x10_, e10⟩ : ∃ z : Int32, z = x3_3 + Int32.ofInt (1) := ⟨_, rfl⟩
        refine r_iinc hC (j := 3) (v := x10_) (lv' := [(3, .int x10_), (0, .ref a0), (1, .int x1), (2, .int x3_2)]) dX8_weightFinding_40 rfl (by rw [e10]) (by decide) rfl ?_
        try have t10 : x10_.toInt = x3_3.toInt + (1) := by rw [e10]; exact (ti_add (b := Int32.ofInt (1)) (by show _ ≤ _ + (1 : Int); omega) (by show _ + (1 : Int) ≤ _; omega))
        refine r_goto hC (tgt := 4) dX8_weightFinding_43 (by decide) ?_
        refine r_sub [1, 2, 3, 0] rfl ?_
        exact ih3 ((6 - x10_.toInt).toNat) (by omega) x10_ x3_2 (by omega) (by omega) rfl
      · refine r_iload_n hC dX8_weightFinding_25 2 rfl ?_
        refine r_aload_n hC dX8_weightFinding_26 0 rfl ?_
        refine r_getr hC 2 (ci := 8) rfl u8_in (by decide) mT_2_80 dX8_weightFinding_27 ka0 rfl rfl hb4 ?_
        obtain ⟨a11_, hb11, hk11, hn11⟩ := hs.row hk4 7 45 6 (by decide) (by decide)
        refine r_getr hC 7 (ci := 1) rfl u1_in (by decide) mT_1_205 dX8_weightFinding_30 hk4 rfl rfl hb11 ?_
        refine r_iload_n hC dX8_weightFinding_33 3 rfl ?_
        obtain ⟨a12_, hb12, hk12⟩ := hs.sto hk11 (i := x3_3) (by omega) (by omega)
        refine x_aaload (C := "HillTap$Story") hC hk11 hn11 (by decide) rfl (by decide) dX8_weightFinding_34 (by omega) (by omega) hb12 ?_
        refine r_geti hC 0 (ci := 4) rfl u4_in (by decide) mT_1_161 dX8_weightFinding_35 hk12 rfl rfl (fun x13_ e13 => ?_)
        refine r_iadd hC dX8_weightFinding_38 (fun x14_ e14 => ?_)
        try have t14 : x14_.toInt = x3_2.toInt + x13_.toInt := by rw [e14]; exact ti_add (by omega) (by omega)
        refine r_istore_n hC (lv' := [(2, .int x14_), (0, .ref a0), (1, .int x1), (3, .int x3_3)]) dX8_weightFinding_39 (by decide) rfl ?_
        obtain ⟨x15_, e15⟩ : ∃ z : Int32, z = x3_3 + Int32.ofInt (1) := ⟨_, rfl⟩
        refine r_iinc hC (j := 3) (v := x15_) (lv' := [(3, .int x15_), (2, .int x14_), (0, .ref a0), (1, .int x1)]) dX8_weightFinding_40 rfl (by rw [e15]) (by decide) rfl ?_
        try have t15 : x15_.toInt = x3_3.toInt + (1) := by rw [e15]; exact (ti_add (b := Int32.ofInt (1)) (by show _ ≤ _ + (1 : Int); omega) (by show _ + (1 : Int) ≤ _; omega))
        refine r_goto hC (tgt := 4) dX8_weightFinding_43 (by decide) ?_
        refine r_sub [2, 3, 1, 0] rfl ?_
        exact ih3 ((6 - x15_.toInt).toNat) (by omega) x15_ x14_ (by omega) (by omega) rfl
  refine r_sub [2, 3, 1, 0] rfl ?_
  exact LP3 _ x2_ x1_ (by omega) (by omega) rfl
set_option maxHeartbeats 4000000 in
set_option maxRecDepth 100000 in
theorem c_X8_greatestAlike (g : GG) (l : Launch) (K len : Nat → Nat) (I : Nat → Nat → Int32) (J : Nat → Nat → Int64) (R : Nat → Nat → Option Nat) (hs : Sf K len I R) (a0 : Nat) (ka0 : K a0 = 9) (x1 : Int32) : Ct g l yX8_greatestAlike cX8_greatestAlike 4 (Option.some Jvm.ClassFile.FieldType.int) rmX8_greatestAlike [.ref a0, .int x1] (K, len, I, J, R) (pI1 (K, len, I, J, R) (fun r I' => Sf K len I' R ∧ Fr K [(68, 999)] I I')) := by
  refine Ct_intro (by decide +kernel) (Nat.le_of_ble_eq_true rfl) (fun X hC hL hKK hNm hr hlk hQ => ?_)
  subst hL
  have hC : Cx g X cX8_greatestAlike "HillTap" 4 rmX8_greatestAlike := hC
  show P g X 4 0 [(0, .ref a0), (1, .int x1)] [] 0 0 (K, len, I, J, R)
  have hF : Fr K [(68, 999)] I I := Fr.refl
  have b_x1 := ti_rng x1
  refine r_iconst hC (v := (0)) dX8_greatestAlike_0 (by decide) (by decide) (fun x1_ e1 t1 => ?_)
  refine r_istore_n hC (lv' := [(2, .int x1_), (0, .ref a0), (1, .int x1)]) dX8_greatestAlike_1 (by decide) rfl ?_
  have LP2 : ∀ (mu : Nat) (x2_2 : Int32) (I2 : Nat → Nat → Int32) (hs2 : Sf K len I2 R) (hF2 : Fr K [(68, 999)] I I2) (v2_0 : 0 ≤ x2_2.toInt) (v2_1 : x2_2.toInt ≤ 6), (6 - x2_2.toInt).toNat = mu → P g X 4 2 [(0, .ref a0), (1, .int x1), (2, .int x2_2)] [] 0 0 (K, len, I2, J, R) := by
    intro mu; induction mu using Nat.strongRecOn with | ind mu ih => ?_
    intro x2_2 I2 hs2 hF2 v2_0 v2_1 hmu
    have ih2 := ih
    clear ih
    have hmu2 := hmu
    clear hmu
    refine r_iload_n hC dX8_greatestAlike_2 2 rfl ?_
    refine r_aload_n hC dX8_greatestAlike_3 0 rfl ?_
    obtain ⟨a3_, hb3, hk3⟩ := hs2.obj ka0 2 2 (by decide)
    refine r_getr hC 2 (ci := 8) rfl u8_in (by decide) mT_2_80 dX8_greatestAlike_4 ka0 rfl rfl hb3 ?_
    refine r_geti hC 6 (ci := 1) rfl u1_in (by decide) mT_1_202 dX8_greatestAlike_7 hk3 rfl rfl (fun x4_ e4 => ?_)
    have r4 := hs2.rng hk3 rfl e4
    refine r_icmp_ge hC (tgt := 50) dX8_greatestAlike_10 (by decide) (fun c5 => ?_) (fun c5 => ?_)
    · refine r_iconst hC (v := (0)) dX8_greatestAlike_50 (by decide) (by decide) (fun x6_ e6 t6 => ?_)
      refine r_istore_n hC (lv' := [(2, .int x6_), (0, .ref a0), (1, .int x1)]) dX8_greatestAlike_51 (by decide) rfl ?_
      refine r_iconst hC (v := (0)) dX8_greatestAlike_52 (by decide) (by decide) (fun x7_ e7 t7 => ?_)
      refine r_istore_n hC (lv' := [(3, .int x7_), (2, .int x6_), (0, .ref a0), (1, .int x1)]) dX8_greatestAlike_53 (by decide) rfl ?_
      have LP8 : ∀ (mu : Nat) (x8_3 : Int32) (x8_2 : Int32) (v8_0 : 0 ≤ x8_3.toInt) (v8_1 : x8_3.toInt ≤ 6), (6 - x8_3.toInt).toNat = mu → P g X 4 54 [(0, .ref a0), (1, .int x1), (2, .int x8_2), (3, .int x8_3)] [] 0 0 (K, len, I2, J, R) := by
        intro mu; induction mu using Nat.strongRecOn with | ind mu ih => ?_
        intro x8_3 x8_2 v8_0 v8_1 hmu
        have ih8 := ih
        clear ih
        have hmu8 := hmu
        clear hmu
        refine r_iload_n hC dX8_greatestAlike_54 3 rfl ?_
        refine r_aload_n hC dX8_greatestAlike_55 0 rfl ?_
        refine r_getr hC 2 (ci := 8) rfl u8_in (by decide) mT_2_80 dX8_greatestAlike_56 ka0 rfl rfl hb3 ?_
        refine r_geti hC 6 (ci := 1) rfl u1_in (by decide) mT_1_202 dX8_greatestAlike_59 hk3 rfl rfl (fun x9_ e9 => ?_)
        have r9 := hs2.rng hk3 rfl e9
        have w9 : x9_ = x4_ := by rw [e9]; exact e4.symm
        have wt9 : x9_.toInt = x4_.toInt := by rw [w9]
        refine r_icmp_ge hC (tgt := 96) dX8_greatestAlike_62 (by decide) (fun c10 => ?_) (fun c10 => ?_)
        · refine r_iload_n hC dX8_greatestAlike_96 2 rfl ?_
          exact r_iret hC hQ hlk hr rfl (by decide) (by decide) dX8_greatestAlike_97 ⟨_, _, rfl, rfl, ⟨hs2, hF2⟩⟩
        · refine r_aload_n hC dX8_greatestAlike_65 0 rfl ?_
          obtain ⟨a11_, hb11, hk11, hn11⟩ := hs2.row ka0 11 68 6 (by decide) (by decide)
          refine r_getr hC 11 (ci := 8) rfl u8_in (by decide) mT_2_89 dX8_greatestAlike_66 ka0 rfl rfl hb11 ?_
          refine r_iload_n hC dX8_greatestAlike_69 3 rfl ?_
          refine x_iaload hC hk11 hn11 (by decide) rfl rfl dX8_greatestAlike_70 (by omega) (by omega) (fun x12_ e12 => ?_)
          refine r_iconst hC (v := (-1)) dX8_greatestAlike_71 (by decide) (by decide) (fun x13_ e13 t13 => ?_)
          refine r_icmp_eq hC (tgt := 90) dX8_greatestAlike_72 (by decide) (fun c14 => ?_) (fun c14 => ?_)
          · obtain ⟨x15_, e15⟩ : ∃ z : Int32, z = x8_3 + Int32.ofInt (1) := ⟨_, rfl⟩
            refine r_iinc hC (j := 3) (v := x15_) (lv' := [(3, .int x15_), (0, .ref a0), (1, .int x1), (2, .int x8_2)]) dX8_greatestAlike_90 rfl (by rw [e15]) (by decide) rfl ?_
            try have t15 : x15_.toInt = x8_3.toInt + (1) := by rw [e15]; exact (ti_add (b := Int32.ofInt (1)) (by show _ ≤ _ + (1 : Int); omega) (by show _ + (1 : Int) ≤ _; omega))
            refine r_goto hC (tgt := 54) dX8_greatestAlike_93 (by decide) ?_
            refine r_sub [1, 2, 3, 0] rfl ?_
            exact ih8 ((6 - x15_.toInt).toNat) (by omega) x15_ x8_2 (by omega) (by omega) rfl
          · refine r_iload_n hC dX8_greatestAlike_75 2 rfl ?_
            refine r_aload_n hC dX8_greatestAlike_76 0 rfl ?_
            refine r_aload_n hC dX8_greatestAlike_77 0 rfl ?_
            refine r_getr hC 11 (ci := 8) rfl u8_in (by decide) mT_2_89 dX8_greatestAlike_78 ka0 rfl rfl hb11 ?_
            refine r_iload_n hC dX8_greatestAlike_81 3 rfl ?_
            refine x_iaload hC hk11 hn11 (by decide) rfl rfl dX8_greatestAlike_82 (by omega) (by omega) (fun x16_ e16 => ?_)
            refine r_callV hC (As := [.int x16_]) (rest := [.int x8_2]) (ci := 8) (c_X8_weightFinding g (xL X) K len I2 J R hs2 a0 ka0 x16_) mT_4_110 mT_1_1 mT_4_107 mT_4_109 mP_44 okX8_weightFinding ⟨by decide, by decide⟩ rfl (by show kO (K a0) = _; rw [ka0]; rfl) rfl rfl (Nat.le_of_ble_eq_true rfl) ⟨by decide, by decide⟩ dX8_greatestAlike_83 (aI0 (F := fun st M => P g X 4 86 [(0, .ref a0), (1, .int x1), (2, .int x8_2), (3, .int x8_3)] st _ _ M) (M := (K, len, I2, J, R)) fun x17_ h17 => ?_)
            skip
            show P g X 4 86 [(0, .ref a0), (1, .int x1), (2, .int x8_2), (3, .int x8_3)] [.int x17_, .int x8_2] _ _ (K, len, I2, J, R)
            refine r_mmax hC mT_4_111 mT_3_11 mT_1_12 mT_3_12 (by decide) (Nat.le_of_ble_eq_true rfl) (Nat.zero_le _) (Nat.zero_le _) dX8_greatestAlike_86 (fun x18_ e18 t18a t18b t18c => ?_)
            refine r_istore_n hC (lv' := [(2, .int x18_), (0, .ref a0), (1, .int x1), (3, .int x8_3)]) dX8_greatestAlike_89 (by decide) rfl ?_
            obtain ⟨x19_, e19⟩ : ∃ z : Int32, z = x8_3 + Int32.ofInt (1) := ⟨_, rfl⟩
            refine r_iinc hC (j := 3) (v := x19_) (lv' := [(3, .int x19_), (2, .int x18_), (0, .ref a0), (1, .int x1)]) dX8_greatestAlike_90 rfl (by rw [e19]) (by decide) rfl ?_
            try have t19 : x19_.toInt = x8_3.toInt + (1) := by rw [e19]; exact (ti_add (b := Int32.ofInt (1)) (by show _ ≤ _ + (1 : Int); omega) (by show _ + (1 : Int) ≤ _; omega))
            refine r_goto hC (tgt := 54) dX8_greatestAlike_93 (by decide) ?_
            refine r_sub [2, 3, 1, 0] rfl ?_
            exact ih8 ((6 - x19_.toInt).toNat) (by omega) x19_ x18_ (by omega) (by omega) rfl
      refine r_sub [2, 3, 1, 0] rfl ?_
      exact LP8 _ x7_ x6_ (by omega) (by omega) rfl
    · refine r_aload_n hC dX8_greatestAlike_13 0 rfl ?_
      obtain ⟨a20_, hb20, hk20, hn20⟩ := hs2.row ka0 11 68 6 (by decide) (by decide)
      refine r_getr hC 11 (ci := 8) rfl u8_in (by decide) mT_2_89 dX8_greatestAlike_14 ka0 rfl rfl hb20 ?_
      refine r_iload_n hC dX8_greatestAlike_17 2 rfl ?_
      refine r_aload_n hC dX8_greatestAlike_18 0 rfl ?_
      refine r_iload_n hC dX8_greatestAlike_19 2 rfl ?_
      refine r_callV hC (As := [.int x2_2]) (rest := [.int x2_2, .ref a20_]) (ci := 8) (c_X8_isFit g (xL X) K len I2 J R hs2 a0 ka0 x2_2 (by omega) (by omega)) mT_4_7 mT_1_1 mT_4_4 mT_4_6 mP_35 okX8_isFit ⟨by decide, by decide⟩ rfl (by show kO (K a0) = _; rw [ka0]; rfl) rfl rfl (Nat.le_of_ble_eq_true rfl) ⟨by decide, by decide⟩ dX8_greatestAlike_20 (aI0 (F := fun st M => P g X 4 23 [(0, .ref a0), (1, .int x1), (2, .int x2_2)] st _ _ M) (M := (K, len, I2, J, R)) fun x21_ h21 => ?_)
      obtain ⟨k21_0, k21_1⟩ := h21
      show P g X 4 23 [(0, .ref a0), (1, .int x1), (2, .int x2_2)] [.int x21_, .int x2_2, .ref a20_] _ _ (K, len, I2, J, R)
      refine r_if_eq hC (tgt := 42) dX8_greatestAlike_23 (by decide) (fun c22 => ?_) (fun c22 => ?_)
      · refine r_iconst hC (v := (-1)) dX8_greatestAlike_42 (by decide) (by decide) (fun x23_ e23 t23 => ?_)
        refine x_iastore hC hk20 hn20 (by decide) rfl rfl dX8_greatestAlike_43 (by omega) (by omega) (fun I24 eI24 => ?_)
        have hs24 := hs2.put0 eI24 hk20 (rng_arr (by decide) _) rfl (xF_arr (by decide) _) (by decide)
        have hF24 := hF2.put eI24 hk20 (inS_arr rfl _)
        obtain ⟨x25_, e25⟩ : ∃ z : Int32, z = x2_2 + Int32.ofInt (1) := ⟨_, rfl⟩
        refine r_iinc hC (j := 2) (v := x25_) (lv' := [(2, .int x25_), (0, .ref a0), (1, .int x1)]) dX8_greatestAlike_44 rfl (by rw [e25]) (by decide) rfl ?_
        try have t25 : x25_.toInt = x2_2.toInt + (1) := by rw [e25]; exact (ti_add (b := Int32.ofInt (1)) (by show _ ≤ _ + (1 : Int); omega) (by show _ + (1 : Int) ≤ _; omega))
        refine r_goto hC (tgt := 2) dX8_greatestAlike_47 (by decide) ?_
        refine r_sub [1, 2, 0] rfl ?_
        exact ih2 ((6 - x25_.toInt).toNat) (by omega) x25_ I24 hs24 hF24 (by omega) (by omega) rfl
      · refine r_aload_n hC dX8_greatestAlike_26 0 rfl ?_
        refine r_getr hC 2 (ci := 8) rfl u8_in (by decide) mT_2_80 dX8_greatestAlike_27 ka0 rfl rfl hb3 ?_
        obtain ⟨a26_, hb26, hk26, hn26⟩ := hs2.row hk3 7 45 6 (by decide) (by decide)
        refine r_getr hC 7 (ci := 1) rfl u1_in (by decide) mT_1_205 dX8_greatestAlike_30 hk3 rfl rfl hb26 ?_
        refine r_iload_n hC dX8_greatestAlike_33 2 rfl ?_
        obtain ⟨a27_, hb27, hk27⟩ := hs2.sto hk26 (i := x2_2) (by omega) (by omega)
        refine x_aaload (C := "HillTap$Story") hC hk26 hn26 (by decide) rfl (by decide) dX8_greatestAlike_34 (by omega) (by omega) hb27 ?_
        refine r_iload_n hC dX8_greatestAlike_35 1 rfl ?_
        refine r_callV hC (As := [.int x1]) (rest := [.int x2_2, .ref a20_]) (ci := 4) (c_X4_findsAt g (xL X) K len I2 J R hs2 a27_ hk27 x1) mT_4_98 mT_1_7 mT_4_95 mT_4_96 mT_4_97 okX4_findsAt ⟨by decide, by decide⟩ rfl (by show kO (K a27_) = _; rw [hk27]; rfl) rfl rfl (Nat.le_of_ble_eq_true rfl) ⟨by decide, by decide⟩ dX8_greatestAlike_36 (aI0 (F := fun st M => P g X 4 39 [(0, .ref a0), (1, .int x1), (2, .int x2_2)] st _ _ M) (M := (K, len, I2, J, R)) fun x28_ h28 => ?_)
        skip
        show P g X 4 39 [(0, .ref a0), (1, .int x1), (2, .int x2_2)] [.int x28_, .int x2_2, .ref a20_] _ _ (K, len, I2, J, R)
        refine r_goto hC (tgt := 43) dX8_greatestAlike_39 (by decide) ?_
        refine x_iastore hC hk20 hn20 (by decide) rfl rfl dX8_greatestAlike_43 (by omega) (by omega) (fun I29 eI29 => ?_)
        have hs29 := hs2.put0 eI29 hk20 (rng_arr (by decide) _) rfl (xF_arr (by decide) _) (by decide)
        have hF29 := hF2.put eI29 hk20 (inS_arr rfl _)
        obtain ⟨x30_, e30⟩ : ∃ z : Int32, z = x2_2 + Int32.ofInt (1) := ⟨_, rfl⟩
        refine r_iinc hC (j := 2) (v := x30_) (lv' := [(2, .int x30_), (0, .ref a0), (1, .int x1)]) dX8_greatestAlike_44 rfl (by rw [e30]) (by decide) rfl ?_
        try have t30 : x30_.toInt = x2_2.toInt + (1) := by rw [e30]; exact (ti_add (b := Int32.ofInt (1)) (by show _ ≤ _ + (1 : Int); omega) (by show _ + (1 : Int) ≤ _; omega))
        refine r_goto hC (tgt := 2) dX8_greatestAlike_47 (by decide) ?_
        refine r_sub [1, 2, 0] rfl ?_
        exact ih2 ((6 - x30_.toInt).toNat) (by omega) x30_ I29 hs29 hF29 (by omega) (by omega) rfl
  refine r_sub [1, 2, 0] rfl ?_
  exact LP2 _ x1_ I hs hF (by omega) (by omega) rfl
set_option maxHeartbeats 4000000 in
set_option maxRecDepth 100000 in
theorem c_X8_falls (g : GG) (l : Launch) (K len : Nat → Nat) (I : Nat → Nat → Int32) (J : Nat → Nat → Int64) (R : Nat → Nat → Option Nat) (hs : Sf K len I R) (a0 : Nat) (ka0 : K a0 = 9) (x1 : Int32) : Ct g l yX8_falls cX8_falls 3 (Option.some Jvm.ClassFile.FieldType.boolean) rmX8_falls [.ref a0, .int x1] (K, len, I, J, R) (pI0 (K, len, I, J, R) (fun r => (0 ≤ r.toInt) ∧ (r.toInt ≤ 1))) := by
  refine Ct_intro (by decide +kernel) (Nat.le_of_ble_eq_true rfl) (fun X hC hL hKK hNm hr hlk hQ => ?_)
  subst hL
  have hC : Cx g X cX8_falls "HillTap" 3 rmX8_falls := hC
  show P g X 3 0 [(0, .ref a0), (1, .int x1)] [] 0 0 (K, len, I, J, R)
  have hF : Fr K [] I I := Fr.refl
  have b_x1 := ti_rng x1
  refine r_iload_n hC dX8_falls_0 1 rfl ?_
  refine r_callS hC (As := [.int x1]) (rest := []) (c_X8_isDay g (xL X) K len I J R hs x1) mT_3_134 mT_1_1 mT_3_132 mT_3_133 okX8_isDay ⟨by decide, by decide⟩ rfl rfl (Nat.le_of_ble_eq_true rfl) ⟨by decide, by decide⟩ dX8_falls_1 (aI0 (F := fun st M => P g X 3 4 [(0, .ref a0), (1, .int x1)] st _ _ M) (M := (K, len, I, J, R)) fun x1_ h1 => ?_)
  obtain ⟨k1_0, k1_1, k1_2⟩ := h1
  show P g X 3 4 [(0, .ref a0), (1, .int x1)] [.int x1_] _ _ (K, len, I, J, R)
  refine r_if_ne hC (tgt := 9) dX8_falls_4 (by decide) (fun c2 => ?_) (fun c2 => ?_)
  · refine r_iload_n hC dX8_falls_9 1 rfl ?_
    refine r_if_le hC (tgt := 24) dX8_falls_10 (by decide) (fun c3 => ?_) (fun c3 => ?_)
    · refine r_aload_n hC dX8_falls_24 0 rfl ?_
      obtain ⟨a4_, hb4, hk4⟩ := hs.obj ka0 2 2 (by decide)
      refine r_getr hC 2 (ci := 8) rfl u8_in (by decide) mT_2_80 dX8_falls_25 ka0 rfl rfl hb4 ?_
      obtain ⟨a5_, hb5, hk5⟩ := hs.obj hk4 0 3 (by decide)
      refine r_getr hC 0 (ci := 1) rfl u1_in (by decide) mT_1_182 dX8_falls_28 hk4 rfl rfl hb5 ?_
      refine r_geti hC 1 (ci := 2) rfl u2_in (by decide) mT_1_122 dX8_falls_31 hk5 rfl rfl (fun x6_ e6 => ?_)
      refine r_istore_n hC (lv' := [(2, .int x6_), (0, .ref a0), (1, .int x1)]) dX8_falls_34 (by decide) rfl ?_
      refine r_aload_n hC dX8_falls_35 1 rfl ?_
      obtain ⟨a7_, hb7, hk7, hn7⟩ := hs.row ka0 4 41 60 (by decide) (by decide)
      refine r_getr hC 4 (ci := 8) rfl u8_in (by decide) mT_2_82 dX8_falls_36 ka0 rfl rfl hb7 ?_
      refine r_iload_n hC dX8_falls_39 2 rfl ?_
      refine x_iaload hC hk7 hn7 (by decide) rfl rfl dX8_falls_40 (by omega) (by omega) (fun x8_ e8 => ?_)
      refine r_iload_n hC dX8_falls_41 0 rfl ?_
      refine r_icmp_ge hC (tgt := 49) dX8_falls_42 (by decide) (fun c9 => ?_) (fun c9 => ?_)
      · refine r_iconst hC (v := (0)) dX8_falls_49 (by decide) (by decide) (fun x10_ e10 t10 => ?_)
        exact r_iret hC hQ hlk hr (by rw [e10]; rfl) (by decide) (by decide) dX8_falls_50 ⟨_, rfl, rfl, ⟨(by omega), (by omega)⟩⟩
      · refine r_iconst hC (v := (1)) dX8_falls_45 (by decide) (by decide) (fun x11_ e11 t11 => ?_)
        refine r_goto hC (tgt := 50) dX8_falls_46 (by decide) ?_
        exact r_iret hC hQ hlk hr (by rw [e11]; rfl) (by decide) (by decide) dX8_falls_50 ⟨_, rfl, rfl, ⟨(by omega), (by omega)⟩⟩
    · refine r_aload_n hC dX8_falls_13 0 rfl ?_
      obtain ⟨a12_, hb12, hk12, hn12⟩ := hs.row ka0 4 41 60 (by decide) (by decide)
      refine r_getr hC 4 (ci := 8) rfl u8_in (by decide) mT_2_82 dX8_falls_14 ka0 rfl rfl hb12 ?_
      refine r_iload_n hC dX8_falls_17 1 rfl ?_
      refine r_iconst hC (v := (1)) dX8_falls_18 (by decide) (by decide) (fun x13_ e13 t13 => ?_)
      refine r_isub hC dX8_falls_19 (fun x14_ e14 => ?_)
      try have t14 : x14_.toInt = x1.toInt - x13_.toInt := by rw [e14]; exact ti_sub (by omega) (by omega)
      refine x_iaload hC hk12 hn12 (by decide) rfl rfl dX8_falls_20 (by omega) (by omega) (fun x15_ e15 => ?_)
      refine r_goto hC (tgt := 34) dX8_falls_21 (by decide) ?_
      refine r_istore_n hC (lv' := [(2, .int x15_), (0, .ref a0), (1, .int x1)]) dX8_falls_34 (by decide) rfl ?_
      refine r_aload_n hC dX8_falls_35 1 rfl ?_
      refine r_getr hC 4 (ci := 8) rfl u8_in (by decide) mT_2_82 dX8_falls_36 ka0 rfl rfl hb12 ?_
      refine r_iload_n hC dX8_falls_39 2 rfl ?_
      refine x_iaload hC hk12 hn12 (by decide) rfl rfl dX8_falls_40 (by omega) (by omega) (fun x16_ e16 => ?_)
      refine r_iload_n hC dX8_falls_41 0 rfl ?_
      refine r_icmp_ge hC (tgt := 49) dX8_falls_42 (by decide) (fun c17 => ?_) (fun c17 => ?_)
      · refine r_iconst hC (v := (0)) dX8_falls_49 (by decide) (by decide) (fun x18_ e18 t18 => ?_)
        exact r_iret hC hQ hlk hr (by rw [e18]; rfl) (by decide) (by decide) dX8_falls_50 ⟨_, rfl, rfl, ⟨(by omega), (by omega)⟩⟩
      · refine r_iconst hC (v := (1)) dX8_falls_45 (by decide) (by decide) (fun x19_ e19 t19 => ?_)
        refine r_goto hC (tgt := 50) dX8_falls_46 (by decide) ?_
        exact r_iret hC hQ hlk hr (by rw [e19]; rfl) (by decide) (by decide) dX8_falls_50 ⟨_, rfl, rfl, ⟨(by omega), (by omega)⟩⟩
  · refine r_iconst hC (v := (0)) dX8_falls_7 (by decide) (by decide) (fun x20_ e20 t20 => ?_)
    exact r_iret hC hQ hlk hr (by rw [e20]; rfl) (by decide) (by decide) dX8_falls_8 ⟨_, rfl, rfl, ⟨(by omega), (by omega)⟩⟩
set_option maxHeartbeats 4000000 in
set_option maxRecDepth 100000 in
theorem c_X8_isLetting (g : GG) (l : Launch) (K len : Nat → Nat) (I : Nat → Nat → Int32) (J : Nat → Nat → Int64) (R : Nat → Nat → Option Nat) (hs : Sf K len I R) (a0 : Nat) (ka0 : K a0 = 9) (x1 : Int32) : Ct g l yX8_isLetting cX8_isLetting 2 (Option.some Jvm.ClassFile.FieldType.boolean) rmX8_isLetting [.ref a0, .int x1] (K, len, I, J, R) (pI0 (K, len, I, J, R) (fun r => (0 ≤ r.toInt) ∧ (r.toInt ≤ 1))) := by
  refine Ct_intro (by decide +kernel) (Nat.le_of_ble_eq_true rfl) (fun X hC hL hKK hNm hr hlk hQ => ?_)
  subst hL
  have hC : Cx g X cX8_isLetting "HillTap" 2 rmX8_isLetting := hC
  show P g X 2 0 [(0, .ref a0), (1, .int x1)] [] 0 0 (K, len, I, J, R)
  have hF : Fr K [] I I := Fr.refl
  have b_x1 := ti_rng x1
  refine r_aload_n hC dX8_isLetting_0 0 rfl ?_
  refine r_iload_n hC dX8_isLetting_1 1 rfl ?_
  refine r_callV hC (As := [.int x1]) (rest := []) (ci := 8) (c_X8_falls g (xL X) K len I J R hs a0 ka0 x1) mT_4_35 mT_1_1 mT_4_32 mT_4_34 mP_39 okX8_falls ⟨by decide, by decide⟩ rfl (by show kO (K a0) = _; rw [ka0]; rfl) rfl rfl (Nat.le_of_ble_eq_true rfl) ⟨by decide, by decide⟩ dX8_isLetting_2 (aI0 (F := fun st M => P g X 2 5 [(0, .ref a0), (1, .int x1)] st _ _ M) (M := (K, len, I, J, R)) fun x1_ h1 => ?_)
  obtain ⟨k1_0, k1_1⟩ := h1
  show P g X 2 5 [(0, .ref a0), (1, .int x1)] [.int x1_] _ _ (K, len, I, J, R)
  refine r_if_eq hC (tgt := 22) dX8_isLetting_5 (by decide) (fun c2 => ?_) (fun c2 => ?_)
  · refine r_iconst hC (v := (0)) dX8_isLetting_22 (by decide) (by decide) (fun x3_ e3 t3 => ?_)
    exact r_iret hC hQ hlk hr (by rw [e3]; rfl) (by decide) (by decide) dX8_isLetting_23 ⟨_, rfl, rfl, ⟨(by omega), (by omega)⟩⟩
  · refine r_aload_n hC dX8_isLetting_8 0 rfl ?_
    refine r_iload_n hC dX8_isLetting_9 1 rfl ?_
    refine r_iconst hC (v := (1)) dX8_isLetting_10 (by decide) (by decide) (fun x4_ e4 t4 => ?_)
    refine r_isub hC dX8_isLetting_11 (fun x5_ e5 => ?_)
    try have t5 : x5_.toInt = x1.toInt - x4_.toInt := by rw [e5]; exact ti_sub (by omega) (by omega)
    refine r_callV hC (As := [.int x5_]) (rest := []) (ci := 8) (c_X8_falls g (xL X) K len I J R hs a0 ka0 x5_) mT_4_35 mT_1_1 mT_4_32 mT_4_34 mP_39 okX8_falls ⟨by decide, by decide⟩ rfl (by show kO (K a0) = _; rw [ka0]; rfl) rfl rfl (Nat.le_of_ble_eq_true rfl) ⟨by decide, by decide⟩ dX8_isLetting_12 (aI0 (F := fun st M => P g X 2 15 [(0, .ref a0), (1, .int x1)] st _ _ M) (M := (K, len, I, J, R)) fun x6_ h6 => ?_)
    obtain ⟨k6_0, k6_1⟩ := h6
    show P g X 2 15 [(0, .ref a0), (1, .int x1)] [.int x6_] _ _ (K, len, I, J, R)
    refine r_if_ne hC (tgt := 22) dX8_isLetting_15 (by decide) (fun c7 => ?_) (fun c7 => ?_)
    · refine r_iconst hC (v := (0)) dX8_isLetting_22 (by decide) (by decide) (fun x8_ e8 t8 => ?_)
      exact r_iret hC hQ hlk hr (by rw [e8]; rfl) (by decide) (by decide) dX8_isLetting_23 ⟨_, rfl, rfl, ⟨(by omega), (by omega)⟩⟩
    · refine r_iconst hC (v := (1)) dX8_isLetting_18 (by decide) (by decide) (fun x9_ e9 t9 => ?_)
      refine r_goto hC (tgt := 23) dX8_isLetting_19 (by decide) ?_
      exact r_iret hC hQ hlk hr (by rw [e9]; rfl) (by decide) (by decide) dX8_isLetting_23 ⟨_, rfl, rfl, ⟨(by omega), (by omega)⟩⟩
set_option maxHeartbeats 4000000 in
set_option maxRecDepth 100000 in
theorem c_X8_countLettings (g : GG) (l : Launch) (K len : Nat → Nat) (I : Nat → Nat → Int32) (J : Nat → Nat → Int64) (R : Nat → Nat → Option Nat) (hs : Sf K len I R) (a0 : Nat) (ka0 : K a0 = 9) : Ct g l yX8_countLettings cX8_countLettings 3 (Option.some Jvm.ClassFile.FieldType.int) rmX8_countLettings [.ref a0] (K, len, I, J, R) (pI0 (K, len, I, J, R) (fun r => True)) := by
  refine Ct_intro (by decide +kernel) (Nat.le_of_ble_eq_true rfl) (fun X hC hL hKK hNm hr hlk hQ => ?_)
  subst hL
  have hC : Cx g X cX8_countLettings "HillTap" 3 rmX8_countLettings := hC
  show P g X 3 0 [(0, .ref a0)] [] 0 0 (K, len, I, J, R)
  have hF : Fr K [] I I := Fr.refl
  refine r_iconst hC (v := (0)) dX8_countLettings_0 (by decide) (by decide) (fun x1_ e1 t1 => ?_)
  refine r_istore_n hC (lv' := [(1, .int x1_), (0, .ref a0)]) dX8_countLettings_1 (by decide) rfl ?_
  refine r_iconst hC (v := (0)) dX8_countLettings_2 (by decide) (by decide) (fun x2_ e2 t2 => ?_)
  refine r_istore_n hC (lv' := [(2, .int x2_), (1, .int x1_), (0, .ref a0)]) dX8_countLettings_3 (by decide) rfl ?_
  have LP3 : ∀ (mu : Nat) (x3_2 : Int32) (x3_1 : Int32) (v3_0 : 0 ≤ x3_2.toInt) (v3_1 : x3_2.toInt ≤ 60), (60 - x3_2.toInt).toNat = mu → P g X 3 4 [(0, .ref a0), (1, .int x3_1), (2, .int x3_2)] [] 0 0 (K, len, I, J, R) := by
    intro mu; induction mu using Nat.strongRecOn with | ind mu ih => ?_
    intro x3_2 x3_1 v3_0 v3_1 hmu
    have ih3 := ih
    clear ih
    have hmu3 := hmu
    clear hmu
    refine r_iload_n hC dX8_countLettings_4 2 rfl ?_
    refine r_bipush hC (v := (60)) dX8_countLettings_5 (by decide) (by decide) (fun x4_ e4 t4 => ?_)
    refine r_icmp_ge hC (tgt := 27) dX8_countLettings_7 (by decide) (fun c5 => ?_) (fun c5 => ?_)
    · refine r_iload_n hC dX8_countLettings_27 1 rfl ?_
      exact r_iret hC hQ hlk hr rfl (by decide) (by decide) dX8_countLettings_28 ⟨_, rfl, rfl, trivial⟩
    · refine r_aload_n hC dX8_countLettings_10 0 rfl ?_
      refine r_iload_n hC dX8_countLettings_11 2 rfl ?_
      refine r_callV hC (As := [.int x3_2]) (rest := []) (ci := 8) (c_X8_isLetting g (xL X) K len I J R hs a0 ka0 x3_2) mT_4_31 mT_1_1 mT_4_28 mT_4_30 mP_38 okX8_isLetting ⟨by decide, by decide⟩ rfl (by show kO (K a0) = _; rw [ka0]; rfl) rfl rfl (Nat.le_of_ble_eq_true rfl) ⟨by decide, by decide⟩ dX8_countLettings_12 (aI0 (F := fun st M => P g X 3 15 [(0, .ref a0), (1, .int x3_1), (2, .int x3_2)] st _ _ M) (M := (K, len, I, J, R)) fun x6_ h6 => ?_)
      obtain ⟨k6_0, k6_1⟩ := h6
      show P g X 3 15 [(0, .ref a0), (1, .int x3_1), (2, .int x3_2)] [.int x6_] _ _ (K, len, I, J, R)
      refine r_if_eq hC (tgt := 21) dX8_countLettings_15 (by decide) (fun c7 => ?_) (fun c7 => ?_)
      · obtain ⟨x8_, e8⟩ : ∃ z : Int32, z = x3_2 + Int32.ofInt (1) := ⟨_, rfl⟩
        refine r_iinc hC (j := 2) (v := x8_) (lv' := [(2, .int x8_), (0, .ref a0), (1, .int x3_1)]) dX8_countLettings_21 rfl (by rw [e8]) (by decide) rfl ?_
        try have t8 : x8_.toInt = x3_2.toInt + (1) := by rw [e8]; exact (ti_add (b := Int32.ofInt (1)) (by show _ ≤ _ + (1 : Int); omega) (by show _ + (1 : Int) ≤ _; omega))
        refine r_goto hC (tgt := 4) dX8_countLettings_24 (by decide) ?_
        refine r_sub [1, 2, 0] rfl ?_
        exact ih3 ((60 - x8_.toInt).toNat) (by omega) x8_ x3_1 (by omega) (by omega) rfl
      · obtain ⟨x9_, e9⟩ : ∃ z : Int32, z = x3_1 + Int32.ofInt (1) := ⟨_, rfl⟩
        refine r_iinc hC (j := 1) (v := x9_) (lv' := [(1, .int x9_), (0, .ref a0), (2, .int x3_2)]) dX8_countLettings_18 rfl (by rw [e9]) (by decide) rfl ?_
        try have t9 : x9_.toInt = x3_1.toInt + (1) := by rw [e9]; exact (ti_add (b := Int32.ofInt (1)) (by show _ ≤ _ + (1 : Int); omega) (by show _ + (1 : Int) ≤ _; omega))
        obtain ⟨x10_, e10⟩ : ∃ z : Int32, z = x3_2 + Int32.ofInt (1) := ⟨_, rfl⟩
        refine r_iinc hC (j := 2) (v := x10_) (lv' := [(2, .int x10_), (1, .int x9_), (0, .ref a0)]) dX8_countLettings_21 rfl (by rw [e10]) (by decide) rfl ?_
        try have t10 : x10_.toInt = x3_2.toInt + (1) := by rw [e10]; exact (ti_add (b := Int32.ofInt (1)) (by show _ ≤ _ + (1 : Int); omega) (by show _ + (1 : Int) ≤ _; omega))
        refine r_goto hC (tgt := 4) dX8_countLettings_24 (by decide) ?_
        refine r_sub [2, 1, 0] rfl ?_
        exact ih3 ((60 - x10_.toInt).toNat) (by omega) x10_ x9_ (by omega) (by omega) rfl
  refine r_sub [2, 1, 0] rfl ?_
  exact LP3 _ x2_ x1_ (by omega) (by omega) rfl
set_option maxHeartbeats 4000000 in
set_option maxRecDepth 100000 in
theorem c_X8_noughtBy (g : GG) (l : Launch) (K len : Nat → Nat) (I : Nat → Nat → Int32) (J : Nat → Nat → Int64) (R : Nat → Nat → Option Nat) (hs : Sf K len I R) (x0 : Int32) (x1 : Int32) (x2 : Int32) : Ct g l yX8_noughtBy cX8_noughtBy 3 (Option.some Jvm.ClassFile.FieldType.int) rmX8_noughtBy [.int x0, .int x1, .int x2] (K, len, I, J, R) (pI0 (K, len, I, J, R) (fun r => True)) := by
  refine Ct_intro (by decide +kernel) (Nat.le_of_ble_eq_true rfl) (fun X hC hL hKK hNm hr hlk hQ => ?_)
  subst hL
  have hC : Cx g X cX8_noughtBy "HillTap" 3 rmX8_noughtBy := hC
  show P g X 3 0 [(0, .int x0), (1, .int x1), (2, .int x2)] [] 0 0 (K, len, I, J, R)
  have hF : Fr K [] I I := Fr.refl
  have b_x0 := ti_rng x0
  have b_x1 := ti_rng x1
  have b_x2 := ti_rng x2
  refine r_iload_n hC dX8_noughtBy_0 1 rfl ?_
  refine r_if_le hC (tgt := 9) dX8_noughtBy_1 (by decide) (fun c1 => ?_) (fun c1 => ?_)
  · refine r_bipush hC (v := (-2)) dX8_noughtBy_9 (by decide) (by decide) (fun x2_ e2 t2 => ?_)
    exact r_iret hC hQ hlk hr rfl (by decide) (by decide) dX8_noughtBy_11 ⟨_, rfl, rfl, trivial⟩
  · refine r_iload_n hC dX8_noughtBy_4 2 rfl ?_
    refine r_iload_n hC dX8_noughtBy_5 1 rfl ?_
    refine r_icmp_gt hC (tgt := 12) dX8_noughtBy_6 (by decide) (fun c3 => ?_) (fun c3 => ?_)
    · refine r_iload_n hC dX8_noughtBy_12 0 rfl ?_
      refine r_iload_n hC dX8_noughtBy_13 2 rfl ?_
      refine r_iload_n hC dX8_noughtBy_14 2 rfl ?_
      refine r_iload_n hC dX8_noughtBy_15 1 rfl ?_
      refine r_isub hC dX8_noughtBy_16 (fun x4_ e4 => ?_)
      try have t4 : x4_.toInt = x2.toInt - x1.toInt := by rw [e4]; exact ti_sub (by omega) (by omega)
      refine r_idiv hC dX8_noughtBy_17 (ne_0 (by omega)) (fun x5_ e5 => ?_)
      refine r_iadd hC dX8_noughtBy_18 (fun x6_ e6 => ?_)
      try have t6 : x6_.toInt = x0.toInt + x5_.toInt := by rw [e6]; exact ti_add (by omega) (by omega)
      exact r_iret hC hQ hlk hr rfl (by decide) (by decide) dX8_noughtBy_19 ⟨_, rfl, rfl, trivial⟩
    · refine r_bipush hC (v := (-2)) dX8_noughtBy_9 (by decide) (by decide) (fun x7_ e7 t7 => ?_)
      exact r_iret hC hQ hlk hr rfl (by decide) (by decide) dX8_noughtBy_11 ⟨_, rfl, rfl, trivial⟩

