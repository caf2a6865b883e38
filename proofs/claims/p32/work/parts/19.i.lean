theorem Sf.late {K len : Nat → Nat} {I : Nat → Nat → Int32} {R : Nat → Nat → Option Nat} (h : Sf K len I R) {hm kd mo : Nat} (k1 : K hm = 10) (k2 : R hm 17 = some kd) (k3 : R hm 19 = some mo) {i x y : Int32} (h0 : 0 ≤ i.toInt) (hl : i.toInt < (I hm 7).toInt) (ex : x = I kd i.toNatClampNeg) (hx : x.toInt = 2) (ey : y = I mo i.toNatClampNeg) : 1 ≤ y.toInt ∧ y.toInt ≤ 20 := by
  have hc := clampI h0
  rw [ey]
  exact h.2.2.2.2.2.2.2.2 hm kd mo k1 k2 k3 i.toNatClampNeg (by omega) (by rw [← ex]; exact hx)
abbrev rmX10_noughtBy : Room := { frames := 0, cells := 0, slots := 0, locals := 0 }
abbrev rmX10_newOf : Room := { frames := 0, cells := 0, slots := 0, locals := 0 }
abbrev rmX10_meanOf : Room := { frames := 0, cells := 0, slots := 0, locals := 0 }
abbrev rmX10_rainOf : Room := { frames := 0, cells := 0, slots := 0, locals := 0 }
abbrev rmX10_addOf : Room := { frames := 1, cells := 0, slots := 0, locals := 25 }
abbrev rmX10_speedOf : Room := { frames := 0, cells := 0, slots := 0, locals := 0 }
abbrev rmX10_runs : Room := { frames := 2, cells := 0, slots := 0, locals := 49 }
abbrev rmX10_runsAsTold : Room := { frames := 3, cells := 0, slots := 0, locals := 77 }
abbrev rmX10_speeds : Room := { frames := 0, cells := 0, slots := 0, locals := 0 }
abbrev rmX10_waveOf : Room := { frames := 1, cells := 0, slots := 0, locals := 23 }
set_option maxHeartbeats 4000000 in
set_option maxRecDepth 100000 in
theorem c_X10_noughtBy (g : GG) (l : Launch) (K len : Nat → Nat) (I : Nat → Nat → Int32) (J : Nat → Nat → Int64) (R : Nat → Nat → Option Nat) (hs : Sf K len I R) (x0 : Int32) (x1 : Int32) (x2 : Int32) : Ct g l yX10_noughtBy cX10_noughtBy 3 (Option.some Jvm.ClassFile.FieldType.int) rmX10_noughtBy [.int x0, .int x1, .int x2] (K, len, I, J, R) (pI0 (K, len, I, J, R) (fun r => True)) := by
  refine Ct_intro (by decide +kernel) (Nat.le_of_ble_eq_true rfl) (fun X hC hL hKK hNm hr hlk hQ => ?_)
  subst hL
  have hC : Cx g X cX10_noughtBy "HillTapModel" 3 rmX10_noughtBy := hC
  show P g X 3 0 [(0, .int x0), (1, .int x1), (2, .int x2)] [] 0 0 (K, len, I, J, R)
  have hF : Fr K [] I I := Fr.refl
  have b_x0 := ti_rng x0
  have b_x1 := ti_rng x1
  have b_x2 := ti_rng x2
  refine r_iload_n hC dX10_noughtBy_0 1 rfl ?_
  refine r_if_le hC (tgt := 19) dX10_noughtBy_1 (by decide) (fun c1 => ?_) (fun c1 => ?_)
  · refine r_bipush hC (v := (-2)) dX10_noughtBy_19 (by decide) (by decide) (fun x2_ e2 t2 => ?_)
    exact r_iret hC hQ hlk hr rfl (by decide) (by decide) dX10_noughtBy_21 ⟨_, rfl, rfl, trivial⟩
  · refine r_iload_n hC dX10_noughtBy_4 2 rfl ?_
    refine r_iload_n hC dX10_noughtBy_5 1 rfl ?_
    refine r_icmp_le hC (tgt := 19) dX10_noughtBy_6 (by decide) (fun c3 => ?_) (fun c3 => ?_)
    · refine r_bipush hC (v := (-2)) dX10_noughtBy_19 (by decide) (by decide) (fun x4_ e4 t4 => ?_)
      exact r_iret hC hQ hlk hr rfl (by decide) (by decide) dX10_noughtBy_21 ⟨_, rfl, rfl, trivial⟩
    · refine r_iload_n hC dX10_noughtBy_9 0 rfl ?_
      refine r_iload_n hC dX10_noughtBy_10 2 rfl ?_
      refine r_iload_n hC dX10_noughtBy_11 2 rfl ?_
      refine r_iload_n hC dX10_noughtBy_12 1 rfl ?_
      refine r_isub hC dX10_noughtBy_13 (fun x5_ e5 => ?_)
      try have t5 : x5_.toInt = x2.toInt - x1.toInt := by rw [e5]; exact ti_sub (by omega) (by omega)
      refine r_idiv hC dX10_noughtBy_14 (ne_0 (by omega)) (fun x6_ e6 => ?_)
      refine r_iadd hC dX10_noughtBy_15 (fun x7_ e7 => ?_)
      try have t7 : x7_.toInt = x0.toInt + x6_.toInt := by rw [e7]; exact ti_add (by omega) (by omega)
      refine r_goto hC (tgt := 21) dX10_noughtBy_16 (by decide) ?_
      exact r_iret hC hQ hlk hr rfl (by decide) (by decide) dX10_noughtBy_21 ⟨_, rfl, rfl, trivial⟩
set_option maxHeartbeats 4000000 in
set_option maxRecDepth 100000 in
theorem c_X10_newOf (g : GG) (l : Launch) (K len : Nat → Nat) (I : Nat → Nat → Int32) (J : Nat → Nat → Int64) (R : Nat → Nat → Option Nat) (hs : Sf K len I R) (a0 : Nat) (ka0 : K a0 = 11) (x1 : Int32) (x2 : Int32) (hm : Nat) (hbm : R a0 3 = some hm) (khm : K hm = 10) (p0 : 0 ≤ x2.toInt) (p1 : x2.toInt ≤ 59) : Ct g l yX10_newOf cX10_newOf 5 (Option.some Jvm.ClassFile.FieldType.int) rmX10_newOf [.ref a0, .int x1, .int x2] (K, len, I, J, R) (pI0 (K, len, I, J, R) (fun r => True)) := by
  refine Ct_intro (by decide +kernel) (Nat.le_of_ble_eq_true rfl) (fun X hC hL hKK hNm hr hlk hQ => ?_)
  subst hL
  have hC : Cx g X cX10_newOf "HillTapModel" 5 rmX10_newOf := hC
  show P g X 5 0 [(0, .ref a0), (1, .int x1), (2, .int x2)] [] 0 0 (K, len, I, J, R)
  have hF : Fr K [] I I := Fr.refl
  have b_x1 := ti_rng x1
  have b_x2 := ti_rng x2
  refine r_aload_n hC dX10_newOf_0 0 rfl ?_
  refine r_getr hC 3 (ci := 10) rfl u10_in (by decide) mT_4_238 dX10_newOf_1 ka0 rfl rfl hbm ?_
  refine r_getiN hC 0 (ci := 9) rfl u9_in (by decide) nF_0 dX10_newOf_4 khm rfl rfl (fun x1_ e1 => ?_)
  have f1 : x1_.toInt = (I hm 0).toInt := by rw [e1]
  refine r_istore_n hC (lv' := [(3, .int x1_), (0, .ref a0), (1, .int x1), (2, .int x2)]) dX10_newOf_7 (by decide) rfl ?_
  refine r_iconst hC (v := (0)) dX10_newOf_8 (by decide) (by decide) (fun x2_ e2 t2 => ?_)
  refine r_istore hC (lv' := [(4, .int x2_), (3, .int x1_), (0, .ref a0), (1, .int x1), (2, .int x2)]) dX10_newOf_9 (by decide) rfl ?_
  have LP3 : ∀ (mu : Nat) (x3_4 : Int32) (x3_3 : Int32) (v3_0 : 0 ≤ x3_4.toInt) (v3_1 : x3_4.toInt ≤ 59), (59 - x3_4.toInt).toNat = mu → P g X 5 11 [(0, .ref a0), (1, .int x1), (2, .int x2), (3, .int x3_3), (4, .int x3_4)] [] 0 0 (K, len, I, J, R) := by
    intro mu; induction mu using Nat.strongRecOn with | ind mu ih => ?_
    intro x3_4 x3_3 v3_0 v3_1 hmu
    have ih3 := ih
    clear ih
    have hmu3 := hmu
    clear hmu
    refine r_iload hC dX10_newOf_11 4 rfl ?_
    refine r_iload_n hC dX10_newOf_13 2 rfl ?_
    refine r_icmp_ge hC (tgt := 46) dX10_newOf_14 (by decide) (fun c4 => ?_) (fun c4 => ?_)
    · refine r_aload_n hC dX10_newOf_46 0 rfl ?_
      obtain ⟨a5_, hb5, hk5, hn5⟩ := hs.row ka0 15 85 60 (by decide) (by decide)
      refine r_getr hC 15 (ci := 10) rfl u10_in (by decide) mT_5_10 dX10_newOf_47 ka0 rfl rfl hb5 ?_
      refine r_iload_n hC dX10_newOf_50 2 rfl ?_
      refine x_iaload hC hk5 hn5 (by decide) rfl rfl dX10_newOf_51 (by omega) (by omega) (fun x6_ e6 => ?_)
      refine r_iload_n hC dX10_newOf_52 3 rfl ?_
      refine r_icmp_le hC (tgt := 72) dX10_newOf_53 (by decide) (fun c7 => ?_) (fun c7 => ?_)
      · refine r_iconst hC (v := (0)) dX10_newOf_72 (by decide) (by decide) (fun x8_ e8 t8 => ?_)
        exact r_iret hC hQ hlk hr rfl (by decide) (by decide) dX10_newOf_73 ⟨_, rfl, rfl, trivial⟩
      · refine r_iload_n hC dX10_newOf_56 1 rfl ?_
        refine r_aload_n hC dX10_newOf_57 0 rfl ?_
        refine r_getr hC 15 (ci := 10) rfl u10_in (by decide) mT_5_10 dX10_newOf_58 ka0 rfl rfl hb5 ?_
        refine r_iload_n hC dX10_newOf_61 2 rfl ?_
        refine x_iaload hC hk5 hn5 (by decide) rfl rfl dX10_newOf_62 (by omega) (by omega) (fun x9_ e9 => ?_)
        refine r_iload_n hC dX10_newOf_63 3 rfl ?_
        refine r_isub hC dX10_newOf_64 (fun x10_ e10 => ?_)
        try have t10 : x10_.toInt = x9_.toInt - x3_3.toInt := by rw [e10]; exact ti_sub (by omega) (by omega)
        refine r_imul hC dX10_newOf_65 (fun x11_ e11 => ?_)
        refine r_bipush hC (v := (100)) dX10_newOf_66 (by decide) (by decide) (fun x12_ e12 t12 => ?_)
        refine r_idiv hC dX10_newOf_68 (ne_0 (by omega)) (fun x13_ e13 => ?_)
        refine r_goto hC (tgt := 73) dX10_newOf_69 (by decide) ?_
        exact r_iret hC hQ hlk hr rfl (by decide) (by decide) dX10_newOf_73 ⟨_, rfl, rfl, trivial⟩
    · refine r_aload_n hC dX10_newOf_17 0 rfl ?_
      obtain ⟨a14_, hb14, hk14, hn14⟩ := hs.row ka0 15 85 60 (by decide) (by decide)
      refine r_getr hC 15 (ci := 10) rfl u10_in (by decide) mT_5_10 dX10_newOf_18 ka0 rfl rfl hb14 ?_
      refine r_iload hC dX10_newOf_21 4 rfl ?_
      refine x_iaload hC hk14 hn14 (by decide) rfl rfl dX10_newOf_23 (by omega) (by omega) (fun x15_ e15 => ?_)
      refine r_iload_n hC dX10_newOf_24 3 rfl ?_
      refine r_icmp_le hC (tgt := 38) dX10_newOf_25 (by decide) (fun c16 => ?_) (fun c16 => ?_)
      · refine r_iload_n hC dX10_newOf_38 3 rfl ?_
        refine r_istore_n hC (lv' := [(3, .int x3_3), (0, .ref a0), (1, .int x1), (2, .int x2), (4, .int x3_4)]) dX10_newOf_39 (by decide) rfl ?_
        obtain ⟨x17_, e17⟩ : ∃ z : Int32, z = x3_4 + Int32.ofInt (1) := ⟨_, rfl⟩
        refine r_iinc hC (j := 4) (v := x17_) (lv' := [(4, .int x17_), (3, .int x3_3), (0, .ref a0), (1, .int x1), (2, .int x2)]) dX10_newOf_40 rfl (by rw [e17]) (by decide) rfl ?_
        try have t17 : x17_.toInt = x3_4.toInt + (1) := by rw [e17]; exact (ti_add (b := Int32.ofInt (1)) (by show _ ≤ _ + (1 : Int); omega) (by show _ + (1 : Int) ≤ _; omega))
        refine r_goto hC (tgt := 11) dX10_newOf_43 (by decide) ?_
        refine r_sub [2, 3, 4, 1, 0] rfl ?_
        exact ih3 ((59 - x17_.toInt).toNat) (by omega) x17_ x3_3 (by omega) (by omega) rfl
      · refine r_aload_n hC dX10_newOf_28 0 rfl ?_
        refine r_getr hC 15 (ci := 10) rfl u10_in (by decide) mT_5_10 dX10_newOf_29 ka0 rfl rfl hb14 ?_
        refine r_iload hC dX10_newOf_32 4 rfl ?_
        refine x_iaload hC hk14 hn14 (by decide) rfl rfl dX10_newOf_34 (by omega) (by omega) (fun x18_ e18 => ?_)
        refine r_goto hC (tgt := 39) dX10_newOf_35 (by decide) ?_
        refine r_istore_n hC (lv' := [(3, .int x18_), (0, .ref a0), (1, .int x1), (2, .int x2), (4, .int x3_4)]) dX10_newOf_39 (by decide) rfl ?_
        obtain ⟨x19_, e19⟩ : ∃ z : Int32, z = x3_4 + Int32.ofInt (1) := ⟨_, rfl⟩
        refine r_iinc hC (j := 4) (v := x19_) (lv' := [(4, .int x19_), (3, .int x18_), (0, .ref a0), (1, .int x1), (2, .int x2)]) dX10_newOf_40 rfl (by rw [e19]) (by decide) rfl ?_
        try have t19 : x19_.toInt = x3_4.toInt + (1) := by rw [e19]; exact (ti_add (b := Int32.ofInt (1)) (by show _ ≤ _ + (1 : Int); omega) (by show _ + (1 : Int) ≤ _; omega))
        refine r_goto hC (tgt := 11) dX10_newOf_43 (by decide) ?_
        refine r_sub [2, 3, 4, 1, 0] rfl ?_
        exact ih3 ((59 - x19_.toInt).toNat) (by omega) x19_ x18_ (by omega) (by omega) rfl
  refine r_sub [2, 3, 4, 1, 0] rfl ?_
  exact LP3 _ x2_ x1_ (by omega) (by omega) rfl
set_option maxHeartbeats 4000000 in
set_option maxRecDepth 100000 in
theorem c_X10_meanOf (g : GG) (l : Launch) (K len : Nat → Nat) (I : Nat → Nat → Int32) (J : Nat → Nat → Int64) (R : Nat → Nat → Option Nat) (hs : Sf K len I R) (a0 : Nat) (ka0 : K a0 = 11) (x1 : Int32) (x2 : Int32) (p0 : 1 ≤ x1.toInt) (p1 : x1.toInt ≤ 20) (p2 : 0 ≤ x2.toInt) (p3 : x2.toInt ≤ 59) : Ct g l yX10_meanOf cX10_meanOf 6 (Option.some Jvm.ClassFile.FieldType.int) rmX10_meanOf [.ref a0, .int x1, .int x2] (K, len, I, J, R) (pI0 (K, len, I, J, R) (fun r => True)) := by
  refine Ct_intro (by decide +kernel) (Nat.le_of_ble_eq_true rfl) (fun X hC hL hKK hNm hr hlk hQ => ?_)
  subst hL
  have hC : Cx g X cX10_meanOf "HillTapModel" 6 rmX10_meanOf := hC
  show P g X 6 0 [(0, .ref a0), (1, .int x1), (2, .int x2)] [] 0 0 (K, len, I, J, R)
  have hF : Fr K [] I I := Fr.refl
  have b_x1 := ti_rng x1
  have b_x2 := ti_rng x2
  refine r_iload_n hC dX10_meanOf_0 2 rfl ?_
  refine r_iload_n hC dX10_meanOf_1 1 rfl ?_
  refine r_isub hC dX10_meanOf_2 (fun x1_ e1 => ?_)
  try have t1 : x1_.toInt = x2.toInt - x1.toInt := by rw [e1]; exact ti_sub (by omega) (by omega)
  refine r_iconst hC (v := (1)) dX10_meanOf_3 (by decide) (by decide) (fun x2_ e2 t2 => ?_)
  refine r_iadd hC dX10_meanOf_4 (fun x3_ e3 => ?_)
  try have t3 : x3_.toInt = x1_.toInt + x2_.toInt := by rw [e3]; exact ti_add (by omega) (by omega)
  refine r_if_ge hC (tgt := 12) dX10_meanOf_5 (by decide) (fun c4 => ?_) (fun c4 => ?_)
  · refine r_iload_n hC dX10_meanOf_12 2 rfl ?_
    refine r_iload_n hC dX10_meanOf_13 1 rfl ?_
    refine r_isub hC dX10_meanOf_14 (fun x5_ e5 => ?_)
    try have t5 : x5_.toInt = x2.toInt - x1.toInt := by rw [e5]; exact ti_sub (by omega) (by omega)
    refine r_iconst hC (v := (1)) dX10_meanOf_15 (by decide) (by decide) (fun x6_ e6 t6 => ?_)
    refine r_iadd hC dX10_meanOf_16 (fun x7_ e7 => ?_)
    try have t7 : x7_.toInt = x5_.toInt + x6_.toInt := by rw [e7]; exact ti_add (by omega) (by omega)
    refine r_istore_n hC (lv' := [(3, .int x7_), (0, .ref a0), (1, .int x1), (2, .int x2)]) dX10_meanOf_17 (by decide) rfl ?_
    refine r_iconst hC (v := (0)) dX10_meanOf_18 (by decide) (by decide) (fun x8_ e8 t8 => ?_)
    refine r_istore hC (lv' := [(4, .int x8_), (3, .int x7_), (0, .ref a0), (1, .int x1), (2, .int x2)]) dX10_meanOf_19 (by decide) rfl ?_
    refine r_iload_n hC dX10_meanOf_21 1 rfl ?_
    refine r_istore hC (lv' := [(5, .int x7_), (4, .int x8_), (3, .int x7_), (0, .ref a0), (1, .int x1), (2, .int x2)]) dX10_meanOf_22 (by decide) rfl ?_
    have LP9 : ∀ (mu : Nat) (x9_5 : Int32) (x9_4 : Int32) (v9_0 : 0 ≤ x9_5.toInt) (v9_1 : x9_5.toInt ≤ 60), (60 - x9_5.toInt).toNat = mu → P g X 6 24 [(0, .ref a0), (1, .int x1), (2, .int x2), (3, .int x7_), (4, .int x9_4), (5, .int x9_5)] [] 0 0 (K, len, I, J, R) := by
      intro mu; induction mu using Nat.strongRecOn with | ind mu ih => ?_
      intro x9_5 x9_4 v9_0 v9_1 hmu
      have ih9 := ih
      clear ih
      have hmu9 := hmu
      clear hmu
      refine r_iload hC dX10_meanOf_24 5 rfl ?_
      refine r_iload_n hC dX10_meanOf_26 2 rfl ?_
      refine r_icmp_gt hC (tgt := 48) dX10_meanOf_27 (by decide) (fun c10 => ?_) (fun c10 => ?_)
      · refine r_iload hC dX10_meanOf_48 4 rfl ?_
        refine r_iload_n hC dX10_meanOf_50 2 rfl ?_
        refine r_iload_n hC dX10_meanOf_51 3 rfl ?_
        refine r_isub hC dX10_meanOf_52 (fun x11_ e11 => ?_)
        try have t11 : x11_.toInt = x2.toInt - x7_.toInt := by rw [e11]; exact ti_sub (by omega) (by omega)
        refine r_iconst hC (v := (1)) dX10_meanOf_53 (by decide) (by decide) (fun x12_ e12 t12 => ?_)
        refine r_iadd hC dX10_meanOf_54 (fun x13_ e13 => ?_)
        try have t13 : x13_.toInt = x11_.toInt + x12_.toInt := by rw [e13]; exact ti_add (by omega) (by omega)
        refine r_idiv hC dX10_meanOf_55 (ne_0 (by omega)) (fun x14_ e14 => ?_)
        exact r_iret hC hQ hlk hr rfl (by decide) (by decide) dX10_meanOf_56 ⟨_, rfl, rfl, trivial⟩
      · refine r_iload hC dX10_meanOf_30 4 rfl ?_
        refine r_aload_n hC dX10_meanOf_32 0 rfl ?_
        obtain ⟨a15_, hb15, hk15, hn15⟩ := hs.row ka0 15 85 60 (by decide) (by decide)
        refine r_getr hC 15 (ci := 10) rfl u10_in (by decide) mT_5_10 dX10_meanOf_33 ka0 rfl rfl hb15 ?_
        refine r_iload hC dX10_meanOf_36 5 rfl ?_
        refine x_iaload hC hk15 hn15 (by decide) rfl rfl dX10_meanOf_38 (by omega) (by omega) (fun x16_ e16 => ?_)
        refine r_iadd hC dX10_meanOf_39 (fun x17_ e17 => ?_)
        try have t17 : x17_.toInt = x9_4.toInt + x16_.toInt := by rw [e17]; exact ti_add (by omega) (by omega)
        refine r_istore hC (lv' := [(4, .int x17_), (0, .ref a0), (1, .int x1), (2, .int x2), (3, .int x7_), (5, .int x9_5)]) dX10_meanOf_40 (by decide) rfl ?_
        obtain ⟨x18_, e18⟩ : ∃ z : Int32, z = x9_5 + Int32.ofInt (1) := ⟨_, rfl⟩
        refine r_iinc hC (j := 5) (v := x18_) (lv' := [(5, .int x18_), (4, .int x17_), (0, .ref a0), (1, .int x1), (2, .int x2), (3, .int x7_)]) dX10_meanOf_42 rfl (by rw [e18]) (by decide) rfl ?_
        try have t18 : x18_.toInt = x9_5.toInt + (1) := by rw [e18]; exact (ti_add (b := Int32.ofInt (1)) (by show _ ≤ _ + (1 : Int); omega) (by show _ + (1 : Int) ≤ _; omega))
        refine r_goto hC (tgt := 24) dX10_meanOf_45 (by decide) ?_
        refine r_sub [2, 3, 4, 5, 1, 0] rfl ?_
        exact ih9 ((60 - x18_.toInt).toNat) (by omega) x18_ x17_ (by omega) (by omega) rfl
    refine r_sub [3, 4, 5, 2, 1, 0] rfl ?_
    exact LP9 _ x7_ x8_ (by omega) (by omega) rfl
  · refine r_iconst hC (v := (0)) dX10_meanOf_8 (by decide) (by decide) (fun x19_ e19 t19 => ?_)
    refine r_goto hC (tgt := 17) dX10_meanOf_9 (by decide) ?_
    refine r_istore_n hC (lv' := [(3, .int x19_), (0, .ref a0), (1, .int x1), (2, .int x2)]) dX10_meanOf_17 (by decide) rfl ?_
    refine r_iconst hC (v := (0)) dX10_meanOf_18 (by decide) (by decide) (fun x20_ e20 t20 => ?_)
    refine r_istore hC (lv' := [(4, .int x20_), (3, .int x19_), (0, .ref a0), (1, .int x1), (2, .int x2)]) dX10_meanOf_19 (by decide) rfl ?_
    refine r_iload_n hC dX10_meanOf_21 1 rfl ?_
    refine r_istore hC (lv' := [(5, .int x19_), (4, .int x20_), (3, .int x19_), (0, .ref a0), (1, .int x1), (2, .int x2)]) dX10_meanOf_22 (by decide) rfl ?_
    have LP21 : ∀ (mu : Nat) (x21_5 : Int32) (x21_4 : Int32) (v21_0 : 0 ≤ x21_5.toInt) (v21_1 : x21_5.toInt ≤ 60), (60 - x21_5.toInt).toNat = mu → P g X 6 24 [(0, .ref a0), (1, .int x1), (2, .int x2), (3, .int x19_), (4, .int x21_4), (5, .int x21_5)] [] 0 0 (K, len, I, J, R) := by
      intro mu; induction mu using Nat.strongRecOn with | ind mu ih => ?_
      intro x21_5 x21_4 v21_0 v21_1 hmu
      have ih21 := ih
      clear ih
      have hmu21 := hmu
      clear hmu
      refine r_iload hC dX10_meanOf_24 5 rfl ?_
      refine r_iload_n hC dX10_meanOf_26 2 rfl ?_
      refine r_icmp_gt hC (tgt := 48) dX10_meanOf_27 (by decide) (fun c22 => ?_) (fun c22 => ?_)
      · refine r_iload hC dX10_meanOf_48 4 rfl ?_
        refine r_iload_n hC dX10_meanOf_50 2 rfl ?_
        refine r_iload_n hC dX10_meanOf_51 3 rfl ?_
        refine r_isub hC dX10_meanOf_52 (fun x23_ e23 => ?_)
        try have t23 : x23_.toInt = x2.toInt - x19_.toInt := by rw [e23]; exact ti_sub (by omega) (by omega)
        refine r_iconst hC (v := (1)) dX10_meanOf_53 (by decide) (by decide) (fun x24_ e24 t24 => ?_)
        refine r_iadd hC dX10_meanOf_54 (fun x25_ e25 => ?_)
        try have t25 : x25_.toInt = x23_.toInt + x24_.toInt := by rw [e25]; exact ti_add (by omega) (by omega)
        refine r_idiv hC dX10_meanOf_55 (ne_0 (by omega)) (fun x26_ e26 => ?_)
        exact r_iret hC hQ hlk hr rfl (by decide) (by decide) dX10_meanOf_56 ⟨_, rfl, rfl, trivial⟩
      · refine r_iload hC dX10_meanOf_30 4 rfl ?_
        refine r_aload_n hC dX10_meanOf_32 0 rfl ?_
        obtain ⟨a27_, hb27, hk27, hn27⟩ := hs.row ka0 15 85 60 (by decide) (by decide)
        refine r_getr hC 15 (ci := 10) rfl u10_in (by decide) mT_5_10 dX10_meanOf_33 ka0 rfl rfl hb27 ?_
        refine r_iload hC dX10_meanOf_36 5 rfl ?_
        refine x_iaload hC hk27 hn27 (by decide) rfl rfl dX10_meanOf_38 (by omega) (by omega) (fun x28_ e28 => ?_)
        refine r_iadd hC dX10_meanOf_39 (fun x29_ e29 => ?_)
        try have t29 : x29_.toInt = x21_4.toInt + x28_.toInt := by rw [e29]; exact ti_add (by omega) (by omega)
        refine r_istore hC (lv' := [(4, .int x29_), (0, .ref a0), (1, .int x1), (2, .int x2), (3, .int x19_), (5, .int x21_5)]) dX10_meanOf_40 (by decide) rfl ?_
        obtain ⟨x30_, e30⟩ : ∃ z : Int32, z = x21_5 + Int32.ofInt (1) := ⟨_, rfl⟩
        refine r_iinc hC (j := 5) (v := x30_) (lv' := [(5, .int x30_), (4, .int x29_), (0, .ref a0), (1, .int x1), (2, .int x2), (3, .int x19_)]) dX10_meanOf_42 rfl (by rw [e30]) (by decide) rfl ?_
        try have t30 : x30_.toInt = x21_5.toInt + (1) := by rw [e30]; exact (ti_add (b := Int32.ofInt (1)) (by show _ ≤ _ + (1 : Int); omega) (by show _ + (1 : Int) ≤ _; omega))
        refine r_goto hC (tgt := 24) dX10_meanOf_45 (by decide) ?_
        refine r_sub [2, 3, 4, 5, 1, 0] rfl ?_
        exact ih21 ((60 - x30_.toInt).toNat) (by omega) x30_ x29_ (by omega) (by omega) rfl
    refine r_sub [3, 4, 5, 2, 1, 0] rfl ?_
    exact LP21 _ x19_ x20_ (by omega) (by omega) rfl
set_option maxHeartbeats 4000000 in
set_option maxRecDepth 100000 in
theorem c_X10_rainOf (g : GG) (l : Launch) (K len : Nat → Nat) (I : Nat → Nat → Int32) (J : Nat → Nat → Int64) (R : Nat → Nat → Option Nat) (hs : Sf K len I R) (a0 : Nat) (ka0 : K a0 = 11) (x1 : Int32) (hm : Nat) (hbm : R a0 3 = some hm) (khm : K hm = 10) (p0 : 0 ≤ x1.toInt) (p1 : x1.toInt ≤ 59) : Ct g l yX10_rainOf cX10_rainOf 4 (Option.some Jvm.ClassFile.FieldType.int) rmX10_rainOf [.ref a0, .int x1] (K, len, I, J, R) (pI0 (K, len, I, J, R) (fun r => True)) := by
  refine Ct_intro (by decide +kernel) (Nat.le_of_ble_eq_true rfl) (fun X hC hL hKK hNm hr hlk hQ => ?_)
  subst hL
  have hC : Cx g X cX10_rainOf "HillTapModel" 4 rmX10_rainOf := hC
  show P g X 4 0 [(0, .ref a0), (1, .int x1)] [] 0 0 (K, len, I, J, R)
  have hF : Fr K [] I I := Fr.refl
  have b_x1 := ti_rng x1
  refine r_iconst hC (v := (0)) dX10_rainOf_0 (by decide) (by decide) (fun x1_ e1 t1 => ?_)
  refine r_istore_n hC (lv' := [(2, .int x1_), (0, .ref a0), (1, .int x1)]) dX10_rainOf_1 (by decide) rfl ?_
  refine r_iload_n hC dX10_rainOf_2 2 rfl ?_
  refine r_iconst hC (v := (5)) dX10_rainOf_3 (by decide) (by decide) (fun x2_ e2 t2 => ?_)
  refine r_icmp_ge hC (tgt := 11) dX10_rainOf_4 (by decide) (fun c3 => ?_) (fun c3 => ?_)
  · refine r_iload_n hC dX10_rainOf_11 2 rfl ?_
    refine r_iconst hC (v := (5)) dX10_rainOf_12 (by decide) (by decide) (fun x4_ e4 t4 => ?_)
    refine r_isub hC dX10_rainOf_13 (fun x5_ e5 => ?_)
    try have t5 : x5_.toInt = x1.toInt - x4_.toInt := by rw [e5]; exact ti_sub (by omega) (by omega)
    refine r_iconst hC (v := (1)) dX10_rainOf_14 (by decide) (by decide) (fun x6_ e6 t6 => ?_)
    refine r_iadd hC dX10_rainOf_15 (fun x7_ e7 => ?_)
    try have t7 : x7_.toInt = x5_.toInt + x6_.toInt := by rw [e7]; exact ti_add (by omega) (by omega)
    refine r_istore_n hC (lv' := [(3, .int x7_), (2, .int x1_), (0, .ref a0), (1, .int x1)]) dX10_rainOf_16 (by decide) rfl ?_
    have LP8 : ∀ (mu : Nat) (x8_3 : Int32) (x8_2 : Int32) (v8_0 : 0 ≤ x8_3.toInt) (v8_1 : x8_3.toInt ≤ 60), (60 - x8_3.toInt).toNat = mu → P g X 4 17 [(0, .ref a0), (1, .int x1), (2, .int x8_2), (3, .int x8_3)] [] 0 0 (K, len, I, J, R) := by
      intro mu; induction mu using Nat.strongRecOn with | ind mu ih => ?_
      intro x8_3 x8_2 v8_0 v8_1 hmu
      have ih8 := ih
      clear ih
      have hmu8 := hmu
      clear hmu
      refine r_iload_n hC dX10_rainOf_17 3 rfl ?_
      refine r_iload_n hC dX10_rainOf_18 1 rfl ?_
      refine r_icmp_gt hC (tgt := 40) dX10_rainOf_19 (by decide) (fun c9 => ?_) (fun c9 => ?_)
      · refine r_iload_n hC dX10_rainOf_40 2 rfl ?_
        exact r_iret hC hQ hlk hr rfl (by decide) (by decide) dX10_rainOf_41 ⟨_, rfl, rfl, trivial⟩
      · refine r_iload_n hC dX10_rainOf_22 2 rfl ?_
        refine r_aload_n hC dX10_rainOf_23 0 rfl ?_
        refine r_getr hC 3 (ci := 10) rfl u10_in (by decide) mT_4_238 dX10_rainOf_24 ka0 rfl rfl hbm ?_
        obtain ⟨a10_, hb10, hk10, hn10⟩ := hs.row khm 15 74 60 (by decide) (by decide)
        refine r_getrN hC 15 (ci := 9) rfl u9_in (by decide) nF_15 dX10_rainOf_27 khm rfl rfl hb10 ?_
        refine r_iload_n hC dX10_rainOf_30 3 rfl ?_
        refine x_iaload hC hk10 hn10 (by decide) rfl rfl dX10_rainOf_31 (by omega) (by omega) (fun x11_ e11 => ?_)
        refine r_iadd hC dX10_rainOf_32 (fun x12_ e12 => ?_)
        try have t12 : x12_.toInt = x8_2.toInt + x11_.toInt := by rw [e12]; exact ti_add (by omega) (by omega)
        refine r_istore_n hC (lv' := [(2, .int x12_), (0, .ref a0), (1, .int x1), (3, .int x8_3)]) dX10_rainOf_33 (by decide) rfl ?_
        obtain ⟨x13_, e13⟩ : ∃ z : Int32, z = x8_3 + Int32.ofInt (1) := ⟨_, rfl⟩
        refine r_iinc hC (j := 3) (v := x13_) (lv' := [(3, .int x13_), (2, .int x12_), (0, .ref a0), (1, .int x1)]) dX10_rainOf_34 rfl (by rw [e13]) (by decide) rfl ?_
        try have t13 : x13_.toInt = x8_3.toInt + (1) := by rw [e13]; exact (ti_add (b := Int32.ofInt (1)) (by show _ ≤ _ + (1 : Int); omega) (by show _ + (1 : Int) ≤ _; omega))
        refine r_goto hC (tgt := 17) dX10_rainOf_37 (by decide) ?_
        refine r_sub [2, 3, 1, 0] rfl ?_
        exact ih8 ((60 - x13_.toInt).toNat) (by omega) x13_ x12_ (by omega) (by omega) rfl
    refine r_sub [2, 3, 1, 0] rfl ?_
    exact LP8 _ x7_ x1_ (by omega) (by omega) rfl
  · refine r_iconst hC (v := (0)) dX10_rainOf_7 (by decide) (by decide) (fun x14_ e14 t14 => ?_)
    refine r_goto hC (tgt := 16) dX10_rainOf_8 (by decide) ?_
    refine r_istore_n hC (lv' := [(3, .int x14_), (2, .int x1_), (0, .ref a0), (1, .int x1)]) dX10_rainOf_16 (by decide) rfl ?_
    have LP15 : ∀ (mu : Nat) (x15_3 : Int32) (x15_2 : Int32) (v15_0 : 0 ≤ x15_3.toInt) (v15_1 : x15_3.toInt ≤ 60), (60 - x15_3.toInt).toNat = mu → P g X 4 17 [(0, .ref a0), (1, .int x1), (2, .int x15_2), (3, .int x15_3)] [] 0 0 (K, len, I, J, R) := by
      intro mu; induction mu using Nat.strongRecOn with | ind mu ih => ?_
      intro x15_3 x15_2 v15_0 v15_1 hmu
      have ih15 := ih
      clear ih
      have hmu15 := hmu
      clear hmu
      refine r_iload_n hC dX10_rainOf_17 3 rfl ?_
      refine r_iload_n hC dX10_rainOf_18 1 rfl ?_
      refine r_icmp_gt hC (tgt := 40) dX10_rainOf_19 (by decide) (fun c16 => ?_) (fun c16 => ?_)
      · refine r_iload_n hC dX10_rainOf_40 2 rfl ?_
        exact r_iret hC hQ hlk hr rfl (by decide) (by decide) dX10_rainOf_41 ⟨_, rfl, rfl, trivial⟩
      · refine r_iload_n hC dX10_rainOf_22 2 rfl ?_
        refine r_aload_n hC dX10_rainOf_23 0 rfl ?_
        refine r_getr hC 3 (ci := 10) rfl u10_in (by decide) mT_4_238 dX10_rainOf_24 ka0 rfl rfl hbm ?_
        obtain ⟨a17_, hb17, hk17, hn17⟩ := hs.row khm 15 74 60 (by decide) (by decide)
        refine r_getrN hC 15 (ci := 9) rfl u9_in (by decide) nF_15 dX10_rainOf_27 khm rfl rfl hb17 ?_
        refine r_iload_n hC dX10_rainOf_30 3 rfl ?_
        refine x_iaload hC hk17 hn17 (by decide) rfl rfl dX10_rainOf_31 (by omega) (by omega) (fun x18_ e18 => ?_)
        refine r_iadd hC dX10_rainOf_32 (fun x19_ e19 => ?_)
        try have t19 : x19_.toInt = x15_2.toInt + x18_.toInt := by rw [e19]; exact ti_add (by omega) (by omega)
        refine r_istore_n hC (lv' := [(2, .int x19_), (0, .ref a0), (1, .int x1), (3, .int x15_3)]) dX10_rainOf_33 (by decide) rfl ?_
        obtain ⟨x20_, e20⟩ : ∃ z : Int32, z = x15_3 + Int32.ofInt (1) := ⟨_, rfl⟩
        refine r_iinc hC (j := 3) (v := x20_) (lv' := [(3, .int x20_), (2, .int x19_), (0, .ref a0), (1, .int x1)]) dX10_rainOf_34 rfl (by rw [e20]) (by decide) rfl ?_
        try have t20 : x20_.toInt = x15_3.toInt + (1) := by rw [e20]; exact (ti_add (b := Int32.ofInt (1)) (by show _ ≤ _ + (1 : Int); omega) (by show _ + (1 : Int) ≤ _; omega))
        refine r_goto hC (tgt := 17) dX10_rainOf_37 (by decide) ?_
        refine r_sub [2, 3, 1, 0] rfl ?_
        exact ih15 ((60 - x20_.toInt).toNat) (by omega) x20_ x19_ (by omega) (by omega) rfl
    refine r_sub [2, 3, 1, 0] rfl ?_
    exact LP15 _ x14_ x1_ (by omega) (by omega) rfl
set_option maxHeartbeats 4000000 in
set_option maxRecDepth 100000 in
theorem c_X10_addOf (g : GG) (l : Launch) (K len : Nat → Nat) (I : Nat → Nat → Int32) (J : Nat → Nat → Int64) (R : Nat → Nat → Option Nat) (hs : Sf K len I R) (a0 : Nat) (ka0 : K a0 = 11) (x1 : Int32) (x2 : Int32) (x3 : Int32) (hm : Nat) (hbm : R a0 3 = some hm) (khm : K hm = 10) (ps1 : x1.toInt < (I hm 7).toInt) (p0 : 0 ≤ x1.toInt) (p1 : x1.toInt ≤ 5) (p2 : 0 ≤ x2.toInt) (p3 : x2.toInt ≤ 59) : Ct g l yX10_addOf cX10_addOf 5 (Option.some Jvm.ClassFile.FieldType.int) rmX10_addOf [.ref a0, .int x1, .int x2, .int x3] (K, len, I, J, R) (pI0 (K, len, I, J, R) (fun r => True)) := by
  refine Ct_intro (by decide +kernel) (Nat.le_of_ble_eq_true rfl) (fun X hC hL hKK hNm hr hlk hQ => ?_)
  subst hL
  have hC : Cx g X cX10_addOf "HillTapModel" 5 rmX10_addOf := hC
  show P g X 5 0 [(0, .ref a0), (1, .int x1), (2, .int x2), (3, .int x3)] [] 0 0 (K, len, I, J, R)
  have hF : Fr K [] I I := Fr.refl
  have b_x1 := ti_rng x1
  have b_x2 := ti_rng x2
  have b_x3 := ti_rng x3
  obtain ⟨S0, eS0⟩ : ∃ z : Int32, z = I hm 7 := ⟨_, rfl⟩
  have fS0 : S0.toInt = (I hm 7).toInt := by rw [eS0]
  have rS0 := hs.rng khm rfl eS0
  refine r_aload_n hC dX10_addOf_0 0 rfl ?_
  refine r_getr hC 3 (ci := 10) rfl u10_in (by decide) mT_4_238 dX10_addOf_1 ka0 rfl rfl hbm ?_
  obtain ⟨a1_, hb1, hk1, hn1⟩ := hs.row khm 18 76 6 (by decide) (by decide)
  refine r_getrN hC 18 (ci := 9) rfl u9_in (by decide) nF_18 dX10_addOf_4 khm rfl rfl hb1 ?_
  refine r_iload_n hC dX10_addOf_7 1 rfl ?_
  refine x_iaload hC hk1 hn1 (by decide) rfl rfl dX10_addOf_8 (by omega) (by omega) (fun x2_ e2 => ?_)
  refine r_istore hC (lv' := [(4, .int x2_), (0, .ref a0), (1, .int x1), (2, .int x2), (3, .int x3)]) dX10_addOf_9 (by decide) rfl ?_
  refine r_aload_n hC dX10_addOf_11 1 rfl ?_
  refine r_getr hC 3 (ci := 10) rfl u10_in (by decide) mT_4_238 dX10_addOf_12 ka0 rfl rfl hbm ?_
  obtain ⟨kd3, mo3, hb3, hk3, hn3, hB3, hK3, hN3⟩ := hs.2.2.1 hm khm
  refine r_getrN hC 17 (ci := 9) rfl u9_in (by decide) nF_17 dX10_addOf_15 khm rfl rfl hb3 ?_
  refine r_iload_n hC dX10_addOf_18 2 rfl ?_
  refine x_iaload hC hk3 hn3 (by omega) (kOb (by omega)) (kAb (by omega)) dX10_addOf_19 (by omega) (by omega) (fun x4_ e4 => ?_)
  by_cases o5 : x4_.toInt < 1 ∨ 5 < x4_.toInt
  · refine r_tabOut hC (tgt := 102) dX10_addOf_20 o5 (by decide) ?_
    refine r_iload hC dX10_addOf_102 0 rfl ?_
    refine r_aload_n hC dX10_addOf_104 1 rfl ?_
    obtain ⟨a6_, hb6, hk6, hn6⟩ := hs.row ka0 15 85 60 (by decide) (by decide)
    refine r_getr hC 15 (ci := 10) rfl u10_in (by decide) mT_5_10 dX10_addOf_105 ka0 rfl rfl hb6 ?_
    refine r_iload_n hC dX10_addOf_108 3 rfl ?_
    refine x_iaload hC hk6 hn6 (by decide) rfl rfl dX10_addOf_109 (by omega) (by omega) (fun x7_ e7 => ?_)
    refine r_imul hC dX10_addOf_110 (fun x8_ e8 => ?_)
    refine r_bipush hC (v := (100)) dX10_addOf_111 (by decide) (by decide) (fun x9_ e9 t9 => ?_)
    refine r_idiv hC dX10_addOf_113 (ne_0 (by omega)) (fun x10_ e10 => ?_)
    exact r_iret hC hQ hlk hr rfl (by decide) (by decide) dX10_addOf_114 ⟨_, rfl, rfl, trivial⟩
  · rcases (show x4_.toInt = 1 ∨ x4_.toInt = 2 ∨ x4_.toInt = 3 ∨ x4_.toInt = 4 ∨ x4_.toInt = 5 by omega) with o5 | o5 | o5 | o5 | o5
    · refine r_tabIn hC (tgt := 56) (off := 36) dX10_addOf_20 (by omega) (by omega) (by rw [o5]; decide) (by decide) ?_
      refine r_aload_n hC dX10_addOf_56 1 rfl ?_
      refine r_iload hC dX10_addOf_57 0 rfl ?_
      refine r_iload_n hC dX10_addOf_59 3 rfl ?_
      refine r_callV hC (As := [.int x2_, .int x2]) (rest := []) (ci := 10) (c_X10_newOf g (xL X) K len I J R hs a0 ka0 x2_ x2 hm hbm khm (by omega) (by omega)) mT_6_139 mT_1_10 mT_6_136 mT_6_138 mP_76 okX10_newOf ⟨by decide, by decide⟩ rfl (by show kO (K a0) = _; rw [ka0]; rfl) rfl rfl (Nat.le_of_ble_eq_true rfl) ⟨by decide, by decide⟩ dX10_addOf_60 (aI0 (F := fun st M => P g X 5 63 [(4, .int x2_), (0, .ref a0), (1, .int x1), (2, .int x2), (3, .int x3)] st _ _ M) (M := (K, len, I, J, R)) fun x11_ h11 => ?_)
      skip
      show P g X 5 63 [(4, .int x2_), (0, .ref a0), (1, .int x1), (2, .int x2), (3, .int x3)] [.int x11_] _ _ (K, len, I, J, R)
      exact r_iret hC hQ hlk hr rfl (by decide) (by decide) dX10_addOf_63 ⟨_, rfl, rfl, trivial⟩
    · refine r_tabIn hC (tgt := 64) (off := 44) dX10_addOf_20 (by omega) (by omega) (by rw [o5]; decide) (by decide) ?_
      refine r_iload hC dX10_addOf_64 0 rfl ?_
      refine r_aload_n hC dX10_addOf_66 1 rfl ?_
      refine r_aload_n hC dX10_addOf_67 1 rfl ?_
      refine r_getr hC 3 (ci := 10) rfl u10_in (by decide) mT_4_238 dX10_addOf_68 ka0 rfl rfl hbm ?_
      refine r_getrN hC 19 (ci := 9) rfl u9_in (by decide) nF_19 dX10_addOf_71 khm rfl rfl hB3 ?_
      refine r_iload_n hC dX10_addOf_74 2 rfl ?_
      refine x_iaload hC hK3 hN3 (by omega) (kOb (by omega)) (kAb (by omega)) dX10_addOf_75 (by omega) (by omega) (fun x12_ e12 => ?_)
      have hlt := hs.late khm hb3 hB3 (i := x1) (by omega) (by omega) e4 (by omega) e12
      refine r_iload_n hC dX10_addOf_76 3 rfl ?_
      refine r_callV hC (As := [.int x12_, .int x2]) (rest := [.int x2_]) (ci := 10) (c_X10_meanOf g (xL X) K len I J R hs a0 ka0 x12_ x2 (by omega) (by omega) (by omega) (by omega)) mT_6_143 mT_1_10 mT_6_140 mT_6_142 mP_77 okX10_meanOf ⟨by decide, by decide⟩ rfl (by show kO (K a0) = _; rw [ka0]; rfl) rfl rfl (Nat.le_of_ble_eq_true rfl) ⟨by decide, by decide⟩ dX10_addOf_77 (aI0 (F := fun st M => P g X 5 80 [(4, .int x2_), (0, .ref a0), (1, .int x1), (2, .int x2), (3, .int x3)] st _ _ M) (M := (K, len, I, J, R)) fun x13_ h13 => ?_)
      skip
      show P g X 5 80 [(4, .int x2_), (0, .ref a0), (1, .int x1), (2, .int x2), (3, .int x3)] [.int x13_, .int x2_] _ _ (K, len, I, J, R)
      refine r_imul hC dX10_addOf_80 (fun x14_ e14 => ?_)
      refine r_bipush hC (v := (100)) dX10_addOf_81 (by decide) (by decide) (fun x15_ e15 t15 => ?_)
      refine r_idiv hC dX10_addOf_83 (ne_0 (by omega)) (fun x16_ e16 => ?_)
      exact r_iret hC hQ hlk hr rfl (by decide) (by decide) dX10_addOf_84 ⟨_, rfl, rfl, trivial⟩
    · refine r_tabIn hC (tgt := 102) (off := 82) dX10_addOf_20 (by omega) (by omega) (by rw [o5]; decide) (by decide) ?_
      refine r_iload hC dX10_addOf_102 0 rfl ?_
      refine r_aload_n hC dX10_addOf_104 1 rfl ?_
      obtain ⟨a17_, hb17, hk17, hn17⟩ := hs.row ka0 15 85 60 (by decide) (by decide)
      refine r_getr hC 15 (ci := 10) rfl u10_in (by decide) mT_5_10 dX10_addOf_105 ka0 rfl rfl hb17 ?_
      refine r_iload_n hC dX10_addOf_108 3 rfl ?_
      refine x_iaload hC hk17 hn17 (by decide) rfl rfl dX10_addOf_109 (by omega) (by omega) (fun x18_ e18 => ?_)
      refine r_imul hC dX10_addOf_110 (fun x19_ e19 => ?_)
      refine r_bipush hC (v := (100)) dX10_addOf_111 (by decide) (by decide) (fun x20_ e20 t20 => ?_)
      refine r_idiv hC dX10_addOf_113 (ne_0 (by omega)) (fun x21_ e21 => ?_)
      exact r_iret hC hQ hlk hr rfl (by decide) (by decide) dX10_addOf_114 ⟨_, rfl, rfl, trivial⟩
    · refine r_tabIn hC (tgt := 102) (off := 82) dX10_addOf_20 (by omega) (by omega) (by rw [o5]; decide) (by decide) ?_
      refine r_iload hC dX10_addOf_102 0 rfl ?_
      refine r_aload_n hC dX10_addOf_104 1 rfl ?_
      obtain ⟨a22_, hb22, hk22, hn22⟩ := hs.row ka0 15 85 60 (by decide) (by decide)
      refine r_getr hC 15 (ci := 10) rfl u10_in (by decide) mT_5_10 dX10_addOf_105 ka0 rfl rfl hb22 ?_
      refine r_iload_n hC dX10_addOf_108 3 rfl ?_
      refine x_iaload hC hk22 hn22 (by decide) rfl rfl dX10_addOf_109 (by omega) (by omega) (fun x23_ e23 => ?_)
      refine r_imul hC dX10_addOf_110 (fun x24_ e24 => ?_)
      refine r_bipush hC (v := (100)) dX10_addOf_111 (by decide) (by decide) (fun x25_ e25 t25 => ?_)
      refine r_idiv hC dX10_addOf_113 (ne_0 (by omega)) (fun x26_ e26 => ?_)
      exact r_iret hC hQ hlk hr rfl (by decide) (by decide) dX10_addOf_114 ⟨_, rfl, rfl, trivial⟩
    · refine r_tabIn hC (tgt := 85) (off := 65) dX10_addOf_20 (by omega) (by omega) (by rw [o5]; decide) (by decide) ?_
      refine r_iload_n hC dX10_addOf_85 4 rfl ?_
      refine r_if_eq hC (tgt := 100) dX10_addOf_86 (by decide) (fun c27 => ?_) (fun c27 => ?_)
      · refine r_iconst hC (v := (0)) dX10_addOf_100 (by decide) (by decide) (fun x28_ e28 t28 => ?_)
        exact r_iret hC hQ hlk hr rfl (by decide) (by decide) dX10_addOf_101 ⟨_, rfl, rfl, trivial⟩
      · refine r_iload hC dX10_addOf_89 0 rfl ?_
        refine r_aload_n hC dX10_addOf_91 1 rfl ?_
        refine r_iload_n hC dX10_addOf_92 3 rfl ?_
        refine r_callV hC (As := [.int x2]) (rest := [.int x2_]) (ci := 10) (c_X10_rainOf g (xL X) K len I J R hs a0 ka0 x2 hm hbm khm (by omega) (by omega)) mT_6_147 mT_1_10 mT_6_144 mT_6_146 mP_78 okX10_rainOf ⟨by decide, by decide⟩ rfl (by show kO (K a0) = _; rw [ka0]; rfl) rfl rfl (Nat.le_of_ble_eq_true rfl) ⟨by decide, by decide⟩ dX10_addOf_93 (aI0 (F := fun st M => P g X 5 96 [(4, .int x2_), (0, .ref a0), (1, .int x1), (2, .int x2), (3, .int x3)] st _ _ M) (M := (K, len, I, J, R)) fun x29_ h29 => ?_)
        skip
        show P g X 5 96 [(4, .int x2_), (0, .ref a0), (1, .int x1), (2, .int x2), (3, .int x3)] [.int x29_, .int x2_] _ _ (K, len, I, J, R)
        refine r_imul hC dX10_addOf_96 (fun x30_ e30 => ?_)
        refine r_goto hC (tgt := 101) dX10_addOf_97 (by decide) ?_
        exact r_iret hC hQ hlk hr rfl (by decide) (by decide) dX10_addOf_101 ⟨_, rfl, rfl, trivial⟩
set_option maxHeartbeats 4000000 in
set_option maxRecDepth 100000 in
theorem c_X10_speedOf (g : GG) (l : Launch) (K len : Nat → Nat) (I : Nat → Nat → Int32) (J : Nat → Nat → Int64) (R : Nat → Nat → Option Nat) (hs : Sf K len I R) (a0 : Nat) (ka0 : K a0 = 11) (x1 : Int32) (x2 : Int32) (x3 : Int32) (x4 : Int32) (hm : Nat) (hbm : R a0 3 = some hm) (khm : K hm = 10) (p0 : 0 ≤ x1.toInt) (p1 : x1.toInt ≤ 5) (p2 : 0 ≤ x2.toInt) (p3 : x2.toInt ≤ 4) (p4 : 0 ≤ x3.toInt) (p5 : x3.toInt ≤ 59) : Ct g l yX10_speedOf cX10_speedOf 8 (Option.some Jvm.ClassFile.FieldType.int) rmX10_speedOf [.ref a0, .int x1, .int x2, .int x3, .int x4] (K, len, I, J, R) (pI0 (K, len, I, J, R) (fun r => True)) := by
  refine Ct_intro (by decide +kernel) (Nat.le_of_ble_eq_true rfl) (fun X hC hL hKK hNm hr hlk hQ => ?_)
  subst hL
  have hC : Cx g X cX10_speedOf "HillTapModel" 8 rmX10_speedOf := hC
  show P g X 8 0 [(0, .ref a0), (1, .int x1), (2, .int x2), (3, .int x3), (4, .int x4)] [] 0 0 (K, len, I, J, R)
  have hF : Fr K [] I I := Fr.refl
  have b_x1 := ti_rng x1
  have b_x2 := ti_rng x2
  have b_x3 := ti_rng x3
  have b_x4 := ti_rng x4
  refine r_bipush hC (v := (60)) dX10_speedOf_0 (by decide) (by decide) (fun x1_ e1 t1 => ?_)
  refine r_iload_n hC dX10_speedOf_2 2 rfl ?_
  refine r_imul hC dX10_speedOf_3 (fun x2_ e2 => ?_)
  try have t2 : x2_.toInt = (60) * x2.toInt := by rw [e2]; exact ti_mul (by omega) rfl (by omega) (by omega)
  refine r_iload_n hC dX10_speedOf_4 3 rfl ?_
  refine r_iadd hC dX10_speedOf_5 (fun x3_ e3 => ?_)
  try have t3 : x3_.toInt = x2_.toInt + x3.toInt := by rw [e3]; exact ti_add (by omega) (by omega)
  refine r_iconst hC (v := (1)) dX10_speedOf_6 (by decide) (by decide) (fun x4_ e4 t4 => ?_)
  refine r_isub hC dX10_speedOf_7 (fun x5_ e5 => ?_)
  try have t5 : x5_.toInt = x3_.toInt - x4_.toInt := by rw [e5]; exact ti_sub (by omega) (by omega)
  refine r_istore hC (lv' := [(5, .int x5_), (0, .ref a0), (1, .int x1), (2, .int x2), (3, .int x3), (4, .int x4)]) dX10_speedOf_8 (by decide) rfl ?_
  refine r_aload_n hC dX10_speedOf_10 1 rfl ?_
  refine r_getr hC 3 (ci := 10) rfl u10_in (by decide) mT_4_238 dX10_speedOf_11 ka0 rfl rfl hbm ?_
  obtain ⟨a6_, hb6, hk6, hn6⟩ := hs.row khm 12 71 5 (by decide) (by decide)
  refine r_getrN hC 12 (ci := 9) rfl u9_in (by decide) nF_12 dX10_speedOf_14 khm rfl rfl hb6 ?_
  refine r_iload_n hC dX10_speedOf_17 3 rfl ?_
  refine x_iaload hC hk6 hn6 (by decide) rfl rfl dX10_speedOf_18 (by omega) (by omega) (fun x7_ e7 => ?_)
  refine r_iload_n hC dX10_speedOf_19 4 rfl ?_
  refine r_if_ne hC (tgt := 27) dX10_speedOf_20 (by decide) (fun c8 => ?_) (fun c8 => ?_)
  · refine r_aload_n hC dX10_speedOf_27 1 rfl ?_
    obtain ⟨a9_, hb9, hk9, hn9⟩ := hs.row ka0 18 88 300 (by decide) (by decide)
    refine r_getr hC 18 (ci := 10) rfl u10_in (by decide) mT_5_13 dX10_speedOf_28 ka0 rfl rfl hb9 ?_
    refine r_iload hC dX10_speedOf_31 0 rfl ?_
    refine x_iaload hC hk9 hn9 (by decide) rfl rfl dX10_speedOf_33 (by omega) (by omega) (fun x10_ e10 => ?_)
    refine r_isub hC dX10_speedOf_34 (fun x11_ e11 => ?_)
    try have t11 : x11_.toInt = x7_.toInt - x10_.toInt := by rw [e11]; exact ti_sub (by omega) (by omega)
    refine r_istore hC (lv' := [(6, .int x11_), (5, .int x5_), (0, .ref a0), (1, .int x1), (2, .int x2), (3, .int x3), (4, .int x4)]) dX10_speedOf_35 (by decide) rfl ?_
    refine r_iload hC dX10_speedOf_37 0 rfl ?_
    refine r_if_lt hC (tgt := 78) dX10_speedOf_39 (by decide) (fun c12 => ?_) (fun c12 => ?_)
    · refine r_iconst hC (v := (0)) dX10_speedOf_78 (by decide) (by decide) (fun x13_ e13 t13 => ?_)
      refine r_istore hC (lv' := [(6, .int x13_), (5, .int x5_), (0, .ref a0), (1, .int x1), (2, .int x2), (3, .int x3), (4, .int x4)]) dX10_speedOf_79 (by decide) rfl ?_
      refine r_aload_n hC dX10_speedOf_81 2 rfl ?_
      refine r_getr hC 3 (ci := 10) rfl u10_in (by decide) mT_4_238 dX10_speedOf_82 ka0 rfl rfl hbm ?_
      obtain ⟨a14_, hb14, hk14, hn14⟩ := hs.row khm 11 70 5 (by decide) (by decide)
      refine r_getrN hC 11 (ci := 9) rfl u9_in (by decide) nF_11 dX10_speedOf_85 khm rfl rfl hb14 ?_
      refine r_iload_n hC dX10_speedOf_88 4 rfl ?_
      refine x_iaload hC hk14 hn14 (by decide) rfl rfl dX10_speedOf_89 (by omega) (by omega) (fun x15_ e15 => ?_)
      refine r_iload hC dX10_speedOf_90 6 rfl ?_
      refine r_iadd hC dX10_speedOf_92 (fun x16_ e16 => ?_)
      try have t16 : x16_.toInt = x15_.toInt + x4.toInt := by rw [e16]; exact ti_add (by omega) (by omega)
      refine r_iload hC dX10_speedOf_93 0 rfl ?_
      refine r_isub hC dX10_speedOf_95 (fun x17_ e17 => ?_)
      try have t17 : x17_.toInt = x16_.toInt - x13_.toInt := by rw [e17]; exact ti_sub (by omega) (by omega)
      refine r_istore hC (lv' := [(7, .int x17_), (6, .int x13_), (5, .int x5_), (0, .ref a0), (1, .int x1), (2, .int x2), (3, .int x3), (4, .int x4)]) dX10_speedOf_96 (by decide) rfl ?_
      refine r_iload hC dX10_speedOf_98 0 rfl ?_
      refine r_if_ge hC (tgt := 107) dX10_speedOf_100 (by decide) (fun c18 => ?_) (fun c18 => ?_)
      · refine r_iload hC dX10_speedOf_107 0 rfl ?_
        refine r_bipush hC (v := (10)) dX10_speedOf_109 (by decide) (by decide) (fun x19_ e19 t19 => ?_)
        refine r_idiv hC dX10_speedOf_111 (ne_0 (by omega)) (fun x20_ e20 => ?_)
        exact r_iret hC hQ hlk hr rfl (by decide) (by decide) dX10_speedOf_112 ⟨_, rfl, rfl, trivial⟩
      · refine r_iconst hC (v := (0)) dX10_speedOf_103 (by decide) (by decide) (fun x21_ e21 t21 => ?_)
        refine r_goto hC (tgt := 112) dX10_speedOf_104 (by decide) ?_
        exact r_iret hC hQ hlk hr rfl (by decide) (by decide) dX10_speedOf_112 ⟨_, rfl, rfl, trivial⟩
    · refine r_aload_n hC dX10_speedOf_42 2 rfl ?_
      refine r_getr hC 3 (ci := 10) rfl u10_in (by decide) mT_4_238 dX10_speedOf_43 ka0 rfl rfl hbm ?_
      obtain ⟨kd22, mo22, hb22, hk22, hn22, hB22, hK22, hN22⟩ := hs.2.2.1 hm khm
      refine r_getrN hC 17 (ci := 9) rfl u9_in (by decide) nF_17 dX10_speedOf_46 khm rfl rfl hb22 ?_
      refine r_iload_n hC dX10_speedOf_49 3 rfl ?_
      refine x_iaload hC hk22 hn22 (by omega) (kOb (by omega)) (kAb (by omega)) dX10_speedOf_50 (by omega) (by omega) (fun x23_ e23 => ?_)
      refine r_iconst hC (v := (4)) dX10_speedOf_51 (by decide) (by decide) (fun x24_ e24 t24 => ?_)
      refine r_icmp_ne hC (tgt := 81) dX10_speedOf_52 (by decide) (fun c25 => ?_) (fun c25 => ?_)
      · refine r_aload_n hC dX10_speedOf_81 2 rfl ?_
        refine r_getr hC 3 (ci := 10) rfl u10_in (by decide) mT_4_238 dX10_speedOf_82 ka0 rfl rfl hbm ?_
        obtain ⟨a26_, hb26, hk26, hn26⟩ := hs.row khm 11 70 5 (by decide) (by decide)
        refine r_getrN hC 11 (ci := 9) rfl u9_in (by decide) nF_11 dX10_speedOf_85 khm rfl rfl hb26 ?_
        refine r_iload_n hC dX10_speedOf_88 4 rfl ?_
        refine x_iaload hC hk26 hn26 (by decide) rfl rfl dX10_speedOf_89 (by omega) (by omega) (fun x27_ e27 => ?_)
        refine r_iload hC dX10_speedOf_90 6 rfl ?_
        refine r_iadd hC dX10_speedOf_92 (fun x28_ e28 => ?_)
        try have t28 : x28_.toInt = x27_.toInt + x4.toInt := by rw [e28]; exact ti_add (by omega) (by omega)
        refine r_iload hC dX10_speedOf_93 0 rfl ?_
        refine r_isub hC dX10_speedOf_95 (fun x29_ e29 => ?_)
        try have t29 : x29_.toInt = x28_.toInt - x11_.toInt := by rw [e29]; exact ti_sub (by omega) (by omega)
        refine r_istore hC (lv' := [(7, .int x29_), (6, .int x11_), (5, .int x5_), (0, .ref a0), (1, .int x1), (2, .int x2), (3, .int x3), (4, .int x4)]) dX10_speedOf_96 (by decide) rfl ?_
        refine r_iload hC dX10_speedOf_98 0 rfl ?_
        refine r_if_ge hC (tgt := 107) dX10_speedOf_100 (by decide) (fun c30 => ?_) (fun c30 => ?_)
        · refine r_iload hC dX10_speedOf_107 0 rfl ?_
          refine r_bipush hC (v := (10)) dX10_speedOf_109 (by decide) (by decide) (fun x31_ e31 t31 => ?_)
          refine r_idiv hC dX10_speedOf_111 (ne_0 (by omega)) (fun x32_ e32 => ?_)
          exact r_iret hC hQ hlk hr rfl (by decide) (by decide) dX10_speedOf_112 ⟨_, rfl, rfl, trivial⟩
        · refine r_iconst hC (v := (0)) dX10_speedOf_103 (by decide) (by decide) (fun x33_ e33 t33 => ?_)
          refine r_goto hC (tgt := 112) dX10_speedOf_104 (by decide) ?_
          exact r_iret hC hQ hlk hr rfl (by decide) (by decide) dX10_speedOf_112 ⟨_, rfl, rfl, trivial⟩
      · refine r_iload_n hC dX10_speedOf_55 5 rfl ?_
        refine r_if_le hC (tgt := 81) dX10_speedOf_56 (by decide) (fun c34 => ?_) (fun c34 => ?_)
        · refine r_aload_n hC dX10_speedOf_81 2 rfl ?_
          refine r_getr hC 3 (ci := 10) rfl u10_in (by decide) mT_4_238 dX10_speedOf_82 ka0 rfl rfl hbm ?_
          obtain ⟨a35_, hb35, hk35, hn35⟩ := hs.row khm 11 70 5 (by decide) (by decide)
          refine r_getrN hC 11 (ci := 9) rfl u9_in (by decide) nF_11 dX10_speedOf_85 khm rfl rfl hb35 ?_
          refine r_iload_n hC dX10_speedOf_88 4 rfl ?_
          refine x_iaload hC hk35 hn35 (by decide) rfl rfl dX10_speedOf_89 (by omega) (by omega) (fun x36_ e36 => ?_)
          refine r_iload hC dX10_speedOf_90 6 rfl ?_
          refine r_iadd hC dX10_speedOf_92 (fun x37_ e37 => ?_)
          try have t37 : x37_.toInt = x36_.toInt + x4.toInt := by rw [e37]; exact ti_add (by omega) (by omega)
          refine r_iload hC dX10_speedOf_93 0 rfl ?_
          refine r_isub hC dX10_speedOf_95 (fun x38_ e38 => ?_)
          try have t38 : x38_.toInt = x37_.toInt - x11_.toInt := by rw [e38]; exact ti_sub (by omega) (by omega)
          refine r_istore hC (lv' := [(7, .int x38_), (6, .int x11_), (5, .int x5_), (0, .ref a0), (1, .int x1), (2, .int x2), (3, .int x3), (4, .int x4)]) dX10_speedOf_96 (by decide) rfl ?_
          refine r_iload hC dX10_speedOf_98 0 rfl ?_
          refine r_if_ge hC (tgt := 107) dX10_speedOf_100 (by decide) (fun c39 => ?_) (fun c39 => ?_)
          · refine r_iload hC dX10_speedOf_107 0 rfl ?_
            refine r_bipush hC (v := (10)) dX10_speedOf_109 (by decide) (by decide) (fun x40_ e40 t40 => ?_)
            refine r_idiv hC dX10_speedOf_111 (ne_0 (by omega)) (fun x41_ e41 => ?_)
            exact r_iret hC hQ hlk hr rfl (by decide) (by decide) dX10_speedOf_112 ⟨_, rfl, rfl, trivial⟩
          · refine r_iconst hC (v := (0)) dX10_speedOf_103 (by decide) (by decide) (fun x42_ e42 t42 => ?_)
            refine r_goto hC (tgt := 112) dX10_speedOf_104 (by decide) ?_
            exact r_iret hC hQ hlk hr rfl (by decide) (by decide) dX10_speedOf_112 ⟨_, rfl, rfl, trivial⟩
        · refine r_aload_n hC dX10_speedOf_59 2 rfl ?_
          obtain ⟨a43_, hb43, hk43, hn43⟩ := hs.row ka0 16 86 300 (by decide) (by decide)
          refine r_getr hC 16 (ci := 10) rfl u10_in (by decide) mT_5_11 dX10_speedOf_60 ka0 rfl rfl hb43 ?_
          refine r_iload hC dX10_speedOf_63 1 rfl ?_
          refine x_iaload hC hk43 hn43 (by decide) rfl rfl dX10_speedOf_65 (by omega) (by omega) (fun x44_ e44 => ?_)
          refine r_aload_n hC dX10_speedOf_66 2 rfl ?_
          refine r_getr hC 3 (ci := 10) rfl u10_in (by decide) mT_4_238 dX10_speedOf_67 ka0 rfl rfl hbm ?_
          refine r_getrN hC 19 (ci := 9) rfl u9_in (by decide) nF_19 dX10_speedOf_70 khm rfl rfl hB22 ?_
          refine r_iload_n hC dX10_speedOf_73 3 rfl ?_
          refine x_iaload hC hK22 hN22 (by omega) (kOb (by omega)) (kAb (by omega)) dX10_speedOf_74 (by omega) (by omega) (fun x45_ e45 => ?_)
          refine r_icmp_lt hC (tgt := 81) dX10_speedOf_75 (by decide) (fun c46 => ?_) (fun c46 => ?_)
          · refine r_aload_n hC dX10_speedOf_81 2 rfl ?_
            refine r_getr hC 3 (ci := 10) rfl u10_in (by decide) mT_4_238 dX10_speedOf_82 ka0 rfl rfl hbm ?_
            obtain ⟨a47_, hb47, hk47, hn47⟩ := hs.row khm 11 70 5 (by decide) (by decide)
            refine r_getrN hC 11 (ci := 9) rfl u9_in (by decide) nF_11 dX10_speedOf_85 khm rfl rfl hb47 ?_
            refine r_iload_n hC dX10_speedOf_88 4 rfl ?_
            refine x_iaload hC hk47 hn47 (by decide) rfl rfl dX10_speedOf_89 (by omega) (by omega) (fun x48_ e48 => ?_)
            refine r_iload hC dX10_speedOf_90 6 rfl ?_
            refine r_iadd hC dX10_speedOf_92 (fun x49_ e49 => ?_)
            try have t49 : x49_.toInt = x48_.toInt + x4.toInt := by rw [e49]; exact ti_add (by omega) (by omega)
            refine r_iload hC dX10_speedOf_93 0 rfl ?_
            refine r_isub hC dX10_speedOf_95 (fun x50_ e50 => ?_)
            try have t50 : x50_.toInt = x49_.toInt - x11_.toInt := by rw [e50]; exact ti_sub (by omega) (by omega)
            refine r_istore hC (lv' := [(7, .int x50_), (6, .int x11_), (5, .int x5_), (0, .ref a0), (1, .int x1), (2, .int x2), (3, .int x3), (4, .int x4)]) dX10_speedOf_96 (by decide) rfl ?_
            refine r_iload hC dX10_speedOf_98 0 rfl ?_
            refine r_if_ge hC (tgt := 107) dX10_speedOf_100 (by decide) (fun c51 => ?_) (fun c51 => ?_)
            · refine r_iload hC dX10_speedOf_107 0 rfl ?_
              refine r_bipush hC (v := (10)) dX10_speedOf_109 (by decide) (by decide) (fun x52_ e52 t52 => ?_)
              refine r_idiv hC dX10_speedOf_111 (ne_0 (by omega)) (fun x53_ e53 => ?_)
              exact r_iret hC hQ hlk hr rfl (by decide) (by decide) dX10_speedOf_112 ⟨_, rfl, rfl, trivial⟩
            · refine r_iconst hC (v := (0)) dX10_speedOf_103 (by decide) (by decide) (fun x54_ e54 t54 => ?_)
              refine r_goto hC (tgt := 112) dX10_speedOf_104 (by decide) ?_
              exact r_iret hC hQ hlk hr rfl (by decide) (by decide) dX10_speedOf_112 ⟨_, rfl, rfl, trivial⟩
          · refine r_iconst hC (v := (0)) dX10_speedOf_78 (by decide) (by decide) (fun x55_ e55 t55 => ?_)
            refine r_istore hC (lv' := [(6, .int x55_), (5, .int x5_), (0, .ref a0), (1, .int x1), (2, .int x2), (3, .int x3), (4, .int x4)]) dX10_speedOf_79 (by decide) rfl ?_
            refine r_aload_n hC dX10_speedOf_81 2 rfl ?_
            refine r_getr hC 3 (ci := 10) rfl u10_in (by decide) mT_4_238 dX10_speedOf_82 ka0 rfl rfl hbm ?_
            obtain ⟨a56_, hb56, hk56, hn56⟩ := hs.row khm 11 70 5 (by decide) (by decide)
            refine r_getrN hC 11 (ci := 9) rfl u9_in (by decide) nF_11 dX10_speedOf_85 khm rfl rfl hb56 ?_
            refine r_iload_n hC dX10_speedOf_88 4 rfl ?_
            refine x_iaload hC hk56 hn56 (by decide) rfl rfl dX10_speedOf_89 (by omega) (by omega) (fun x57_ e57 => ?_)
            refine r_iload hC dX10_speedOf_90 6 rfl ?_
            refine r_iadd hC dX10_speedOf_92 (fun x58_ e58 => ?_)
            try have t58 : x58_.toInt = x57_.toInt + x4.toInt := by rw [e58]; exact ti_add (by omega) (by omega)
            refine r_iload hC dX10_speedOf_93 0 rfl ?_
            refine r_isub hC dX10_speedOf_95 (fun x59_ e59 => ?_)
            try have t59 : x59_.toInt = x58_.toInt - x55_.toInt := by rw [e59]; exact ti_sub (by omega) (by omega)
            refine r_istore hC (lv' := [(7, .int x59_), (6, .int x55_), (5, .int x5_), (0, .ref a0), (1, .int x1), (2, .int x2), (3, .int x3), (4, .int x4)]) dX10_speedOf_96 (by decide) rfl ?_
            refine r_iload hC dX10_speedOf_98 0 rfl ?_
            refine r_if_ge hC (tgt := 107) dX10_speedOf_100 (by decide) (fun c60 => ?_) (fun c60 => ?_)
            · refine r_iload hC dX10_speedOf_107 0 rfl ?_
              refine r_bipush hC (v := (10)) dX10_speedOf_109 (by decide) (by decide) (fun x61_ e61 t61 => ?_)
              refine r_idiv hC dX10_speedOf_111 (ne_0 (by omega)) (fun x62_ e62 => ?_)
              exact r_iret hC hQ hlk hr rfl (by decide) (by decide) dX10_speedOf_112 ⟨_, rfl, rfl, trivial⟩
            · refine r_iconst hC (v := (0)) dX10_speedOf_103 (by decide) (by decide) (fun x63_ e63 t63 => ?_)
              refine r_goto hC (tgt := 112) dX10_speedOf_104 (by decide) ?_
              exact r_iret hC hQ hlk hr rfl (by decide) (by decide) dX10_speedOf_112 ⟨_, rfl, rfl, trivial⟩
  · refine r_iconst hC (v := (0)) dX10_speedOf_23 (by decide) (by decide) (fun x64_ e64 t64 => ?_)
    refine r_goto hC (tgt := 34) dX10_speedOf_24 (by decide) ?_
    refine r_isub hC dX10_speedOf_34 (fun x65_ e65 => ?_)
    try have t65 : x65_.toInt = x7_.toInt - x64_.toInt := by rw [e65]; exact ti_sub (by omega) (by omega)
    refine r_istore hC (lv' := [(6, .int x65_), (5, .int x5_), (0, .ref a0), (1, .int x1), (2, .int x2), (3, .int x3), (4, .int x4)]) dX10_speedOf_35 (by decide) rfl ?_
    refine r_iload hC dX10_speedOf_37 0 rfl ?_
    refine r_if_lt hC (tgt := 78) dX10_speedOf_39 (by decide) (fun c66 => ?_) (fun c66 => ?_)
    · refine r_iconst hC (v := (0)) dX10_speedOf_78 (by decide) (by decide) (fun x67_ e67 t67 => ?_)
      refine r_istore hC (lv' := [(6, .int x67_), (5, .int x5_), (0, .ref a0), (1, .int x1), (2, .int x2), (3, .int x3), (4, .int x4)]) dX10_speedOf_79 (by decide) rfl ?_
      refine r_aload_n hC dX10_speedOf_81 2 rfl ?_
      refine r_getr hC 3 (ci := 10) rfl u10_in (by decide) mT_4_238 dX10_speedOf_82 ka0 rfl rfl hbm ?_
      obtain ⟨a68_, hb68, hk68, hn68⟩ := hs.row khm 11 70 5 (by decide) (by decide)
      refine r_getrN hC 11 (ci := 9) rfl u9_in (by decide) nF_11 dX10_speedOf_85 khm rfl rfl hb68 ?_
      refine r_iload_n hC dX10_speedOf_88 4 rfl ?_
      refine x_iaload hC hk68 hn68 (by decide) rfl rfl dX10_speedOf_89 (by omega) (by omega) (fun x69_ e69 => ?_)
      refine r_iload hC dX10_speedOf_90 6 rfl ?_
      refine r_iadd hC dX10_speedOf_92 (fun x70_ e70 => ?_)
      try have t70 : x70_.toInt = x69_.toInt + x4.toInt := by rw [e70]; exact ti_add (by omega) (by omega)
      refine r_iload hC dX10_speedOf_93 0 rfl ?_
      refine r_isub hC dX10_speedOf_95 (fun x71_ e71 => ?_)
      try have t71 : x71_.toInt = x70_.toInt - x67_.toInt := by rw [e71]; exact ti_sub (by omega) (by omega)
      refine r_istore hC (lv' := [(7, .int x71_), (6, .int x67_), (5, .int x5_), (0, .ref a0), (1, .int x1), (2, .int x2), (3, .int x3), (4, .int x4)]) dX10_speedOf_96 (by decide) rfl ?_
      refine r_iload hC dX10_speedOf_98 0 rfl ?_
      refine r_if_ge hC (tgt := 107) dX10_speedOf_100 (by decide) (fun c72 => ?_) (fun c72 => ?_)
      · refine r_iload hC dX10_speedOf_107 0 rfl ?_
        refine r_bipush hC (v := (10)) dX10_speedOf_109 (by decide) (by decide) (fun x73_ e73 t73 => ?_)
        refine r_idiv hC dX10_speedOf_111 (ne_0 (by omega)) (fun x74_ e74 => ?_)
        exact r_iret hC hQ hlk hr rfl (by decide) (by decide) dX10_speedOf_112 ⟨_, rfl, rfl, trivial⟩
      · refine r_iconst hC (v := (0)) dX10_speedOf_103 (by decide) (by decide) (fun x75_ e75 t75 => ?_)
        refine r_goto hC (tgt := 112) dX10_speedOf_104 (by decide) ?_
        exact r_iret hC hQ hlk hr rfl (by decide) (by decide) dX10_speedOf_112 ⟨_, rfl, rfl, trivial⟩
    · refine r_aload_n hC dX10_speedOf_42 2 rfl ?_
      refine r_getr hC 3 (ci := 10) rfl u10_in (by decide) mT_4_238 dX10_speedOf_43 ka0 rfl rfl hbm ?_
      obtain ⟨kd76, mo76, hb76, hk76, hn76, hB76, hK76, hN76⟩ := hs.2.2.1 hm khm
      refine r_getrN hC 17 (ci := 9) rfl u9_in (by decide) nF_17 dX10_speedOf_46 khm rfl rfl hb76 ?_
      refine r_iload_n hC dX10_speedOf_49 3 rfl ?_
      refine x_iaload hC hk76 hn76 (by omega) (kOb (by omega)) (kAb (by omega)) dX10_speedOf_50 (by omega) (by omega) (fun x77_ e77 => ?_)
      refine r_iconst hC (v := (4)) dX10_speedOf_51 (by decide) (by decide) (fun x78_ e78 t78 => ?_)
      refine r_icmp_ne hC (tgt := 81) dX10_speedOf_52 (by decide) (fun c79 => ?_) (fun c79 => ?_)
      · refine r_aload_n hC dX10_speedOf_81 2 rfl ?_
        refine r_getr hC 3 (ci := 10) rfl u10_in (by decide) mT_4_238 dX10_speedOf_82 ka0 rfl rfl hbm ?_
        obtain ⟨a80_, hb80, hk80, hn80⟩ := hs.row khm 11 70 5 (by decide) (by decide)
        refine r_getrN hC 11 (ci := 9) rfl u9_in (by decide) nF_11 dX10_speedOf_85 khm rfl rfl hb80 ?_
        refine r_iload_n hC dX10_speedOf_88 4 rfl ?_
        refine x_iaload hC hk80 hn80 (by decide) rfl rfl dX10_speedOf_89 (by omega) (by omega) (fun x81_ e81 => ?_)
        refine r_iload hC dX10_speedOf_90 6 rfl ?_
        refine r_iadd hC dX10_speedOf_92 (fun x82_ e82 => ?_)
        try have t82 : x82_.toInt = x81_.toInt + x4.toInt := by rw [e82]; exact ti_add (by omega) (by omega)
        refine r_iload hC dX10_speedOf_93 0 rfl ?_
        refine r_isub hC dX10_speedOf_95 (fun x83_ e83 => ?_)
        try have t83 : x83_.toInt = x82_.toInt - x65_.toInt := by rw [e83]; exact ti_sub (by omega) (by omega)
        refine r_istore hC (lv' := [(7, .int x83_), (6, .int x65_), (5, .int x5_), (0, .ref a0), (1, .int x1), (2, .int x2), (3, .int x3), (4, .int x4)]) dX10_speedOf_96 (by decide) rfl ?_
        refine r_iload hC dX10_speedOf_98 0 rfl ?_
        refine r_if_ge hC (tgt := 107) dX10_speedOf_100 (by decide) (fun c84 => ?_) (fun c84 => ?_)
        · refine r_iload hC dX10_speedOf_107 0 rfl ?_
          refine r_bipush hC (v := (10)) dX10_speedOf_109 (by decide) (by decide) (fun x85_ e85 t85 => ?_)
          refine r_idiv hC dX10_speedOf_111 (ne_0 (by omega)) (fun x86_ e86 => ?_)
          exact r_iret hC hQ hlk hr rfl (by decide) (by decide) dX10_speedOf_112 ⟨_, rfl, rfl, trivial⟩
        · refine r_iconst hC (v := (0)) dX10_speedOf_103 (by decide) (by decide) (fun x87_ e87 t87 => ?_)
          refine r_goto hC (tgt := 112) dX10_speedOf_104 (by decide) ?_
          exact r_iret hC hQ hlk hr rfl (by decide) (by decide) dX10_speedOf_112 ⟨_, rfl, rfl, trivial⟩
      · refine r_iload_n hC dX10_speedOf_55 5 rfl ?_
        refine r_if_le hC (tgt := 81) dX10_speedOf_56 (by decide) (fun c88 => ?_) (fun c88 => ?_)
        · refine r_aload_n hC dX10_speedOf_81 2 rfl ?_
          refine r_getr hC 3 (ci := 10) rfl u10_in (by decide) mT_4_238 dX10_speedOf_82 ka0 rfl rfl hbm ?_
          obtain ⟨a89_, hb89, hk89, hn89⟩ := hs.row khm 11 70 5 (by decide) (by decide)
          refine r_getrN hC 11 (ci := 9) rfl u9_in (by decide) nF_11 dX10_speedOf_85 khm rfl rfl hb89 ?_
          refine r_iload_n hC dX10_speedOf_88 4 rfl ?_
          refine x_iaload hC hk89 hn89 (by decide) rfl rfl dX10_speedOf_89 (by omega) (by omega) (fun x90_ e90 => ?_)
          refine r_iload hC dX10_speedOf_90 6 rfl ?_
          refine r_iadd hC dX10_speedOf_92 (fun x91_ e91 => ?_)
          try have t91 : x91_.toInt = x90_.toInt + x4.toInt := by rw [e91]; exact ti_add (by omega) (by omega)
          refine r_iload hC dX10_speedOf_93 0 rfl ?_
          refine r_isub hC dX10_speedOf_95 (fun x92_ e92 => ?_)
          try have t92 : x92_.toInt = x91_.toInt - x65_.toInt := by rw [e92]; exact ti_sub (by omega) (by omega)
          refine r_istore hC (lv' := [(7, .int x92_), (6, .int x65_), (5, .int x5_), (0, .ref a0), (1, .int x1), (2, .int x2), (3, .int x3), (4, .int x4)]) dX10_speedOf_96 (by decide) rfl ?_
          refine r_iload hC dX10_speedOf_98 0 rfl ?_
          refine r_if_ge hC (tgt := 107) dX10_speedOf_100 (by decide) (fun c93 => ?_) (fun c93 => ?_)
          · refine r_iload hC dX10_speedOf_107 0 rfl ?_
            refine r_bipush hC (v := (10)) dX10_speedOf_109 (by decide) (by decide) (fun x94_ e94 t94 => ?_)
            refine r_idiv hC dX10_speedOf_111 (ne_0 (by omega)) (fun x95_ e95 => ?_)
            exact r_iret hC hQ hlk hr rfl (by decide) (by decide) dX10_speedOf_112 ⟨_, rfl, rfl, trivial⟩
          · refine r_iconst hC (v := (0)) dX10_speedOf_103 (by decide) (by decide) (fun x96_ e96 t96 => ?_)
            refine r_goto hC (tgt := 112) dX10_speedOf_104 (by decide) ?_
            exact r_iret hC hQ hlk hr rfl (by decide) (by decide) dX10_speedOf_112 ⟨_, rfl, rfl, trivial⟩
        · refine r_aload_n hC dX10_speedOf_59 2 rfl ?_
          obtain ⟨a97_, hb97, hk97, hn97⟩ := hs.row ka0 16 86 300 (by decide) (by decide)
          refine r_getr hC 16 (ci := 10) rfl u10_in (by decide) mT_5_11 dX10_speedOf_60 ka0 rfl rfl hb97 ?_
          refine r_iload hC dX10_speedOf_63 1 rfl ?_
          refine x_iaload hC hk97 hn97 (by decide) rfl rfl dX10_speedOf_65 (by omega) (by omega) (fun x98_ e98 => ?_)
          refine r_aload_n hC dX10_speedOf_66 2 rfl ?_
          refine r_getr hC 3 (ci := 10) rfl u10_in (by decide) mT_4_238 dX10_speedOf_67 ka0 rfl rfl hbm ?_
          refine r_getrN hC 19 (ci := 9) rfl u9_in (by decide) nF_19 dX10_speedOf_70 khm rfl rfl hB76 ?_
          refine r_iload_n hC dX10_speedOf_73 3 rfl ?_
          refine x_iaload hC hK76 hN76 (by omega) (kOb (by omega)) (kAb (by omega)) dX10_speedOf_74 (by omega) (by omega) (fun x99_ e99 => ?_)
          refine r_icmp_lt hC (tgt := 81) dX10_speedOf_75 (by decide) (fun c100 => ?_) (fun c100 => ?_)
          · refine r_aload_n hC dX10_speedOf_81 2 rfl ?_
            refine r_getr hC 3 (ci := 10) rfl u10_in (by decide) mT_4_238 dX10_speedOf_82 ka0 rfl rfl hbm ?_
            obtain ⟨a101_, hb101, hk101, hn101⟩ := hs.row khm 11 70 5 (by decide) (by decide)
            refine r_getrN hC 11 (ci := 9) rfl u9_in (by decide) nF_11 dX10_speedOf_85 khm rfl rfl hb101 ?_
            refine r_iload_n hC dX10_speedOf_88 4 rfl ?_
            refine x_iaload hC hk101 hn101 (by decide) rfl rfl dX10_speedOf_89 (by omega) (by omega) (fun x102_ e102 => ?_)
            refine r_iload hC dX10_speedOf_90 6 rfl ?_
            refine r_iadd hC dX10_speedOf_92 (fun x103_ e103 => ?_)
            try have t103 : x103_.toInt = x102_.toInt + x4.toInt := by rw [e103]; exact ti_add (by omega) (by omega)
            refine r_iload hC dX10_speedOf_93 0 rfl ?_
            refine r_isub hC dX10_speedOf_95 (fun x104_ e104 => ?_)
            try have t104 : x104_.toInt = x103_.toInt - x65_.toInt := by rw [e104]; exact ti_sub (by omega) (by omega)
            refine r_istore hC (lv' := [(7, .int x104_), (6, .int x65_), (5, .int x5_), (0, .ref a0), (1, .int x1), (2, .int x2), (3, .int x3), (4, .int x4)]) dX10_speedOf_96 (by decide) rfl ?_
            refine r_iload hC dX10_speedOf_98 0 rfl ?_
            refine r_if_ge hC (tgt := 107) dX10_speedOf_100 (by decide) (fun c105 => ?_) (fun c105 => ?_)
            · refine r_iload hC dX10_speedOf_107 0 rfl ?_
              refine r_bipush hC (v := (10)) dX10_speedOf_109 (by decide) (by decide) (fun x106_ e106 t106 => ?_)
              refine r_idiv hC dX10_speedOf_111 (ne_0 (by omega)) (fun x107_ e107 => ?_)
              exact r_iret hC hQ hlk hr rfl (by decide) (by decide) dX10_speedOf_112 ⟨_, rfl, rfl, trivial⟩
            · refine r_iconst hC (v := (0)) dX10_speedOf_103 (by decide) (by decide) (fun x108_ e108 t108 => ?_)
              refine r_goto hC (tgt := 112) dX10_speedOf_104 (by decide) ?_
              exact r_iret hC hQ hlk hr rfl (by decide) (by decide) dX10_speedOf_112 ⟨_, rfl, rfl, trivial⟩
          · refine r_iconst hC (v := (0)) dX10_speedOf_78 (by decide) (by decide) (fun x109_ e109 t109 => ?_)
            refine r_istore hC (lv' := [(6, .int x109_), (5, .int x5_), (0, .ref a0), (1, .int x1), (2, .int x2), (3, .int x3), (4, .int x4)]) dX10_speedOf_79 (by decide) rfl ?_
            refine r_aload_n hC dX10_speedOf_81 2 rfl ?_
            refine r_getr hC 3 (ci := 10) rfl u10_in (by decide) mT_4_238 dX10_speedOf_82 ka0 rfl rfl hbm ?_
            obtain ⟨a110_, hb110, hk110, hn110⟩ := hs.row khm 11 70 5 (by decide) (by decide)
            refine r_getrN hC 11 (ci := 9) rfl u9_in (by decide) nF_11 dX10_speedOf_85 khm rfl rfl hb110 ?_
            refine r_iload_n hC dX10_speedOf_88 4 rfl ?_
            refine x_iaload hC hk110 hn110 (by decide) rfl rfl dX10_speedOf_89 (by omega) (by omega) (fun x111_ e111 => ?_)
            refine r_iload hC dX10_speedOf_90 6 rfl ?_
            refine r_iadd hC dX10_speedOf_92 (fun x112_ e112 => ?_)
            try have t112 : x112_.toInt = x111_.toInt + x4.toInt := by rw [e112]; exact ti_add (by omega) (by omega)
            refine r_iload hC dX10_speedOf_93 0 rfl ?_
            refine r_isub hC dX10_speedOf_95 (fun x113_ e113 => ?_)
            try have t113 : x113_.toInt = x112_.toInt - x109_.toInt := by rw [e113]; exact ti_sub (by omega) (by omega)
            refine r_istore hC (lv' := [(7, .int x113_), (6, .int x109_), (5, .int x5_), (0, .ref a0), (1, .int x1), (2, .int x2), (3, .int x3), (4, .int x4)]) dX10_speedOf_96 (by decide) rfl ?_
            refine r_iload hC dX10_speedOf_98 0 rfl ?_
            refine r_if_ge hC (tgt := 107) dX10_speedOf_100 (by decide) (fun c114 => ?_) (fun c114 => ?_)
            · refine r_iload hC dX10_speedOf_107 0 rfl ?_
              refine r_bipush hC (v := (10)) dX10_speedOf_109 (by decide) (by decide) (fun x115_ e115 t115 => ?_)
              refine r_idiv hC dX10_speedOf_111 (ne_0 (by omega)) (fun x116_ e116 => ?_)
              exact r_iret hC hQ hlk hr rfl (by decide) (by decide) dX10_speedOf_112 ⟨_, rfl, rfl, trivial⟩
            · refine r_iconst hC (v := (0)) dX10_speedOf_103 (by decide) (by decide) (fun x117_ e117 t117 => ?_)
              refine r_goto hC (tgt := 112) dX10_speedOf_104 (by decide) ?_
              exact r_iret hC hQ hlk hr rfl (by decide) (by decide) dX10_speedOf_112 ⟨_, rfl, rfl, trivial⟩
set_option maxHeartbeats 4000000 in
set_option maxRecDepth 100000 in
theorem c_X10_runs (g : GG) (l : Launch) (K len : Nat → Nat) (I : Nat → Nat → Int32) (J : Nat → Nat → Int64) (R : Nat → Nat → Option Nat) (hs : Sf K len I R) (a0 : Nat) (ka0 : K a0 = 11) (x1 : Int32) (x2 : Int32) (hm : Nat) (hbm : R a0 3 = some hm) (khm : K hm = 10) (ps1 : x1.toInt < (I hm 7).toInt) (p0 : 0 ≤ x1.toInt) (p1 : x1.toInt ≤ 5) : Ct g l yX10_runs cX10_runs 9 (Option.none : Option Jvm.ClassFile.FieldType) rmX10_runs [.ref a0, .int x1, .int x2] (K, len, I, J, R) (pV1 (K, len, I, J, R) (fun I' => Sf K len I' R ∧ Fr K [(11, 19), (86, 999), (87, 999), (88, 999)] I I')) := by
  refine Ct_intro (by decide +kernel) (Nat.le_of_ble_eq_true rfl) (fun X hC hL hKK hNm hr hlk hQ => ?_)
  subst hL
  have hC : Cx g X cX10_runs "HillTapModel" 9 rmX10_runs := hC
  show P g X 9 0 [(0, .ref a0), (1, .int x1), (2, .int x2)] [] 0 0 (K, len, I, J, R)
  have hF : Fr K [(11, 19), (86, 999), (87, 999), (88, 999)] I I := Fr.refl
  have b_x1 := ti_rng x1
  have b_x2 := ti_rng x2
  obtain ⟨S0, eS0⟩ : ∃ z : Int32, z = I hm 7 := ⟨_, rfl⟩
  have fS0 : S0.toInt = (I hm 7).toInt := by rw [eS0]
  have rS0 := hs.rng khm rfl eS0
  refine r_aload_n hC dX10_runs_0 0 rfl ?_
  refine r_bipush hC (v := (-2)) dX10_runs_1 (by decide) (by decide) (fun x1_ e1 t1 => ?_)
  refine r_puti hC 19 (ci := 10) rfl u10_in tyX10_ok nmX10 (by decide) mT_5_14 rfl rfl rfl dX10_runs_3 ka0 rfl rfl (fun I2 eI2 => ?_)
  have hs2 : Sf K len I2 R := hs.putB19 eI2 ka0 (by omega) (by omega)
  have hF2 := hF.put eI2 ka0 rfl
  refine r_iconst hC (v := (0)) dX10_runs_6 (by decide) (by decide) (fun x3_ e3 t3 => ?_)
  refine r_istore_n hC (lv' := [(3, .int x3_), (0, .ref a0), (1, .int x1), (2, .int x2)]) dX10_runs_7 (by decide) rfl ?_
  have LP4 : ∀ (mu : Nat) (x4_3 : Int32) (I4 : Nat → Nat → Int32) (hs4 : Sf K len I4 R) (hF4 : Fr K [(11, 19), (86, 999), (87, 999), (88, 999)] I I4) (v4_0 : 0 ≤ x4_3.toInt) (v4_1 : x4_3.toInt ≤ 60), (60 - x4_3.toInt).toNat = mu → P g X 9 8 [(0, .ref a0), (1, .int x1), (2, .int x2), (3, .int x4_3)] [] 0 0 (K, len, I4, J, R) := by
    intro mu; induction mu using Nat.strongRecOn with | ind mu ih => ?_
    intro x4_3 I4 hs4 hF4 v4_0 v4_1 hmu
    have ih4 := ih
    clear ih
    have hmu4 := hmu
    clear hmu
    refine r_iload_n hC dX10_runs_8 3 rfl ?_
    refine r_bipush hC (v := (60)) dX10_runs_9 (by decide) (by decide) (fun x5_ e5 t5 => ?_)
    refine r_icmp_ge hC (tgt := 215) dX10_runs_11 (by decide) (fun c6 => ?_) (fun c6 => ?_)
    · exact r_vret hC hQ hlk hr (by decide) (by decide) dX10_runs_215 ⟨_, rfl, rfl, ⟨hs4, hF4⟩⟩
    · refine r_iconst hC (v := (0)) dX10_runs_14 (by decide) (by decide) (fun x7_ e7 t7 => ?_)
      refine r_istore hC (lv' := [(4, .int x7_), (0, .ref a0), (1, .int x1), (2, .int x2), (3, .int x4_3)]) dX10_runs_15 (by decide) rfl ?_
      refine r_aload_n hC dX10_runs_17 1 rfl ?_
      refine r_iload_n hC dX10_runs_18 2 rfl ?_
      refine r_iload_n hC dX10_runs_19 4 rfl ?_
      refine r_iload_n hC dX10_runs_20 3 rfl ?_
      have hv8 : I4 hm 7 = S0 := (Eq.trans (hF4.get khm rfl) eS0.symm)
      refine r_callV hC (As := [.int x1, .int x4_3, .int x2]) (rest := []) (ci := 10) (c_X10_addOf g (xL X) K len I4 J R hs4 a0 ka0 x1 x4_3 x2 hm hbm khm (by rw [hv8]; omega) (by omega) (by omega) (by omega) (by omega)) mT_6_135 mT_1_10 mT_6_132 mT_6_134 mP_75 okX10_addOf ⟨by decide, by decide⟩ rfl (by show kO (K a0) = _; rw [ka0]; rfl) rfl rfl (Nat.le_of_ble_eq_true rfl) ⟨by decide, by decide⟩ dX10_runs_21 (aI0 (F := fun st M => P g X 9 24 [(4, .int x7_), (0, .ref a0), (1, .int x1), (2, .int x2), (3, .int x4_3)] st _ _ M) (M := (K, len, I4, J, R)) fun x9_ h9 => ?_)
      skip
      show P g X 9 24 [(4, .int x7_), (0, .ref a0), (1, .int x1), (2, .int x2), (3, .int x4_3)] [.int x9_] _ _ (K, len, I4, J, R)
      refine r_istore hC (lv' := [(5, .int x9_), (4, .int x7_), (0, .ref a0), (1, .int x1), (2, .int x2), (3, .int x4_3)]) dX10_runs_24 (by decide) rfl ?_
      refine r_iconst hC (v := (0)) dX10_runs_26 (by decide) (by decide) (fun x10_ e10 t10 => ?_)
      refine r_istore hC (lv' := [(6, .int x10_), (5, .int x9_), (4, .int x7_), (0, .ref a0), (1, .int x1), (2, .int x2), (3, .int x4_3)]) dX10_runs_27 (by decide) rfl ?_
      have LP11 : ∀ (mu : Nat) (x11_6 : Int32) (x11_4 : Int32) (I11 : Nat → Nat → Int32) (hs11 : Sf K len I11 R) (hF11 : Fr K [(11, 19), (86, 999), (87, 999), (88, 999)] I I11) (v11_0 : 0 ≤ x11_6.toInt) (v11_1 : x11_6.toInt ≤ 5), (5 - x11_6.toInt).toNat = mu → P g X 9 29 [(0, .ref a0), (1, .int x1), (2, .int x2), (3, .int x4_3), (4, .int x11_4), (5, .int x9_), (6, .int x11_6)] [] 0 0 (K, len, I11, J, R) := by
        intro mu; induction mu using Nat.strongRecOn with | ind mu ih => ?_
        intro x11_6 x11_4 I11 hs11 hF11 v11_0 v11_1 hmu
        have ih11 := ih
        clear ih
        have hmu11 := hmu
        clear hmu
        refine r_iload hC dX10_runs_29 6 rfl ?_
        refine r_aload_n hC dX10_runs_31 0 rfl ?_
        refine r_getr hC 3 (ci := 10) rfl u10_in (by decide) mT_4_238 dX10_runs_32 ka0 rfl rfl hbm ?_
        refine r_getiN hC 3 (ci := 9) rfl u9_in (by decide) nF_3 dX10_runs_35 khm rfl rfl (fun x12_ e12 => ?_)
        have r12 := hs11.rng khm rfl e12
        have f12 : x12_.toInt = (I11 hm 3).toInt := by rw [e12]
        refine r_icmp_ge hC (tgt := 199) dX10_runs_38 (by decide) (fun c13 => ?_) (fun c13 => ?_)
        · refine r_iload hC dX10_runs_199 4 rfl ?_
          refine r_if_eq hC (tgt := 209) dX10_runs_201 (by decide) (fun c14 => ?_) (fun c14 => ?_)
          · obtain ⟨x15_, e15⟩ : ∃ z : Int32, z = x4_3 + Int32.ofInt (1) := ⟨_, rfl⟩
            refine r_iinc hC (j := 3) (v := x15_) (lv' := [(3, .int x15_), (0, .ref a0), (1, .int x1), (2, .int x2), (4, .int x11_4), (5, .int x9_), (6, .int x11_6)]) dX10_runs_209 rfl (by rw [e15]) (by decide) rfl ?_
            try have t15 : x15_.toInt = x4_3.toInt + (1) := by rw [e15]; exact (ti_add (b := Int32.ofInt (1)) (by show _ ≤ _ + (1 : Int); omega) (by show _ + (1 : Int) ≤ _; omega))
            refine r_goto hC (tgt := 8) dX10_runs_212 (by decide) ?_
            refine r_sub [1, 2, 3, 0] rfl ?_
            exact ih4 ((60 - x15_.toInt).toNat) (by omega) x15_ I11 hs11 hF11 (by omega) (by omega) rfl
          · refine r_aload_n hC dX10_runs_204 0 rfl ?_
            refine r_iload_n hC dX10_runs_205 3 rfl ?_
            refine r_puti hC 19 (ci := 10) rfl u10_in tyX10_ok nmX10 (by decide) mT_5_14 rfl rfl rfl dX10_runs_206 ka0 rfl rfl (fun I16 eI16 => ?_)
            have hs16 : Sf K len I16 R := hs11.putB19 eI16 ka0 (by omega) (by omega)
            have hF16 := hF11.put eI16 ka0 rfl
            obtain ⟨x17_, e17⟩ : ∃ z : Int32, z = x4_3 + Int32.ofInt (1) := ⟨_, rfl⟩
            refine r_iinc hC (j := 3) (v := x17_) (lv' := [(3, .int x17_), (0, .ref a0), (1, .int x1), (2, .int x2), (4, .int x11_4), (5, .int x9_), (6, .int x11_6)]) dX10_runs_209 rfl (by rw [e17]) (by decide) rfl ?_
            try have t17 : x17_.toInt = x4_3.toInt + (1) := by rw [e17]; exact (ti_add (b := Int32.ofInt (1)) (by show _ ≤ _ + (1 : Int); omega) (by show _ + (1 : Int) ≤ _; omega))
            refine r_goto hC (tgt := 8) dX10_runs_212 (by decide) ?_
            refine r_sub [1, 2, 3, 0] rfl ?_
            exact ih4 ((60 - x17_.toInt).toNat) (by omega) x17_ I16 hs16 hF16 (by omega) (by omega) rfl
        · refine r_bipush hC (v := (60)) dX10_runs_41 (by decide) (by decide) (fun x18_ e18 t18 => ?_)
          refine r_iload hC dX10_runs_43 6 rfl ?_
          refine r_imul hC dX10_runs_45 (fun x19_ e19 => ?_)
          try have t19 : x19_.toInt = (60) * x11_6.toInt := by rw [e19]; exact ti_mul (by omega) rfl (by omega) (by omega)
          refine r_iload_n hC dX10_runs_46 3 rfl ?_
          refine r_iadd hC dX10_runs_47 (fun x20_ e20 => ?_)
          try have t20 : x20_.toInt = x19_.toInt + x4_3.toInt := by rw [e20]; exact ti_add (by omega) (by omega)
          refine r_istore hC (lv' := [(7, .int x20_), (0, .ref a0), (1, .int x1), (2, .int x2), (3, .int x4_3), (4, .int x11_4), (5, .int x9_), (6, .int x11_6)]) dX10_runs_48 (by decide) rfl ?_
          refine r_aload_n hC dX10_runs_50 1 rfl ?_
          refine r_geti hC 19 (ci := 10) rfl u10_in (by decide) mT_5_14 dX10_runs_51 ka0 rfl rfl (fun x21_ e21 => ?_)
          have r21 := hs11.rng ka0 rfl e21
          have q21 := hs11.gone ka0 e21
          refine r_bipush hC (v := (-2)) dX10_runs_54 (by decide) (by decide) (fun x22_ e22 t22 => ?_)
          refine r_icmp_ne hC (tgt := 72) dX10_runs_56 (by decide) (fun c23 => ?_) (fun c23 => ?_)
          · refine r_iconst hC (v := (0)) dX10_runs_72 (by decide) (by decide) (fun x24_ e24 t24 => ?_)
            refine r_istore hC (lv' := [(8, .int x24_), (7, .int x20_), (0, .ref a0), (1, .int x1), (2, .int x2), (3, .int x4_3), (4, .int x11_4), (5, .int x9_), (6, .int x11_6)]) dX10_runs_73 (by decide) rfl ?_
            refine r_aload_n hC dX10_runs_75 2 rfl ?_
            obtain ⟨a25_, hb25, hk25, hn25⟩ := hs11.row ka0 16 86 300 (by decide) (by decide)
            refine r_getr hC 16 (ci := 10) rfl u10_in (by decide) mT_5_11 dX10_runs_76 ka0 rfl rfl hb25 ?_
            refine r_iload hC dX10_runs_79 1 rfl ?_
            refine r_iload hC dX10_runs_81 0 rfl ?_
            refine x_iastore hC hk25 hn25 (by decide) rfl rfl dX10_runs_83 (by omega) (by omega) (fun I26 eI26 => ?_)
            have hs26 := hs11.put0 eI26 hk25 (rng_arr (by decide) _) rfl (xF_arr (by decide) _) (by decide)
            have hF26 := hF11.put eI26 hk25 (inS_arr rfl _)
            refine r_aload_n hC dX10_runs_84 2 rfl ?_
            obtain ⟨a27_, hb27, hk27, hn27⟩ := hs26.row ka0 17 87 300 (by decide) (by decide)
            refine r_getr hC 17 (ci := 10) rfl u10_in (by decide) mT_5_12 dX10_runs_85 ka0 rfl rfl hb27 ?_
            refine r_iload hC dX10_runs_88 1 rfl ?_
            refine r_iload_n hC dX10_runs_90 5 rfl ?_
            refine r_if_ne hC (tgt := 98) dX10_runs_91 (by decide) (fun c28 => ?_) (fun c28 => ?_)
            · refine r_aload_n hC dX10_runs_98 2 rfl ?_
              refine r_getr hC 17 (ci := 10) rfl u10_in (by decide) mT_5_12 dX10_runs_99 ka0 rfl rfl hb27 ?_
              refine r_iload hC dX10_runs_102 1 rfl ?_
              refine r_iconst hC (v := (1)) dX10_runs_104 (by decide) (by decide) (fun x29_ e29 t29 => ?_)
              refine r_isub hC dX10_runs_105 (fun x30_ e30 => ?_)
              try have t30 : x30_.toInt = x20_.toInt - x29_.toInt := by rw [e30]; exact ti_sub (by omega) (by omega)
              refine x_iaload hC hk27 hn27 (by decide) rfl rfl dX10_runs_106 (by omega) (by omega) (fun x31_ e31 => ?_)
              refine r_iload hC dX10_runs_107 0 rfl ?_
              refine r_iadd hC dX10_runs_109 (fun x32_ e32 => ?_)
              try have t32 : x32_.toInt = x31_.toInt + x24_.toInt := by rw [e32]; exact ti_add (by omega) (by omega)
              refine x_iastore hC hk27 hn27 (by decide) rfl rfl dX10_runs_110 (by omega) (by omega) (fun I33 eI33 => ?_)
              have hs33 := hs26.put0 eI33 hk27 (rng_arr (by decide) _) rfl (xF_arr (by decide) _) (by decide)
              have hF33 := hF26.put eI33 hk27 (inS_arr rfl _)
              refine r_aload_n hC dX10_runs_111 2 rfl ?_
              obtain ⟨a34_, hb34, hk34, hn34⟩ := hs33.row ka0 18 88 300 (by decide) (by decide)
              refine r_getr hC 18 (ci := 10) rfl u10_in (by decide) mT_5_13 dX10_runs_112 ka0 rfl rfl hb34 ?_
              refine r_iload hC dX10_runs_115 1 rfl ?_
              refine r_iload_n hC dX10_runs_117 5 rfl ?_
              refine r_if_ne hC (tgt := 125) dX10_runs_118 (by decide) (fun c35 => ?_) (fun c35 => ?_)
              · refine r_aload_n hC dX10_runs_125 2 rfl ?_
                refine r_getr hC 18 (ci := 10) rfl u10_in (by decide) mT_5_13 dX10_runs_126 ka0 rfl rfl hb34 ?_
                refine r_iload hC dX10_runs_129 1 rfl ?_
                refine r_iconst hC (v := (1)) dX10_runs_131 (by decide) (by decide) (fun x36_ e36 t36 => ?_)
                refine r_isub hC dX10_runs_132 (fun x37_ e37 => ?_)
                try have t37 : x37_.toInt = x20_.toInt - x36_.toInt := by rw [e37]; exact ti_sub (by omega) (by omega)
                refine x_iaload hC hk34 hn34 (by decide) rfl rfl dX10_runs_133 (by omega) (by omega) (fun x38_ e38 => ?_)
                refine r_aload_n hC dX10_runs_134 2 rfl ?_
                refine r_getr hC 3 (ci := 10) rfl u10_in (by decide) mT_4_238 dX10_runs_135 ka0 rfl rfl hbm ?_
                obtain ⟨kd39, mo39, hb39, hk39, hn39, hB39, hK39, hN39⟩ := hs33.2.2.1 hm khm
                refine r_getrN hC 17 (ci := 9) rfl u9_in (by decide) nF_17 dX10_runs_138 khm rfl rfl hb39 ?_
                refine r_iload_n hC dX10_runs_141 3 rfl ?_
                refine x_iaload hC hk39 hn39 (by omega) (kOb (by omega)) (kAb (by omega)) dX10_runs_142 (by omega) (by omega) (fun x40_ e40 => ?_)
                refine r_iconst hC (v := (3)) dX10_runs_143 (by decide) (by decide) (fun x41_ e41 t41 => ?_)
                refine r_icmp_ne hC (tgt := 171) dX10_runs_144 (by decide) (fun c42 => ?_) (fun c42 => ?_)
                · refine r_iconst hC (v := (0)) dX10_runs_171 (by decide) (by decide) (fun x43_ e43 t43 => ?_)
                  refine r_iadd hC dX10_runs_172 (fun x44_ e44 => ?_)
                  try have t44 : x44_.toInt = x38_.toInt + x43_.toInt := by rw [e44]; exact ti_add (by omega) (by omega)
                  refine x_iastore hC hk34 hn34 (by decide) rfl rfl dX10_runs_173 (by omega) (by omega) (fun I45 eI45 => ?_)
                  have hs45 := hs33.put0 eI45 hk34 (rng_arr (by decide) _) rfl (xF_arr (by decide) _) (by decide)
                  have hF45 := hF33.put eI45 hk34 (inS_arr rfl _)
                  refine r_iload hC dX10_runs_174 6 rfl ?_
                  refine r_if_ne hC (tgt := 186) dX10_runs_176 (by decide) (fun c46 => ?_) (fun c46 => ?_)
                  · refine r_iconst hC (v := (1)) dX10_runs_186 (by decide) (by decide) (fun x47_ e47 t47 => ?_)
                    refine r_goto hC (tgt := 191) dX10_runs_187 (by decide) ?_
                    refine r_istore hC (lv' := [(4, .int x47_), (8, .int x24_), (7, .int x20_), (0, .ref a0), (1, .int x1), (2, .int x2), (3, .int x4_3), (5, .int x9_), (6, .int x11_6)]) dX10_runs_191 (by decide) rfl ?_
                    obtain ⟨x48_, e48⟩ : ∃ z : Int32, z = x11_6 + Int32.ofInt (1) := ⟨_, rfl⟩
                    refine r_iinc hC (j := 8) (v := x48_) (lv' := [(6, .int x48_), (4, .int x47_), (8, .int x24_), (7, .int x20_), (0, .ref a0), (1, .int x1), (2, .int x2), (3, .int x4_3), (5, .int x9_)]) dX10_runs_193 rfl (by rw [e48]) (by decide) rfl ?_
                    try have t48 : x48_.toInt = x11_6.toInt + (1) := by rw [e48]; exact (ti_add (b := Int32.ofInt (1)) (by show _ ≤ _ + (1 : Int); omega) (by show _ + (1 : Int) ≤ _; omega))
                    refine r_goto hC (tgt := 29) dX10_runs_196 (by decide) ?_
                    refine r_sub [4, 5, 6, 7, 1, 8, 0] rfl ?_
                    exact ih11 ((5 - x48_.toInt).toNat) (by omega) x48_ x47_ I45 hs45 hF45 (by omega) (by omega) rfl
                  · refine r_iload hC dX10_runs_179 0 rfl ?_
                    refine r_bipush hC (v := (100)) dX10_runs_181 (by decide) (by decide) (fun x49_ e49 t49 => ?_)
                    refine r_icmp_lt hC (tgt := 190) dX10_runs_183 (by decide) (fun c50 => ?_) (fun c50 => ?_)
                    rotate_left
                    · exfalso; omega
                    refine r_iconst hC (v := (0)) dX10_runs_190 (by decide) (by decide) (fun x51_ e51 t51 => ?_)
                    refine r_istore hC (lv' := [(4, .int x51_), (8, .int x24_), (7, .int x20_), (0, .ref a0), (1, .int x1), (2, .int x2), (3, .int x4_3), (5, .int x9_), (6, .int x11_6)]) dX10_runs_191 (by decide) rfl ?_
                    obtain ⟨x52_, e52⟩ : ∃ z : Int32, z = x11_6 + Int32.ofInt (1) := ⟨_, rfl⟩
                    refine r_iinc hC (j := 8) (v := x52_) (lv' := [(6, .int x52_), (4, .int x51_), (8, .int x24_), (7, .int x20_), (0, .ref a0), (1, .int x1), (2, .int x2), (3, .int x4_3), (5, .int x9_)]) dX10_runs_193 rfl (by rw [e52]) (by decide) rfl ?_
                    try have t52 : x52_.toInt = x11_6.toInt + (1) := by rw [e52]; exact (ti_add (b := Int32.ofInt (1)) (by show _ ≤ _ + (1 : Int); omega) (by show _ + (1 : Int) ≤ _; omega))
                    refine r_goto hC (tgt := 29) dX10_runs_196 (by decide) ?_
                    refine r_sub [4, 5, 6, 7, 1, 8, 0] rfl ?_
                    exact ih11 ((5 - x52_.toInt).toNat) (by omega) x52_ x51_ I45 hs45 hF45 (by omega) (by omega) rfl
                · refine r_aload_n hC dX10_runs_147 2 rfl ?_
                  refine r_getr hC 17 (ci := 10) rfl u10_in (by decide) mT_5_12 dX10_runs_148 ka0 rfl rfl hb27 ?_
                  refine r_iload hC dX10_runs_151 1 rfl ?_
                  refine x_iaload hC hk27 hn27 (by decide) rfl rfl dX10_runs_153 (by omega) (by omega) (fun x53_ e53 => ?_)
                  refine r_aload_n hC dX10_runs_154 2 rfl ?_
                  refine r_getr hC 3 (ci := 10) rfl u10_in (by decide) mT_4_238 dX10_runs_155 ka0 rfl rfl hbm ?_
                  refine r_getrN hC 19 (ci := 9) rfl u9_in (by decide) nF_19 dX10_runs_158 khm rfl rfl hB39 ?_
                  refine r_iload_n hC dX10_runs_161 3 rfl ?_
                  refine x_iaload hC hK39 hN39 (by omega) (kOb (by omega)) (kAb (by omega)) dX10_runs_162 (by omega) (by omega) (fun x54_ e54 => ?_)
                  refine r_icmp_lt hC (tgt := 171) dX10_runs_163 (by decide) (fun c55 => ?_) (fun c55 => ?_)
                  · refine r_iconst hC (v := (0)) dX10_runs_171 (by decide) (by decide) (fun x56_ e56 t56 => ?_)
                    refine r_iadd hC dX10_runs_172 (fun x57_ e57 => ?_)
                    try have t57 : x57_.toInt = x38_.toInt + x56_.toInt := by rw [e57]; exact ti_add (by omega) (by omega)
                    refine x_iastore hC hk34 hn34 (by decide) rfl rfl dX10_runs_173 (by omega) (by omega) (fun I58 eI58 => ?_)
                    have hs58 := hs33.put0 eI58 hk34 (rng_arr (by decide) _) rfl (xF_arr (by decide) _) (by decide)
                    have hF58 := hF33.put eI58 hk34 (inS_arr rfl _)
                    refine r_iload hC dX10_runs_174 6 rfl ?_
                    refine r_if_ne hC (tgt := 186) dX10_runs_176 (by decide) (fun c59 => ?_) (fun c59 => ?_)
                    · refine r_iconst hC (v := (1)) dX10_runs_186 (by decide) (by decide) (fun x60_ e60 t60 => ?_)
                      refine r_goto hC (tgt := 191) dX10_runs_187 (by decide) ?_
                      refine r_istore hC (lv' := [(4, .int x60_), (8, .int x24_), (7, .int x20_), (0, .ref a0), (1, .int x1), (2, .int x2), (3, .int x4_3), (5, .int x9_), (6, .int x11_6)]) dX10_runs_191 (by decide) rfl ?_
                      obtain ⟨x61_, e61⟩ : ∃ z : Int32, z = x11_6 + Int32.ofInt (1) := ⟨_, rfl⟩
                      refine r_iinc hC (j := 8) (v := x61_) (lv' := [(6, .int x61_), (4, .int x60_), (8, .int x24_), (7, .int x20_), (0, .ref a0), (1, .int x1), (2, .int x2), (3, .int x4_3), (5, .int x9_)]) dX10_runs_193 rfl (by rw [e61]) (by decide) rfl ?_
                      try have t61 : x61_.toInt = x11_6.toInt + (1) := by rw [e61]; exact (ti_add (b := Int32.ofInt (1)) (by show _ ≤ _ + (1 : Int); omega) (by show _ + (1 : Int) ≤ _; omega))
                      refine r_goto hC (tgt := 29) dX10_runs_196 (by decide) ?_
                      refine r_sub [4, 5, 6, 7, 1, 8, 0] rfl ?_
                      exact ih11 ((5 - x61_.toInt).toNat) (by omega) x61_ x60_ I58 hs58 hF58 (by omega) (by omega) rfl
                    · refine r_iload hC dX10_runs_179 0 rfl ?_
                      refine r_bipush hC (v := (100)) dX10_runs_181 (by decide) (by decide) (fun x62_ e62 t62 => ?_)
                      refine r_icmp_lt hC (tgt := 190) dX10_runs_183 (by decide) (fun c63 => ?_) (fun c63 => ?_)
                      rotate_left
                      · exfalso; omega
                      refine r_iconst hC (v := (0)) dX10_runs_190 (by decide) (by decide) (fun x64_ e64 t64 => ?_)
                      refine r_istore hC (lv' := [(4, .int x64_), (8, .int x24_), (7, .int x20_), (0, .ref a0), (1, .int x1), (2, .int x2), (3, .int x4_3), (5, .int x9_), (6, .int x11_6)]) dX10_runs_191 (by decide) rfl ?_
                      obtain ⟨x65_, e65⟩ : ∃ z : Int32, z = x11_6 + Int32.ofInt (1) := ⟨_, rfl⟩
                      refine r_iinc hC (j := 8) (v := x65_) (lv' := [(6, .int x65_), (4, .int x64_), (8, .int x24_), (7, .int x20_), (0, .ref a0), (1, .int x1), (2, .int x2), (3, .int x4_3), (5, .int x9_)]) dX10_runs_193 rfl (by rw [e65]) (by decide) rfl ?_
                      try have t65 : x65_.toInt = x11_6.toInt + (1) := by rw [e65]; exact (ti_add (b := Int32.ofInt (1)) (by show _ ≤ _ + (1 : Int); omega) (by show _ + (1 : Int) ≤ _; omega))
                      refine r_goto hC (tgt := 29) dX10_runs_196 (by decide) ?_
                      refine r_sub [4, 5, 6, 7, 1, 8, 0] rfl ?_
                      exact ih11 ((5 - x65_.toInt).toNat) (by omega) x65_ x64_ I58 hs58 hF58 (by omega) (by omega) rfl
                  · refine r_iload hC dX10_runs_166 0 rfl ?_
                    refine r_goto hC (tgt := 172) dX10_runs_168 (by decide) ?_
                    refine r_iadd hC dX10_runs_172 (fun x66_ e66 => ?_)
                    try have t66 : x66_.toInt = x38_.toInt + x24_.toInt := by rw [e66]; exact ti_add (by omega) (by omega)
                    refine x_iastore hC hk34 hn34 (by decide) rfl rfl dX10_runs_173 (by omega) (by omega) (fun I67 eI67 => ?_)
                    have hs67 := hs33.put0 eI67 hk34 (rng_arr (by decide) _) rfl (xF_arr (by decide) _) (by decide)
                    have hF67 := hF33.put eI67 hk34 (inS_arr rfl _)
                    refine r_iload hC dX10_runs_174 6 rfl ?_
                    refine r_if_ne hC (tgt := 186) dX10_runs_176 (by decide) (fun c68 => ?_) (fun c68 => ?_)
                    · refine r_iconst hC (v := (1)) dX10_runs_186 (by decide) (by decide) (fun x69_ e69 t69 => ?_)
                      refine r_goto hC (tgt := 191) dX10_runs_187 (by decide) ?_
                      refine r_istore hC (lv' := [(4, .int x69_), (8, .int x24_), (7, .int x20_), (0, .ref a0), (1, .int x1), (2, .int x2), (3, .int x4_3), (5, .int x9_), (6, .int x11_6)]) dX10_runs_191 (by decide) rfl ?_
                      obtain ⟨x70_, e70⟩ : ∃ z : Int32, z = x11_6 + Int32.ofInt (1) := ⟨_, rfl⟩
                      refine r_iinc hC (j := 8) (v := x70_) (lv' := [(6, .int x70_), (4, .int x69_), (8, .int x24_), (7, .int x20_), (0, .ref a0), (1, .int x1), (2, .int x2), (3, .int x4_3), (5, .int x9_)]) dX10_runs_193 rfl (by rw [e70]) (by decide) rfl ?_
                      try have t70 : x70_.toInt = x11_6.toInt + (1) := by rw [e70]; exact (ti_add (b := Int32.ofInt (1)) (by show _ ≤ _ + (1 : Int); omega) (by show _ + (1 : Int) ≤ _; omega))
                      refine r_goto hC (tgt := 29) dX10_runs_196 (by decide) ?_
                      refine r_sub [4, 5, 6, 7, 1, 8, 0] rfl ?_
                      exact ih11 ((5 - x70_.toInt).toNat) (by omega) x70_ x69_ I67 hs67 hF67 (by omega) (by omega) rfl
                    · refine r_iload hC dX10_runs_179 0 rfl ?_
                      refine r_bipush hC (v := (100)) dX10_runs_181 (by decide) (by decide) (fun x71_ e71 t71 => ?_)
                      refine r_icmp_lt hC (tgt := 190) dX10_runs_183 (by decide) (fun c72 => ?_) (fun c72 => ?_)
                      rotate_left
                      · exfalso; omega
                      refine r_iconst hC (v := (0)) dX10_runs_190 (by decide) (by decide) (fun x73_ e73 t73 => ?_)
                      refine r_istore hC (lv' := [(4, .int x73_), (8, .int x24_), (7, .int x20_), (0, .ref a0), (1, .int x1), (2, .int x2), (3, .int x4_3), (5, .int x9_), (6, .int x11_6)]) dX10_runs_191 (by decide) rfl ?_
                      obtain ⟨x74_, e74⟩ : ∃ z : Int32, z = x11_6 + Int32.ofInt (1) := ⟨_, rfl⟩
                      refine r_iinc hC (j := 8) (v := x74_) (lv' := [(6, .int x74_), (4, .int x73_), (8, .int x24_), (7, .int x20_), (0, .ref a0), (1, .int x1), (2, .int x2), (3, .int x4_3), (5, .int x9_)]) dX10_runs_193 rfl (by rw [e74]) (by decide) rfl ?_
                      try have t74 : x74_.toInt = x11_6.toInt + (1) := by rw [e74]; exact (ti_add (b := Int32.ofInt (1)) (by show _ ≤ _ + (1 : Int); omega) (by show _ + (1 : Int) ≤ _; omega))
                      refine r_goto hC (tgt := 29) dX10_runs_196 (by decide) ?_
                      refine r_sub [4, 5, 6, 7, 1, 8, 0] rfl ?_
                      exact ih11 ((5 - x74_.toInt).toNat) (by omega) x74_ x73_ I67 hs67 hF67 (by omega) (by omega) rfl
              · refine r_iconst hC (v := (0)) dX10_runs_121 (by decide) (by decide) (fun x75_ e75 t75 => ?_)
                refine r_goto hC (tgt := 134) dX10_runs_122 (by decide) ?_
                refine r_aload_n hC dX10_runs_134 2 rfl ?_
                refine r_getr hC 3 (ci := 10) rfl u10_in (by decide) mT_4_238 dX10_runs_135 ka0 rfl rfl hbm ?_
                obtain ⟨kd76, mo76, hb76, hk76, hn76, hB76, hK76, hN76⟩ := hs33.2.2.1 hm khm
                refine r_getrN hC 17 (ci := 9) rfl u9_in (by decide) nF_17 dX10_runs_138 khm rfl rfl hb76 ?_
                refine r_iload_n hC dX10_runs_141 3 rfl ?_
                refine x_iaload hC hk76 hn76 (by omega) (kOb (by omega)) (kAb (by omega)) dX10_runs_142 (by omega) (by omega) (fun x77_ e77 => ?_)
                refine r_iconst hC (v := (3)) dX10_runs_143 (by decide) (by decide) (fun x78_ e78 t78 => ?_)
                refine r_icmp_ne hC (tgt := 171) dX10_runs_144 (by decide) (fun c79 => ?_) (fun c79 => ?_)
                · refine r_iconst hC (v := (0)) dX10_runs_171 (by decide) (by decide) (fun x80_ e80 t80 => ?_)
                  refine r_iadd hC dX10_runs_172 (fun x81_ e81 => ?_)
                  try have t81 : x81_.toInt = x75_.toInt + x80_.toInt := by rw [e81]; exact ti_add (by omega) (by omega)
                  refine x_iastore hC hk34 hn34 (by decide) rfl rfl dX10_runs_173 (by omega) (by omega) (fun I82 eI82 => ?_)
                  have hs82 := hs33.put0 eI82 hk34 (rng_arr (by decide) _) rfl (xF_arr (by decide) _) (by decide)
                  have hF82 := hF33.put eI82 hk34 (inS_arr rfl _)
                  refine r_iload hC dX10_runs_174 6 rfl ?_
                  refine r_if_ne hC (tgt := 186) dX10_runs_176 (by decide) (fun c83 => ?_) (fun c83 => ?_)
                  · refine r_iconst hC (v := (1)) dX10_runs_186 (by decide) (by decide) (fun x84_ e84 t84 => ?_)
                    refine r_goto hC (tgt := 191) dX10_runs_187 (by decide) ?_
                    refine r_istore hC (lv' := [(4, .int x84_), (8, .int x24_), (7, .int x20_), (0, .ref a0), (1, .int x1), (2, .int x2), (3, .int x4_3), (5, .int x9_), (6, .int x11_6)]) dX10_runs_191 (by decide) rfl ?_
                    obtain ⟨x85_, e85⟩ : ∃ z : Int32, z = x11_6 + Int32.ofInt (1) := ⟨_, rfl⟩
                    refine r_iinc hC (j := 8) (v := x85_) (lv' := [(6, .int x85_), (4, .int x84_), (8, .int x24_), (7, .int x20_), (0, .ref a0), (1, .int x1), (2, .int x2), (3, .int x4_3), (5, .int x9_)]) dX10_runs_193 rfl (by rw [e85]) (by decide) rfl ?_
                    try have t85 : x85_.toInt = x11_6.toInt + (1) := by rw [e85]; exact (ti_add (b := Int32.ofInt (1)) (by show _ ≤ _ + (1 : Int); omega) (by show _ + (1 : Int) ≤ _; omega))
                    refine r_goto hC (tgt := 29) dX10_runs_196 (by decide) ?_
                    refine r_sub [4, 5, 6, 7, 1, 8, 0] rfl ?_
                    exact ih11 ((5 - x85_.toInt).toNat) (by omega) x85_ x84_ I82 hs82 hF82 (by omega) (by omega) rfl
                  · refine r_iload hC dX10_runs_179 0 rfl ?_
                    refine r_bipush hC (v := (100)) dX10_runs_181 (by decide) (by decide) (fun x86_ e86 t86 => ?_)
                    refine r_icmp_lt hC (tgt := 190) dX10_runs_183 (by decide) (fun c87 => ?_) (fun c87 => ?_)
                    rotate_left
                    · exfalso; omega
                    refine r_iconst hC (v := (0)) dX10_runs_190 (by decide) (by decide) (fun x88_ e88 t88 => ?_)
                    refine r_istore hC (lv' := [(4, .int x88_), (8, .int x24_), (7, .int x20_), (0, .ref a0), (1, .int x1), (2, .int x2), (3, .int x4_3), (5, .int x9_), (6, .int x11_6)]) dX10_runs_191 (by decide) rfl ?_
                    obtain ⟨x89_, e89⟩ : ∃ z : Int32, z = x11_6 + Int32.ofInt (1) := ⟨_, rfl⟩
                    refine r_iinc hC (j := 8) (v := x89_) (lv' := [(6, .int x89_), (4, .int x88_), (8, .int x24_), (7, .int x20_), (0, .ref a0), (1, .int x1), (2, .int x2), (3, .int x4_3), (5, .int x9_)]) dX10_runs_193 rfl (by rw [e89]) (by decide) rfl ?_
                    try have t89 : x89_.toInt = x11_6.toInt + (1) := by rw [e89]; exact (ti_add (b := Int32.ofInt (1)) (by show _ ≤ _ + (1 : Int); omega) (by show _ + (1 : Int) ≤ _; omega))
                    refine r_goto hC (tgt := 29) dX10_runs_196 (by decide) ?_
                    refine r_sub [4, 5, 6, 7, 1, 8, 0] rfl ?_
                    exact ih11 ((5 - x89_.toInt).toNat) (by omega) x89_ x88_ I82 hs82 hF82 (by omega) (by omega) rfl
                · refine r_aload_n hC dX10_runs_147 2 rfl ?_
                  refine r_getr hC 17 (ci := 10) rfl u10_in (by decide) mT_5_12 dX10_runs_148 ka0 rfl rfl hb27 ?_
                  refine r_iload hC dX10_runs_151 1 rfl ?_
                  refine x_iaload hC hk27 hn27 (by decide) rfl rfl dX10_runs_153 (by omega) (by omega) (fun x90_ e90 => ?_)
                  refine r_aload_n hC dX10_runs_154 2 rfl ?_
                  refine r_getr hC 3 (ci := 10) rfl u10_in (by decide) mT_4_238 dX10_runs_155 ka0 rfl rfl hbm ?_
                  refine r_getrN hC 19 (ci := 9) rfl u9_in (by decide) nF_19 dX10_runs_158 khm rfl rfl hB76 ?_
                  refine r_iload_n hC dX10_runs_161 3 rfl ?_
                  refine x_iaload hC hK76 hN76 (by omega) (kOb (by omega)) (kAb (by omega)) dX10_runs_162 (by omega) (by omega) (fun x91_ e91 => ?_)
                  refine r_icmp_lt hC (tgt := 171) dX10_runs_163 (by decide) (fun c92 => ?_) (fun c92 => ?_)
                  · refine r_iconst hC (v := (0)) dX10_runs_171 (by decide) (by decide) (fun x93_ e93 t93 => ?_)
                    refine r_iadd hC dX10_runs_172 (fun x94_ e94 => ?_)
                    try have t94 : x94_.toInt = x75_.toInt + x93_.toInt := by rw [e94]; exact ti_add (by omega) (by omega)
                    refine x_iastore hC hk34 hn34 (by decide) rfl rfl dX10_runs_173 (by omega) (by omega) (fun I95 eI95 => ?_)
                    have hs95 := hs33.put0 eI95 hk34 (rng_arr (by decide) _) rfl (xF_arr (by decide) _) (by decide)
                    have hF95 := hF33.put eI95 hk34 (inS_arr rfl _)
                    refine r_iload hC dX10_runs_174 6 rfl ?_
                    refine r_if_ne hC (tgt := 186) dX10_runs_176 (by decide) (fun c96 => ?_) (fun c96 => ?_)
                    · refine r_iconst hC (v := (1)) dX10_runs_186 (by decide) (by decide) (fun x97_ e97 t97 => ?_)
                      refine r_goto hC (tgt := 191) dX10_runs_187 (by decide) ?_
                      refine r_istore hC (lv' := [(4, .int x97_), (8, .int x24_), (7, .int x20_), (0, .ref a0), (1, .int x1), (2, .int x2), (3, .int x4_3), (5, .int x9_), (6, .int x11_6)]) dX10_runs_191 (by decide) rfl ?_
                      obtain ⟨x98_, e98⟩ : ∃ z : Int32, z = x11_6 + Int32.ofInt (1) := ⟨_, rfl⟩
                      refine r_iinc hC (j := 8) (v := x98_) (lv' := [(6, .int x98_), (4, .int x97_), (8, .int x24_), (7, .int x20_), (0, .ref a0), (1, .int x1), (2, .int x2), (3, .int x4_3), (5, .int x9_)]) dX10_runs_193 rfl (by rw [e98]) (by decide) rfl ?_
                      try have t98 : x98_.toInt = x11_6.toInt + (1) := by rw [e98]; exact (ti_add (b := Int32.ofInt (1)) (by show _ ≤ _ + (1 : Int); omega) (by show _ + (1 : Int) ≤ _; omega))
                      refine r_goto hC (tgt := 29) dX10_runs_196 (by decide) ?_
                      refine r_sub [4, 5, 6, 7, 1, 8, 0] rfl ?_
                      exact ih11 ((5 - x98_.toInt).toNat) (by omega) x98_ x97_ I95 hs95 hF95 (by omega) (by omega) rfl
                    · refine r_iload hC dX10_runs_179 0 rfl ?_
                      refine r_bipush hC (v := (100)) dX10_runs_181 (by decide) (by decide) (fun x99_ e99 t99 => ?_)
                      refine r_icmp_lt hC (tgt := 190) dX10_runs_183 (by decide) (fun c100 => ?_) (fun c100 => ?_)
                      rotate_left
                      · exfalso; omega
                      refine r_iconst hC (v := (0)) dX10_runs_190 (by decide) (by decide) (fun x101_ e101 t101 => ?_)
                      refine r_istore hC (lv' := [(4, .int x101_), (8, .int x24_), (7, .int x20_), (0, .ref a0), (1, .int x1), (2, .int x2), (3, .int x4_3), (5, .int x9_), (6, .int x11_6)]) dX10_runs_191 (by decide) rfl ?_
                      obtain ⟨x102_, e102⟩ : ∃ z : Int32, z = x11_6 + Int32.ofInt (1) := ⟨_, rfl⟩
                      refine r_iinc hC (j := 8) (v := x102_) (lv' := [(6, .int x102_), (4, .int x101_), (8, .int x24_), (7, .int x20_), (0, .ref a0), (1, .int x1), (2, .int x2), (3, .int x4_3), (5, .int x9_)]) dX10_runs_193 rfl (by rw [e102]) (by decide) rfl ?_
                      try have t102 : x102_.toInt = x11_6.toInt + (1) := by rw [e102]; exact (ti_add (b := Int32.ofInt (1)) (by show _ ≤ _ + (1 : Int); omega) (by show _ + (1 : Int) ≤ _; omega))
                      refine r_goto hC (tgt := 29) dX10_runs_196 (by decide) ?_
                      refine r_sub [4, 5, 6, 7, 1, 8, 0] rfl ?_
                      exact ih11 ((5 - x102_.toInt).toNat) (by omega) x102_ x101_ I95 hs95 hF95 (by omega) (by omega) rfl
                  · refine r_iload hC dX10_runs_166 0 rfl ?_
                    refine r_goto hC (tgt := 172) dX10_runs_168 (by decide) ?_
                    refine r_iadd hC dX10_runs_172 (fun x103_ e103 => ?_)
                    try have t103 : x103_.toInt = x75_.toInt + x24_.toInt := by rw [e103]; exact ti_add (by omega) (by omega)
                    refine x_iastore hC hk34 hn34 (by decide) rfl rfl dX10_runs_173 (by omega) (by omega) (fun I104 eI104 => ?_)
                    have hs104 := hs33.put0 eI104 hk34 (rng_arr (by decide) _) rfl (xF_arr (by decide) _) (by decide)
                    have hF104 := hF33.put eI104 hk34 (inS_arr rfl _)
                    refine r_iload hC dX10_runs_174 6 rfl ?_
                    refine r_if_ne hC (tgt := 186) dX10_runs_176 (by decide) (fun c105 => ?_) (fun c105 => ?_)
                    · refine r_iconst hC (v := (1)) dX10_runs_186 (by decide) (by decide) (fun x106_ e106 t106 => ?_)
                      refine r_goto hC (tgt := 191) dX10_runs_187 (by decide) ?_
                      refine r_istore hC (lv' := [(4, .int x106_), (8, .int x24_), (7, .int x20_), (0, .ref a0), (1, .int x1), (2, .int x2), (3, .int x4_3), (5, .int x9_), (6, .int x11_6)]) dX10_runs_191 (by decide) rfl ?_
                      obtain ⟨x107_, e107⟩ : ∃ z : Int32, z = x11_6 + Int32.ofInt (1) := ⟨_, rfl⟩
                      refine r_iinc hC (j := 8) (v := x107_) (lv' := [(6, .int x107_), (4, .int x106_), (8, .int x24_), (7, .int x20_), (0, .ref a0), (1, .int x1), (2, .int x2), (3, .int x4_3), (5, .int x9_)]) dX10_runs_193 rfl (by rw [e107]) (by decide) rfl ?_
                      try have t107 : x107_.toInt = x11_6.toInt + (1) := by rw [e107]; exact (ti_add (b := Int32.ofInt (1)) (by show _ ≤ _ + (1 : Int); omega) (by show _ + (1 : Int) ≤ _; omega))
                      refine r_goto hC (tgt := 29) dX10_runs_196 (by decide) ?_
                      refine r_sub [4, 5, 6, 7, 1, 8, 0] rfl ?_
                      exact ih11 ((5 - x107_.toInt).toNat) (by omega) x107_ x106_ I104 hs104 hF104 (by omega) (by omega) rfl
                    · refine r_iload hC dX10_runs_179 0 rfl ?_
                      refine r_bipush hC (v := (100)) dX10_runs_181 (by decide) (by decide) (fun x108_ e108 t108 => ?_)
                      refine r_icmp_lt hC (tgt := 190) dX10_runs_183 (by decide) (fun c109 => ?_) (fun c109 => ?_)
                      rotate_left
                      · exfalso; omega
                      refine r_iconst hC (v := (0)) dX10_runs_190 (by decide) (by decide) (fun x110_ e110 t110 => ?_)
                      refine r_istore hC (lv' := [(4, .int x110_), (8, .int x24_), (7, .int x20_), (0, .ref a0), (1, .int x1), (2, .int x2), (3, .int x4_3), (5, .int x9_), (6, .int x11_6)]) dX10_runs_191 (by decide) rfl ?_
                      obtain ⟨x111_, e111⟩ : ∃ z : Int32, z = x11_6 + Int32.ofInt (1) := ⟨_, rfl⟩
                      refine r_iinc hC (j := 8) (v := x111_) (lv' := [(6, .int x111_), (4, .int x110_), (8, .int x24_), (7, .int x20_), (0, .ref a0), (1, .int x1), (2, .int x2), (3, .int x4_3), (5, .int x9_)]) dX10_runs_193 rfl (by rw [e111]) (by decide) rfl ?_
                      try have t111 : x111_.toInt = x11_6.toInt + (1) := by rw [e111]; exact (ti_add (b := Int32.ofInt (1)) (by show _ ≤ _ + (1 : Int); omega) (by show _ + (1 : Int) ≤ _; omega))
                      refine r_goto hC (tgt := 29) dX10_runs_196 (by decide) ?_
                      refine r_sub [4, 5, 6, 7, 1, 8, 0] rfl ?_
                      exact ih11 ((5 - x111_.toInt).toNat) (by omega) x111_ x110_ I104 hs104 hF104 (by omega) (by omega) rfl
            · refine r_iconst hC (v := (0)) dX10_runs_94 (by decide) (by decide) (fun x112_ e112 t112 => ?_)
              refine r_goto hC (tgt := 107) dX10_runs_95 (by decide) ?_
              refine r_iload hC dX10_runs_107 0 rfl ?_
              refine r_iadd hC dX10_runs_109 (fun x113_ e113 => ?_)
              try have t113 : x113_.toInt = x112_.toInt + x24_.toInt := by rw [e113]; exact ti_add (by omega) (by omega)
              refine x_iastore hC hk27 hn27 (by decide) rfl rfl dX10_runs_110 (by omega) (by omega) (fun I114 eI114 => ?_)
              have hs114 := hs26.put0 eI114 hk27 (rng_arr (by decide) _) rfl (xF_arr (by decide) _) (by decide)
              have hF114 := hF26.put eI114 hk27 (inS_arr rfl _)
              refine r_aload_n hC dX10_runs_111 2 rfl ?_
              obtain ⟨a115_, hb115, hk115, hn115⟩ := hs114.row ka0 18 88 300 (by decide) (by decide)
              refine r_getr hC 18 (ci := 10) rfl u10_in (by decide) mT_5_13 dX10_runs_112 ka0 rfl rfl hb115 ?_
              refine r_iload hC dX10_runs_115 1 rfl ?_
              refine r_iload_n hC dX10_runs_117 5 rfl ?_
              refine r_if_ne hC (tgt := 125) dX10_runs_118 (by decide) (fun c116 => ?_) (fun c116 => ?_)
              · refine r_aload_n hC dX10_runs_125 2 rfl ?_
                refine r_getr hC 18 (ci := 10) rfl u10_in (by decide) mT_5_13 dX10_runs_126 ka0 rfl rfl hb115 ?_
                refine r_iload hC dX10_runs_129 1 rfl ?_
                refine r_iconst hC (v := (1)) dX10_runs_131 (by decide) (by decide) (fun x117_ e117 t117 => ?_)
                refine r_isub hC dX10_runs_132 (fun x118_ e118 => ?_)
                try have t118 : x118_.toInt = x20_.toInt - x117_.toInt := by rw [e118]; exact ti_sub (by omega) (by omega)
                refine x_iaload hC hk115 hn115 (by decide) rfl rfl dX10_runs_133 (by omega) (by omega) (fun x119_ e119 => ?_)
                refine r_aload_n hC dX10_runs_134 2 rfl ?_
                refine r_getr hC 3 (ci := 10) rfl u10_in (by decide) mT_4_238 dX10_runs_135 ka0 rfl rfl hbm ?_
                obtain ⟨kd120, mo120, hb120, hk120, hn120, hB120, hK120, hN120⟩ := hs114.2.2.1 hm khm
                refine r_getrN hC 17 (ci := 9) rfl u9_in (by decide) nF_17 dX10_runs_138 khm rfl rfl hb120 ?_
                refine r_iload_n hC dX10_runs_141 3 rfl ?_
                refine x_iaload hC hk120 hn120 (by omega) (kOb (by omega)) (kAb (by omega)) dX10_runs_142 (by omega) (by omega) (fun x121_ e121 => ?_)
                refine r_iconst hC (v := (3)) dX10_runs_143 (by decide) (by decide) (fun x122_ e122 t122 => ?_)
                refine r_icmp_ne hC (tgt := 171) dX10_runs_144 (by decide) (fun c123 => ?_) (fun c123 => ?_)
                · refine r_iconst hC (v := (0)) dX10_runs_171 (by decide) (by decide) (fun x124_ e124 t124 => ?_)
                  refine r_iadd hC dX10_runs_172 (fun x125_ e125 => ?_)
                  try have t125 : x125_.toInt = x119_.toInt + x124_.toInt := by rw [e125]; exact ti_add (by omega) (by omega)
                  refine x_iastore hC hk115 hn115 (by decide) rfl rfl dX10_runs_173 (by omega) (by omega) (fun I126 eI126 => ?_)
                  have hs126 := hs114.put0 eI126 hk115 (rng_arr (by decide) _) rfl (xF_arr (by decide) _) (by decide)
                  have hF126 := hF114.put eI126 hk115 (inS_arr rfl _)
                  refine r_iload hC dX10_runs_174 6 rfl ?_
                  refine r_if_ne hC (tgt := 186) dX10_runs_176 (by decide) (fun c127 => ?_) (fun c127 => ?_)
                  · refine r_iconst hC (v := (1)) dX10_runs_186 (by decide) (by decide) (fun x128_ e128 t128 => ?_)
                    refine r_goto hC (tgt := 191) dX10_runs_187 (by decide) ?_
                    refine r_istore hC (lv' := [(4, .int x128_), (8, .int x24_), (7, .int x20_), (0, .ref a0), (1, .int x1), (2, .int x2), (3, .int x4_3), (5, .int x9_), (6, .int x11_6)]) dX10_runs_191 (by decide) rfl ?_
                    obtain ⟨x129_, e129⟩ : ∃ z : Int32, z = x11_6 + Int32.ofInt (1) := ⟨_, rfl⟩
                    refine r_iinc hC (j := 8) (v := x129_) (lv' := [(6, .int x129_), (4, .int x128_), (8, .int x24_), (7, .int x20_), (0, .ref a0), (1, .int x1), (2, .int x2), (3, .int x4_3), (5, .int x9_)]) dX10_runs_193 rfl (by rw [e129]) (by decide) rfl ?_
                    try have t129 : x129_.toInt = x11_6.toInt + (1) := by rw [e129]; exact (ti_add (b := Int32.ofInt (1)) (by show _ ≤ _ + (1 : Int); omega) (by show _ + (1 : Int) ≤ _; omega))
                    refine r_goto hC (tgt := 29) dX10_runs_196 (by decide) ?_
                    refine r_sub [4, 5, 6, 7, 1, 8, 0] rfl ?_
                    exact ih11 ((5 - x129_.toInt).toNat) (by omega) x129_ x128_ I126 hs126 hF126 (by omega) (by omega) rfl
                  · refine r_iload hC dX10_runs_179 0 rfl ?_
                    refine r_bipush hC (v := (100)) dX10_runs_181 (by decide) (by decide) (fun x130_ e130 t130 => ?_)
                    refine r_icmp_lt hC (tgt := 190) dX10_runs_183 (by decide) (fun c131 => ?_) (fun c131 => ?_)
                    rotate_left
                    · exfalso; omega
                    refine r_iconst hC (v := (0)) dX10_runs_190 (by decide) (by decide) (fun x132_ e132 t132 => ?_)
                    refine r_istore hC (lv' := [(4, .int x132_), (8, .int x24_), (7, .int x20_), (0, .ref a0), (1, .int x1), (2, .int x2), (3, .int x4_3), (5, .int x9_), (6, .int x11_6)]) dX10_runs_191 (by decide) rfl ?_
                    obtain ⟨x133_, e133⟩ : ∃ z : Int32, z = x11_6 + Int32.ofInt (1) := ⟨_, rfl⟩
                    refine r_iinc hC (j := 8) (v := x133_) (lv' := [(6, .int x133_), (4, .int x132_), (8, .int x24_), (7, .int x20_), (0, .ref a0), (1, .int x1), (2, .int x2), (3, .int x4_3), (5, .int x9_)]) dX10_runs_193 rfl (by rw [e133]) (by decide) rfl ?_
                    try have t133 : x133_.toInt = x11_6.toInt + (1) := by rw [e133]; exact (ti_add (b := Int32.ofInt (1)) (by show _ ≤ _ + (1 : Int); omega) (by show _ + (1 : Int) ≤ _; omega))
                    refine r_goto hC (tgt := 29) dX10_runs_196 (by decide) ?_
                    refine r_sub [4, 5, 6, 7, 1, 8, 0] rfl ?_
                    exact ih11 ((5 - x133_.toInt).toNat) (by omega) x133_ x132_ I126 hs126 hF126 (by omega) (by omega) rfl
                · refine r_aload_n hC dX10_runs_147 2 rfl ?_
                  refine r_getr hC 17 (ci := 10) rfl u10_in (by decide) mT_5_12 dX10_runs_148 ka0 rfl rfl hb27 ?_
                  refine r_iload hC dX10_runs_151 1 rfl ?_
                  refine x_iaload hC hk27 hn27 (by decide) rfl rfl dX10_runs_153 (by omega) (by omega) (fun x134_ e134 => ?_)
                  refine r_aload_n hC dX10_runs_154 2 rfl ?_
                  refine r_getr hC 3 (ci := 10) rfl u10_in (by decide) mT_4_238 dX10_runs_155 ka0 rfl rfl hbm ?_
                  refine r_getrN hC 19 (ci := 9) rfl u9_in (by decide) nF_19 dX10_runs_158 khm rfl rfl hB120 ?_
                  refine r_iload_n hC dX10_runs_161 3 rfl ?_
                  refine x_iaload hC hK120 hN120 (by omega) (kOb (by omega)) (kAb (by omega)) dX10_runs_162 (by omega) (by omega) (fun x135_ e135 => ?_)
                  refine r_icmp_lt hC (tgt := 171) dX10_runs_163 (by decide) (fun c136 => ?_) (fun c136 => ?_)
                  · refine r_iconst hC (v := (0)) dX10_runs_171 (by decide) (by decide) (fun x137_ e137 t137 => ?_)
                    refine r_iadd hC dX10_runs_172 (fun x138_ e138 => ?_)
                    try have t138 : x138_.toInt = x119_.toInt + x137_.toInt := by rw [e138]; exact ti_add (by omega) (by omega)
                    refine x_iastore hC hk115 hn115 (by decide) rfl rfl dX10_runs_173 (by omega) (by omega) (fun I139 eI139 => ?_)
                    have hs139 := hs114.put0 eI139 hk115 (rng_arr (by decide) _) rfl (xF_arr (by decide) _) (by decide)
                    have hF139 := hF114.put eI139 hk115 (inS_arr rfl _)
                    refine r_iload hC dX10_runs_174 6 rfl ?_
                    refine r_if_ne hC (tgt := 186) dX10_runs_176 (by decide) (fun c140 => ?_) (fun c140 => ?_)
                    · refine r_iconst hC (v := (1)) dX10_runs_186 (by decide) (by decide) (fun x141_ e141 t141 => ?_)
                      refine r_goto hC (tgt := 191) dX10_runs_187 (by decide) ?_
                      refine r_istore hC (lv' := [(4, .int x141_), (8, .int x24_), (7, .int x20_), (0, .ref a0), (1, .int x1), (2, .int x2), (3, .int x4_3), (5, .int x9_), (6, .int x11_6)]) dX10_runs_191 (by decide) rfl ?_
                      obtain ⟨x142_, e142⟩ : ∃ z : Int32, z = x11_6 + Int32.ofInt (1) := ⟨_, rfl⟩
                      refine r_iinc hC (j := 8) (v := x142_) (lv' := [(6, .int x142_), (4, .int x141_), (8, .int x24_), (7, .int x20_), (0, .ref a0), (1, .int x1), (2, .int x2), (3, .int x4_3), (5, .int x9_)]) dX10_runs_193 rfl (by rw [e142]) (by decide) rfl ?_
                      try have t142 : x142_.toInt = x11_6.toInt + (1) := by rw [e142]; exact (ti_add (b := Int32.ofInt (1)) (by show _ ≤ _ + (1 : Int); omega) (by show _ + (1 : Int) ≤ _; omega))
                      refine r_goto hC (tgt := 29) dX10_runs_196 (by decide) ?_
                      refine r_sub [4, 5, 6, 7, 1, 8, 0] rfl ?_
                      exact ih11 ((5 - x142_.toInt).toNat) (by omega) x142_ x141_ I139 hs139 hF139 (by omega) (by omega) rfl
                    · refine r_iload hC dX10_runs_179 0 rfl ?_
                      refine r_bipush hC (v := (100)) dX10_runs_181 (by decide) (by decide) (fun x143_ e143 t143 => ?_)
                      refine r_icmp_lt hC (tgt := 190) dX10_runs_183 (by decide) (fun c144 => ?_) (fun c144 => ?_)
                      rotate_left
                      · exfalso; omega
                      refine r_iconst hC (v := (0)) dX10_runs_190 (by decide) (by decide) (fun x145_ e145 t145 => ?_)
                      refine r_istore hC (lv' := [(4, .int x145_), (8, .int x24_), (7, .int x20_), (0, .ref a0), (1, .int x1), (2, .int x2), (3, .int x4_3), (5, .int x9_), (6, .int x11_6)]) dX10_runs_191 (by decide) rfl ?_
                      obtain ⟨x146_, e146⟩ : ∃ z : Int32, z = x11_6 + Int32.ofInt (1) := ⟨_, rfl⟩
                      refine r_iinc hC (j := 8) (v := x146_) (lv' := [(6, .int x146_), (4, .int x145_), (8, .int x24_), (7, .int x20_), (0, .ref a0), (1, .int x1), (2, .int x2), (3, .int x4_3), (5, .int x9_)]) dX10_runs_193 rfl (by rw [e146]) (by decide) rfl ?_
                      try have t146 : x146_.toInt = x11_6.toInt + (1) := by rw [e146]; exact (ti_add (b := Int32.ofInt (1)) (by show _ ≤ _ + (1 : Int); omega) (by show _ + (1 : Int) ≤ _; omega))
                      refine r_goto hC (tgt := 29) dX10_runs_196 (by decide) ?_
                      refine r_sub [4, 5, 6, 7, 1, 8, 0] rfl ?_
                      exact ih11 ((5 - x146_.toInt).toNat) (by omega) x146_ x145_ I139 hs139 hF139 (by omega) (by omega) rfl
                  · refine r_iload hC dX10_runs_166 0 rfl ?_
                    refine r_goto hC (tgt := 172) dX10_runs_168 (by decide) ?_
                    refine r_iadd hC dX10_runs_172 (fun x147_ e147 => ?_)
                    try have t147 : x147_.toInt = x119_.toInt + x24_.toInt := by rw [e147]; exact ti_add (by omega) (by omega)
                    refine x_iastore hC hk115 hn115 (by decide) rfl rfl dX10_runs_173 (by omega) (by omega) (fun I148 eI148 => ?_)
                    have hs148 := hs114.put0 eI148 hk115 (rng_arr (by decide) _) rfl (xF_arr (by decide) _) (by decide)
                    have hF148 := hF114.put eI148 hk115 (inS_arr rfl _)
                    refine r_iload hC dX10_runs_174 6 rfl ?_
                    refine r_if_ne hC (tgt := 186) dX10_runs_176 (by decide) (fun c149 => ?_) (fun c149 => ?_)
                    · refine r_iconst hC (v := (1)) dX10_runs_186 (by decide) (by decide) (fun x150_ e150 t150 => ?_)
                      refine r_goto hC (tgt := 191) dX10_runs_187 (by decide) ?_
                      refine r_istore hC (lv' := [(4, .int x150_), (8, .int x24_), (7, .int x20_), (0, .ref a0), (1, .int x1), (2, .int x2), (3, .int x4_3), (5, .int x9_), (6, .int x11_6)]) dX10_runs_191 (by decide) rfl ?_
                      obtain ⟨x151_, e151⟩ : ∃ z : Int32, z = x11_6 + Int32.ofInt (1) := ⟨_, rfl⟩
                      refine r_iinc hC (j := 8) (v := x151_) (lv' := [(6, .int x151_), (4, .int x150_), (8, .int x24_), (7, .int x20_), (0, .ref a0), (1, .int x1), (2, .int x2), (3, .int x4_3), (5, .int x9_)]) dX10_runs_193 rfl (by rw [e151]) (by decide) rfl ?_
                      try have t151 : x151_.toInt = x11_6.toInt + (1) := by rw [e151]; exact (ti_add (b := Int32.ofInt (1)) (by show _ ≤ _ + (1 : Int); omega) (by show _ + (1 : Int) ≤ _; omega))
                      refine r_goto hC (tgt := 29) dX10_runs_196 (by decide) ?_
                      refine r_sub [4, 5, 6, 7, 1, 8, 0] rfl ?_
                      exact ih11 ((5 - x151_.toInt).toNat) (by omega) x151_ x150_ I148 hs148 hF148 (by omega) (by omega) rfl
                    · refine r_iload hC dX10_runs_179 0 rfl ?_
                      refine r_bipush hC (v := (100)) dX10_runs_181 (by decide) (by decide) (fun x152_ e152 t152 => ?_)
                      refine r_icmp_lt hC (tgt := 190) dX10_runs_183 (by decide) (fun c153 => ?_) (fun c153 => ?_)
                      rotate_left
                      · exfalso; omega
                      refine r_iconst hC (v := (0)) dX10_runs_190 (by decide) (by decide) (fun x154_ e154 t154 => ?_)
                      refine r_istore hC (lv' := [(4, .int x154_), (8, .int x24_), (7, .int x20_), (0, .ref a0), (1, .int x1), (2, .int x2), (3, .int x4_3), (5, .int x9_), (6, .int x11_6)]) dX10_runs_191 (by decide) rfl ?_
                      obtain ⟨x155_, e155⟩ : ∃ z : Int32, z = x11_6 + Int32.ofInt (1) := ⟨_, rfl⟩
                      refine r_iinc hC (j := 8) (v := x155_) (lv' := [(6, .int x155_), (4, .int x154_), (8, .int x24_), (7, .int x20_), (0, .ref a0), (1, .int x1), (2, .int x2), (3, .int x4_3), (5, .int x9_)]) dX10_runs_193 rfl (by rw [e155]) (by decide) rfl ?_
                      try have t155 : x155_.toInt = x11_6.toInt + (1) := by rw [e155]; exact (ti_add (b := Int32.ofInt (1)) (by show _ ≤ _ + (1 : Int); omega) (by show _ + (1 : Int) ≤ _; omega))
                      refine r_goto hC (tgt := 29) dX10_runs_196 (by decide) ?_
                      refine r_sub [4, 5, 6, 7, 1, 8, 0] rfl ?_
                      exact ih11 ((5 - x155_.toInt).toNat) (by omega) x155_ x154_ I148 hs148 hF148 (by omega) (by omega) rfl
              · refine r_iconst hC (v := (0)) dX10_runs_121 (by decide) (by decide) (fun x156_ e156 t156 => ?_)
                refine r_goto hC (tgt := 134) dX10_runs_122 (by decide) ?_
                refine r_aload_n hC dX10_runs_134 2 rfl ?_
                refine r_getr hC 3 (ci := 10) rfl u10_in (by decide) mT_4_238 dX10_runs_135 ka0 rfl rfl hbm ?_
                obtain ⟨kd157, mo157, hb157, hk157, hn157, hB157, hK157, hN157⟩ := hs114.2.2.1 hm khm
                refine r_getrN hC 17 (ci := 9) rfl u9_in (by decide) nF_17 dX10_runs_138 khm rfl rfl hb157 ?_
                refine r_iload_n hC dX10_runs_141 3 rfl ?_
                refine x_iaload hC hk157 hn157 (by omega) (kOb (by omega)) (kAb (by omega)) dX10_runs_142 (by omega) (by omega) (fun x158_ e158 => ?_)
                refine r_iconst hC (v := (3)) dX10_runs_143 (by decide) (by decide) (fun x159_ e159 t159 => ?_)
                refine r_icmp_ne hC (tgt := 171) dX10_runs_144 (by decide) (fun c160 => ?_) (fun c160 => ?_)
                · refine r_iconst hC (v := (0)) dX10_runs_171 (by decide) (by decide) (fun x161_ e161 t161 => ?_)
                  refine r_iadd hC dX10_runs_172 (fun x162_ e162 => ?_)
                  try have t162 : x162_.toInt = x156_.toInt + x161_.toInt := by rw [e162]; exact ti_add (by omega) (by omega)
                  refine x_iastore hC hk115 hn115 (by decide) rfl rfl dX10_runs_173 (by omega) (by omega) (fun I163 eI163 => ?_)
                  have hs163 := hs114.put0 eI163 hk115 (rng_arr (by decide) _) rfl (xF_arr (by decide) _) (by decide)
                  have hF163 := hF114.put eI163 hk115 (inS_arr rfl _)
                  refine r_iload hC dX10_runs_174 6 rfl ?_
                  refine r_if_ne hC (tgt := 186) dX10_runs_176 (by decide) (fun c164 => ?_) (fun c164 => ?_)
                  · refine r_iconst hC (v := (1)) dX10_runs_186 (by decide) (by decide) (fun x165_ e165 t165 => ?_)
                    refine r_goto hC (tgt := 191) dX10_runs_187 (by decide) ?_
                    refine r_istore hC (lv' := [(4, .int x165_), (8, .int x24_), (7, .int x20_), (0, .ref a0), (1, .int x1), (2, .int x2), (3, .int x4_3), (5, .int x9_), (6, .int x11_6)]) dX10_runs_191 (by decide) rfl ?_
                    obtain ⟨x166_, e166⟩ : ∃ z : Int32, z = x11_6 + Int32.ofInt (1) := ⟨_, rfl⟩
                    refine r_iinc hC (j := 8) (v := x166_) (lv' := [(6, .int x166_), (4, .int x165_), (8, .int x24_), (7, .int x20_), (0, .ref a0), (1, .int x1), (2, .int x2), (3, .int x4_3), (5, .int x9_)]) dX10_runs_193 rfl (by rw [e166]) (by decide) rfl ?_
                    try have t166 : x166_.toInt = x11_6.toInt + (1) := by rw [e166]; exact (ti_add (b := Int32.ofInt (1)) (by show _ ≤ _ + (1 : Int); omega) (by show _ + (1 : Int) ≤ _; omega))
                    refine r_goto hC (tgt := 29) dX10_runs_196 (by decide) ?_
                    refine r_sub [4, 5, 6, 7, 1, 8, 0] rfl ?_
                    exact ih11 ((5 - x166_.toInt).toNat) (by omega) x166_ x165_ I163 hs163 hF163 (by omega) (by omega) rfl
                  · refine r_iload hC dX10_runs_179 0 rfl ?_
                    refine r_bipush hC (v := (100)) dX10_runs_181 (by decide) (by decide) (fun x167_ e167 t167 => ?_)
                    refine r_icmp_lt hC (tgt := 190) dX10_runs_183 (by decide) (fun c168 => ?_) (fun c168 => ?_)
                    rotate_left
                    · exfalso; omega
                    refine r_iconst hC (v := (0)) dX10_runs_190 (by decide) (by decide) (fun x169_ e169 t169 => ?_)
                    refine r_istore hC (lv' := [(4, .int x169_), (8, .int x24_), (7, .int x20_), (0, .ref a0), (1, .int x1), (2, .int x2), (3, .int x4_3), (5, .int x9_), (6, .int x11_6)]) dX10_runs_191 (by decide) rfl ?_
                    obtain ⟨x170_, e170⟩ : ∃ z : Int32, z = x11_6 + Int32.ofInt (1) := ⟨_, rfl⟩
                    refine r_iinc hC (j := 8) (v := x170_) (lv' := [(6, .int x170_), (4, .int x169_), (8, .int x24_), (7, .int x20_), (0, .ref a0), (1, .int x1), (2, .int x2), (3, .int x4_3), (5, .int x9_)]) dX10_runs_193 rfl (by rw [e170]) (by decide) rfl ?_
                    try have t170 : x170_.toInt = x11_6.toInt + (1) := by rw [e170]; exact (ti_add (b := Int32.ofInt (1)) (by show _ ≤ _ + (1 : Int); omega) (by show _ + (1 : Int) ≤ _; omega))
                    refine r_goto hC (tgt := 29) dX10_runs_196 (by decide) ?_
                    refine r_sub [4, 5, 6, 7, 1, 8, 0] rfl ?_
                    exact ih11 ((5 - x170_.toInt).toNat) (by omega) x170_ x169_ I163 hs163 hF163 (by omega) (by omega) rfl
                · refine r_aload_n hC dX10_runs_147 2 rfl ?_
                  refine r_getr hC 17 (ci := 10) rfl u10_in (by decide) mT_5_12 dX10_runs_148 ka0 rfl rfl hb27 ?_
                  refine r_iload hC dX10_runs_151 1 rfl ?_
                  refine x_iaload hC hk27 hn27 (by decide) rfl rfl dX10_runs_153 (by omega) (by omega) (fun x171_ e171 => ?_)
                  refine r_aload_n hC dX10_runs_154 2 rfl ?_
                  refine r_getr hC 3 (ci := 10) rfl u10_in (by decide) mT_4_238 dX10_runs_155 ka0 rfl rfl hbm ?_
                  refine r_getrN hC 19 (ci := 9) rfl u9_in (by decide) nF_19 dX10_runs_158 khm rfl rfl hB157 ?_
                  refine r_iload_n hC dX10_runs_161 3 rfl ?_
                  refine x_iaload hC hK157 hN157 (by omega) (kOb (by omega)) (kAb (by omega)) dX10_runs_162 (by omega) (by omega) (fun x172_ e172 => ?_)
                  refine r_icmp_lt hC (tgt := 171) dX10_runs_163 (by decide) (fun c173 => ?_) (fun c173 => ?_)
                  · refine r_iconst hC (v := (0)) dX10_runs_171 (by decide) (by decide) (fun x174_ e174 t174 => ?_)
                    refine r_iadd hC dX10_runs_172 (fun x175_ e175 => ?_)
                    try have t175 : x175_.toInt = x156_.toInt + x174_.toInt := by rw [e175]; exact ti_add (by omega) (by omega)
                    refine x_iastore hC hk115 hn115 (by decide) rfl rfl dX10_runs_173 (by omega) (by omega) (fun I176 eI176 => ?_)
                    have hs176 := hs114.put0 eI176 hk115 (rng_arr (by decide) _) rfl (xF_arr (by decide) _) (by decide)
                    have hF176 := hF114.put eI176 hk115 (inS_arr rfl _)
                    refine r_iload hC dX10_runs_174 6 rfl ?_
                    refine r_if_ne hC (tgt := 186) dX10_runs_176 (by decide) (fun c177 => ?_) (fun c177 => ?_)
                    · refine r_iconst hC (v := (1)) dX10_runs_186 (by decide) (by decide) (fun x178_ e178 t178 => ?_)
                      refine r_goto hC (tgt := 191) dX10_runs_187 (by decide) ?_
                      refine r_istore hC (lv' := [(4, .int x178_), (8, .int x24_), (7, .int x20_), (0, .ref a0), (1, .int x1), (2, .int x2), (3, .int x4_3), (5, .int x9_), (6, .int x11_6)]) dX10_runs_191 (by decide) rfl ?_
                      obtain ⟨x179_, e179⟩ : ∃ z : Int32, z = x11_6 + Int32.ofInt (1) := ⟨_, rfl⟩
                      refine r_iinc hC (j := 8) (v := x179_) (lv' := [(6, .int x179_), (4, .int x178_), (8, .int x24_), (7, .int x20_), (0, .ref a0), (1, .int x1), (2, .int x2), (3, .int x4_3), (5, .int x9_)]) dX10_runs_193 rfl (by rw [e179]) (by decide) rfl ?_
                      try have t179 : x179_.toInt = x11_6.toInt + (1) := by rw [e179]; exact (ti_add (b := Int32.ofInt (1)) (by show _ ≤ _ + (1 : Int); omega) (by show _ + (1 : Int) ≤ _; omega))
                      refine r_goto hC (tgt := 29) dX10_runs_196 (by decide) ?_
                      refine r_sub [4, 5, 6, 7, 1, 8, 0] rfl ?_
                      exact ih11 ((5 - x179_.toInt).toNat) (by omega) x179_ x178_ I176 hs176 hF176 (by omega) (by omega) rfl
                    · refine r_iload hC dX10_runs_179 0 rfl ?_
                      refine r_bipush hC (v := (100)) dX10_runs_181 (by decide) (by decide) (fun x180_ e180 t180 => ?_)
                      refine r_icmp_lt hC (tgt := 190) dX10_runs_183 (by decide) (fun c181 => ?_) (fun c181 => ?_)
                      rotate_left
                      · exfalso; omega
                      refine r_iconst hC (v := (0)) dX10_runs_190 (by decide) (by decide) (fun x182_ e182 t182 => ?_)
                      refine r_istore hC (lv' := [(4, .int x182_), (8, .int x24_), (7, .int x20_), (0, .ref a0), (1, .int x1), (2, .int x2), (3, .int x4_3), (5, .int x9_), (6, .int x11_6)]) dX10_runs_191 (by decide) rfl ?_
                      obtain ⟨x183_, e183⟩ : ∃ z : Int32, z = x11_6 + Int32.ofInt (1) := ⟨_, rfl⟩
                      refine r_iinc hC (j := 8) (v := x183_) (lv' := [(6, .int x183_), (4, .int x182_), (8, .int x24_), (7, .int x20_), (0, .ref a0), (1, .int x1), (2, .int x2), (3, .int x4_3), (5, .int x9_)]) dX10_runs_193 rfl (by rw [e183]) (by decide) rfl ?_
                      try have t183 : x183_.toInt = x11_6.toInt + (1) := by rw [e183]; exact (ti_add (b := Int32.ofInt (1)) (by show _ ≤ _ + (1 : Int); omega) (by show _ + (1 : Int) ≤ _; omega))
                      refine r_goto hC (tgt := 29) dX10_runs_196 (by decide) ?_
                      refine r_sub [4, 5, 6, 7, 1, 8, 0] rfl ?_
                      exact ih11 ((5 - x183_.toInt).toNat) (by omega) x183_ x182_ I176 hs176 hF176 (by omega) (by omega) rfl
                  · refine r_iload hC dX10_runs_166 0 rfl ?_
                    refine r_goto hC (tgt := 172) dX10_runs_168 (by decide) ?_
                    refine r_iadd hC dX10_runs_172 (fun x184_ e184 => ?_)
                    try have t184 : x184_.toInt = x156_.toInt + x24_.toInt := by rw [e184]; exact ti_add (by omega) (by omega)
                    refine x_iastore hC hk115 hn115 (by decide) rfl rfl dX10_runs_173 (by omega) (by omega) (fun I185 eI185 => ?_)
                    have hs185 := hs114.put0 eI185 hk115 (rng_arr (by decide) _) rfl (xF_arr (by decide) _) (by decide)
                    have hF185 := hF114.put eI185 hk115 (inS_arr rfl _)
                    refine r_iload hC dX10_runs_174 6 rfl ?_
                    refine r_if_ne hC (tgt := 186) dX10_runs_176 (by decide) (fun c186 => ?_) (fun c186 => ?_)
                    · refine r_iconst hC (v := (1)) dX10_runs_186 (by decide) (by decide) (fun x187_ e187 t187 => ?_)
                      refine r_goto hC (tgt := 191) dX10_runs_187 (by decide) ?_
                      refine r_istore hC (lv' := [(4, .int x187_), (8, .int x24_), (7, .int x20_), (0, .ref a0), (1, .int x1), (2, .int x2), (3, .int x4_3), (5, .int x9_), (6, .int x11_6)]) dX10_runs_191 (by decide) rfl ?_
                      obtain ⟨x188_, e188⟩ : ∃ z : Int32, z = x11_6 + Int32.ofInt (1) := ⟨_, rfl⟩
                      refine r_iinc hC (j := 8) (v := x188_) (lv' := [(6, .int x188_), (4, .int x187_), (8, .int x24_), (7, .int x20_), (0, .ref a0), (1, .int x1), (2, .int x2), (3, .int x4_3), (5, .int x9_)]) dX10_runs_193 rfl (by rw [e188]) (by decide) rfl ?_
                      try have t188 : x188_.toInt = x11_6.toInt + (1) := by rw [e188]; exact (ti_add (b := Int32.ofInt (1)) (by show _ ≤ _ + (1 : Int); omega) (by show _ + (1 : Int) ≤ _; omega))
                      refine r_goto hC (tgt := 29) dX10_runs_196 (by decide) ?_
                      refine r_sub [4, 5, 6, 7, 1, 8, 0] rfl ?_
                      exact ih11 ((5 - x188_.toInt).toNat) (by omega) x188_ x187_ I185 hs185 hF185 (by omega) (by omega) rfl
                    · refine r_iload hC dX10_runs_179 0 rfl ?_
                      refine r_bipush hC (v := (100)) dX10_runs_181 (by decide) (by decide) (fun x189_ e189 t189 => ?_)
                      refine r_icmp_lt hC (tgt := 190) dX10_runs_183 (by decide) (fun c190 => ?_) (fun c190 => ?_)
                      rotate_left
                      · exfalso; omega
                      refine r_iconst hC (v := (0)) dX10_runs_190 (by decide) (by decide) (fun x191_ e191 t191 => ?_)
                      refine r_istore hC (lv' := [(4, .int x191_), (8, .int x24_), (7, .int x20_), (0, .ref a0), (1, .int x1), (2, .int x2), (3, .int x4_3), (5, .int x9_), (6, .int x11_6)]) dX10_runs_191 (by decide) rfl ?_
                      obtain ⟨x192_, e192⟩ : ∃ z : Int32, z = x11_6 + Int32.ofInt (1) := ⟨_, rfl⟩
                      refine r_iinc hC (j := 8) (v := x192_) (lv' := [(6, .int x192_), (4, .int x191_), (8, .int x24_), (7, .int x20_), (0, .ref a0), (1, .int x1), (2, .int x2), (3, .int x4_3), (5, .int x9_)]) dX10_runs_193 rfl (by rw [e192]) (by decide) rfl ?_
                      try have t192 : x192_.toInt = x11_6.toInt + (1) := by rw [e192]; exact (ti_add (b := Int32.ofInt (1)) (by show _ ≤ _ + (1 : Int); omega) (by show _ + (1 : Int) ≤ _; omega))
                      refine r_goto hC (tgt := 29) dX10_runs_196 (by decide) ?_
                      refine r_sub [4, 5, 6, 7, 1, 8, 0] rfl ?_
                      exact ih11 ((5 - x192_.toInt).toNat) (by omega) x192_ x191_ I185 hs185 hF185 (by omega) (by omega) rfl
          · refine r_aload_n hC dX10_runs_59 1 rfl ?_
            refine r_iload_n hC dX10_runs_60 2 rfl ?_
            refine r_iload hC dX10_runs_61 7 rfl ?_
            refine r_iload_n hC dX10_runs_63 4 rfl ?_
            refine r_iload hC dX10_runs_64 6 rfl ?_
            refine r_callV hC (As := [.int x1, .int x11_6, .int x4_3, .int x9_]) (rest := []) (ci := 10) (c_X10_speedOf g (xL X) K len I11 J R hs11 a0 ka0 x1 x11_6 x4_3 x9_ hm hbm khm (by omega) (by omega) (by omega) (by omega) (by omega) (by omega)) mT_6_151 mT_1_10 mT_6_148 mT_6_150 mP_79 okX10_speedOf ⟨by decide, by decide⟩ rfl (by show kO (K a0) = _; rw [ka0]; rfl) rfl rfl (Nat.le_of_ble_eq_true rfl) ⟨by decide, by decide⟩ dX10_runs_66 (aI0 (F := fun st M => P g X 9 69 [(7, .int x20_), (0, .ref a0), (1, .int x1), (2, .int x2), (3, .int x4_3), (4, .int x11_4), (5, .int x9_), (6, .int x11_6)] st _ _ M) (M := (K, len, I11, J, R)) fun x193_ h193 => ?_)
            skip
            show P g X 9 69 [(7, .int x20_), (0, .ref a0), (1, .int x1), (2, .int x2), (3, .int x4_3), (4, .int x11_4), (5, .int x9_), (6, .int x11_6)] [.int x193_] _ _ (K, len, I11, J, R)
            refine r_goto hC (tgt := 73) dX10_runs_69 (by decide) ?_
            refine r_istore hC (lv' := [(8, .int x193_), (7, .int x20_), (0, .ref a0), (1, .int x1), (2, .int x2), (3, .int x4_3), (4, .int x11_4), (5, .int x9_), (6, .int x11_6)]) dX10_runs_73 (by decide) rfl ?_
            refine r_aload_n hC dX10_runs_75 2 rfl ?_
            obtain ⟨a194_, hb194, hk194, hn194⟩ := hs11.row ka0 16 86 300 (by decide) (by decide)
            refine r_getr hC 16 (ci := 10) rfl u10_in (by decide) mT_5_11 dX10_runs_76 ka0 rfl rfl hb194 ?_
            refine r_iload hC dX10_runs_79 1 rfl ?_
            refine r_iload hC dX10_runs_81 0 rfl ?_
            refine x_iastore hC hk194 hn194 (by decide) rfl rfl dX10_runs_83 (by omega) (by omega) (fun I195 eI195 => ?_)
            have hs195 := hs11.put0 eI195 hk194 (rng_arr (by decide) _) rfl (xF_arr (by decide) _) (by decide)
            have hF195 := hF11.put eI195 hk194 (inS_arr rfl _)
            refine r_aload_n hC dX10_runs_84 2 rfl ?_
            obtain ⟨a196_, hb196, hk196, hn196⟩ := hs195.row ka0 17 87 300 (by decide) (by decide)
            refine r_getr hC 17 (ci := 10) rfl u10_in (by decide) mT_5_12 dX10_runs_85 ka0 rfl rfl hb196 ?_
            refine r_iload hC dX10_runs_88 1 rfl ?_
            refine r_iload_n hC dX10_runs_90 5 rfl ?_
            refine r_if_ne hC (tgt := 98) dX10_runs_91 (by decide) (fun c197 => ?_) (fun c197 => ?_)
            · refine r_aload_n hC dX10_runs_98 2 rfl ?_
              refine r_getr hC 17 (ci := 10) rfl u10_in (by decide) mT_5_12 dX10_runs_99 ka0 rfl rfl hb196 ?_
              refine r_iload hC dX10_runs_102 1 rfl ?_
              refine r_iconst hC (v := (1)) dX10_runs_104 (by decide) (by decide) (fun x198_ e198 t198 => ?_)
              refine r_isub hC dX10_runs_105 (fun x199_ e199 => ?_)
              try have t199 : x199_.toInt = x20_.toInt - x198_.toInt := by rw [e199]; exact ti_sub (by omega) (by omega)
              refine x_iaload hC hk196 hn196 (by decide) rfl rfl dX10_runs_106 (by omega) (by omega) (fun x200_ e200 => ?_)
              refine r_iload hC dX10_runs_107 0 rfl ?_
              refine r_iadd hC dX10_runs_109 (fun x201_ e201 => ?_)
              try have t201 : x201_.toInt = x200_.toInt + x193_.toInt := by rw [e201]; exact ti_add (by omega) (by omega)
              refine x_iastore hC hk196 hn196 (by decide) rfl rfl dX10_runs_110 (by omega) (by omega) (fun I202 eI202 => ?_)
              have hs202 := hs195.put0 eI202 hk196 (rng_arr (by decide) _) rfl (xF_arr (by decide) _) (by decide)
              have hF202 := hF195.put eI202 hk196 (inS_arr rfl _)
              refine r_aload_n hC dX10_runs_111 2 rfl ?_
              obtain ⟨a203_, hb203, hk203, hn203⟩ := hs202.row ka0 18 88 300 (by decide) (by decide)
              refine r_getr hC 18 (ci := 10) rfl u10_in (by decide) mT_5_13 dX10_runs_112 ka0 rfl rfl hb203 ?_
              refine r_iload hC dX10_runs_115 1 rfl ?_
              refine r_iload_n hC dX10_runs_117 5 rfl ?_
              refine r_if_ne hC (tgt := 125) dX10_runs_118 (by decide) (fun c204 => ?_) (fun c204 => ?_)
              · refine r_aload_n hC dX10_runs_125 2 rfl ?_
                refine r_getr hC 18 (ci := 10) rfl u10_in (by decide) mT_5_13 dX10_runs_126 ka0 rfl rfl hb203 ?_
                refine r_iload hC dX10_runs_129 1 rfl ?_
                refine r_iconst hC (v := (1)) dX10_runs_131 (by decide) (by decide) (fun x205_ e205 t205 => ?_)
                refine r_isub hC dX10_runs_132 (fun x206_ e206 => ?_)
                try have t206 : x206_.toInt = x20_.toInt - x205_.toInt := by rw [e206]; exact ti_sub (by omega) (by omega)
                refine x_iaload hC hk203 hn203 (by decide) rfl rfl dX10_runs_133 (by omega) (by omega) (fun x207_ e207 => ?_)
                refine r_aload_n hC dX10_runs_134 2 rfl ?_
                refine r_getr hC 3 (ci := 10) rfl u10_in (by decide) mT_4_238 dX10_runs_135 ka0 rfl rfl hbm ?_
                obtain ⟨kd208, mo208, hb208, hk208, hn208, hB208, hK208, hN208⟩ := hs202.2.2.1 hm khm
                refine r_getrN hC 17 (ci := 9) rfl u9_in (by decide) nF_17 dX10_runs_138 khm rfl rfl hb208 ?_
                refine r_iload_n hC dX10_runs_141 3 rfl ?_
                refine x_iaload hC hk208 hn208 (by omega) (kOb (by omega)) (kAb (by omega)) dX10_runs_142 (by omega) (by omega) (fun x209_ e209 => ?_)
                refine r_iconst hC (v := (3)) dX10_runs_143 (by decide) (by decide) (fun x210_ e210 t210 => ?_)
                refine r_icmp_ne hC (tgt := 171) dX10_runs_144 (by decide) (fun c211 => ?_) (fun c211 => ?_)
                · refine r_iconst hC (v := (0)) dX10_runs_171 (by decide) (by decide) (fun x212_ e212 t212 => ?_)
                  refine r_iadd hC dX10_runs_172 (fun x213_ e213 => ?_)
                  try have t213 : x213_.toInt = x207_.toInt + x212_.toInt := by rw [e213]; exact ti_add (by omega) (by omega)
                  refine x_iastore hC hk203 hn203 (by decide) rfl rfl dX10_runs_173 (by omega) (by omega) (fun I214 eI214 => ?_)
                  have hs214 := hs202.put0 eI214 hk203 (rng_arr (by decide) _) rfl (xF_arr (by decide) _) (by decide)
                  have hF214 := hF202.put eI214 hk203 (inS_arr rfl _)
                  refine r_iload hC dX10_runs_174 6 rfl ?_
                  refine r_if_ne hC (tgt := 186) dX10_runs_176 (by decide) (fun c215 => ?_) (fun c215 => ?_)
                  · refine r_iconst hC (v := (1)) dX10_runs_186 (by decide) (by decide) (fun x216_ e216 t216 => ?_)
                    refine r_goto hC (tgt := 191) dX10_runs_187 (by decide) ?_
                    refine r_istore hC (lv' := [(4, .int x216_), (8, .int x193_), (7, .int x20_), (0, .ref a0), (1, .int x1), (2, .int x2), (3, .int x4_3), (5, .int x9_), (6, .int x11_6)]) dX10_runs_191 (by decide) rfl ?_
                    obtain ⟨x217_, e217⟩ : ∃ z : Int32, z = x11_6 + Int32.ofInt (1) := ⟨_, rfl⟩
                    refine r_iinc hC (j := 8) (v := x217_) (lv' := [(6, .int x217_), (4, .int x216_), (8, .int x193_), (7, .int x20_), (0, .ref a0), (1, .int x1), (2, .int x2), (3, .int x4_3), (5, .int x9_)]) dX10_runs_193 rfl (by rw [e217]) (by decide) rfl ?_
                    try have t217 : x217_.toInt = x11_6.toInt + (1) := by rw [e217]; exact (ti_add (b := Int32.ofInt (1)) (by show _ ≤ _ + (1 : Int); omega) (by show _ + (1 : Int) ≤ _; omega))
                    refine r_goto hC (tgt := 29) dX10_runs_196 (by decide) ?_
                    refine r_sub [4, 5, 6, 7, 1, 8, 0] rfl ?_
                    exact ih11 ((5 - x217_.toInt).toNat) (by omega) x217_ x216_ I214 hs214 hF214 (by omega) (by omega) rfl
                  · refine r_iload hC dX10_runs_179 0 rfl ?_
                    refine r_bipush hC (v := (100)) dX10_runs_181 (by decide) (by decide) (fun x218_ e218 t218 => ?_)
                    refine r_icmp_lt hC (tgt := 190) dX10_runs_183 (by decide) (fun c219 => ?_) (fun c219 => ?_)
                    · refine r_iconst hC (v := (0)) dX10_runs_190 (by decide) (by decide) (fun x220_ e220 t220 => ?_)
                      refine r_istore hC (lv' := [(4, .int x220_), (8, .int x193_), (7, .int x20_), (0, .ref a0), (1, .int x1), (2, .int x2), (3, .int x4_3), (5, .int x9_), (6, .int x11_6)]) dX10_runs_191 (by decide) rfl ?_
                      obtain ⟨x221_, e221⟩ : ∃ z : Int32, z = x11_6 + Int32.ofInt (1) := ⟨_, rfl⟩
                      refine r_iinc hC (j := 8) (v := x221_) (lv' := [(6, .int x221_), (4, .int x220_), (8, .int x193_), (7, .int x20_), (0, .ref a0), (1, .int x1), (2, .int x2), (3, .int x4_3), (5, .int x9_)]) dX10_runs_193 rfl (by rw [e221]) (by decide) rfl ?_
                      try have t221 : x221_.toInt = x11_6.toInt + (1) := by rw [e221]; exact (ti_add (b := Int32.ofInt (1)) (by show _ ≤ _ + (1 : Int); omega) (by show _ + (1 : Int) ≤ _; omega))
                      refine r_goto hC (tgt := 29) dX10_runs_196 (by decide) ?_
                      refine r_sub [4, 5, 6, 7, 1, 8, 0] rfl ?_
                      exact ih11 ((5 - x221_.toInt).toNat) (by omega) x221_ x220_ I214 hs214 hF214 (by omega) (by omega) rfl
                    · refine r_iconst hC (v := (1)) dX10_runs_186 (by decide) (by decide) (fun x222_ e222 t222 => ?_)
                      refine r_goto hC (tgt := 191) dX10_runs_187 (by decide) ?_
                      refine r_istore hC (lv' := [(4, .int x222_), (8, .int x193_), (7, .int x20_), (0, .ref a0), (1, .int x1), (2, .int x2), (3, .int x4_3), (5, .int x9_), (6, .int x11_6)]) dX10_runs_191 (by decide) rfl ?_
                      obtain ⟨x223_, e223⟩ : ∃ z : Int32, z = x11_6 + Int32.ofInt (1) := ⟨_, rfl⟩
                      refine r_iinc hC (j := 8) (v := x223_) (lv' := [(6, .int x223_), (4, .int x222_), (8, .int x193_), (7, .int x20_), (0, .ref a0), (1, .int x1), (2, .int x2), (3, .int x4_3), (5, .int x9_)]) dX10_runs_193 rfl (by rw [e223]) (by decide) rfl ?_
                      try have t223 : x223_.toInt = x11_6.toInt + (1) := by rw [e223]; exact (ti_add (b := Int32.ofInt (1)) (by show _ ≤ _ + (1 : Int); omega) (by show _ + (1 : Int) ≤ _; omega))
                      refine r_goto hC (tgt := 29) dX10_runs_196 (by decide) ?_
                      refine r_sub [4, 5, 6, 7, 1, 8, 0] rfl ?_
                      exact ih11 ((5 - x223_.toInt).toNat) (by omega) x223_ x222_ I214 hs214 hF214 (by omega) (by omega) rfl
                · refine r_aload_n hC dX10_runs_147 2 rfl ?_
                  refine r_getr hC 17 (ci := 10) rfl u10_in (by decide) mT_5_12 dX10_runs_148 ka0 rfl rfl hb196 ?_
                  refine r_iload hC dX10_runs_151 1 rfl ?_
                  refine x_iaload hC hk196 hn196 (by decide) rfl rfl dX10_runs_153 (by omega) (by omega) (fun x224_ e224 => ?_)
                  refine r_aload_n hC dX10_runs_154 2 rfl ?_
                  refine r_getr hC 3 (ci := 10) rfl u10_in (by decide) mT_4_238 dX10_runs_155 ka0 rfl rfl hbm ?_
                  refine r_getrN hC 19 (ci := 9) rfl u9_in (by decide) nF_19 dX10_runs_158 khm rfl rfl hB208 ?_
                  refine r_iload_n hC dX10_runs_161 3 rfl ?_
                  refine x_iaload hC hK208 hN208 (by omega) (kOb (by omega)) (kAb (by omega)) dX10_runs_162 (by omega) (by omega) (fun x225_ e225 => ?_)
                  refine r_icmp_lt hC (tgt := 171) dX10_runs_163 (by decide) (fun c226 => ?_) (fun c226 => ?_)
                  · refine r_iconst hC (v := (0)) dX10_runs_171 (by decide) (by decide) (fun x227_ e227 t227 => ?_)
                    refine r_iadd hC dX10_runs_172 (fun x228_ e228 => ?_)
                    try have t228 : x228_.toInt = x207_.toInt + x227_.toInt := by rw [e228]; exact ti_add (by omega) (by omega)
                    refine x_iastore hC hk203 hn203 (by decide) rfl rfl dX10_runs_173 (by omega) (by omega) (fun I229 eI229 => ?_)
                    have hs229 := hs202.put0 eI229 hk203 (rng_arr (by decide) _) rfl (xF_arr (by decide) _) (by decide)
                    have hF229 := hF202.put eI229 hk203 (inS_arr rfl _)
                    refine r_iload hC dX10_runs_174 6 rfl ?_
                    refine r_if_ne hC (tgt := 186) dX10_runs_176 (by decide) (fun c230 => ?_) (fun c230 => ?_)
                    · refine r_iconst hC (v := (1)) dX10_runs_186 (by decide) (by decide) (fun x231_ e231 t231 => ?_)
                      refine r_goto hC (tgt := 191) dX10_runs_187 (by decide) ?_
                      refine r_istore hC (lv' := [(4, .int x231_), (8, .int x193_), (7, .int x20_), (0, .ref a0), (1, .int x1), (2, .int x2), (3, .int x4_3), (5, .int x9_), (6, .int x11_6)]) dX10_runs_191 (by decide) rfl ?_
                      obtain ⟨x232_, e232⟩ : ∃ z : Int32, z = x11_6 + Int32.ofInt (1) := ⟨_, rfl⟩
                      refine r_iinc hC (j := 8) (v := x232_) (lv' := [(6, .int x232_), (4, .int x231_), (8, .int x193_), (7, .int x20_), (0, .ref a0), (1, .int x1), (2, .int x2), (3, .int x4_3), (5, .int x9_)]) dX10_runs_193 rfl (by rw [e232]) (by decide) rfl ?_
                      try have t232 : x232_.toInt = x11_6.toInt + (1) := by rw [e232]; exact (ti_add (b := Int32.ofInt (1)) (by show _ ≤ _ + (1 : Int); omega) (by show _ + (1 : Int) ≤ _; omega))
                      refine r_goto hC (tgt := 29) dX10_runs_196 (by decide) ?_
                      refine r_sub [4, 5, 6, 7, 1, 8, 0] rfl ?_
                      exact ih11 ((5 - x232_.toInt).toNat) (by omega) x232_ x231_ I229 hs229 hF229 (by omega) (by omega) rfl
                    · refine r_iload hC dX10_runs_179 0 rfl ?_
                      refine r_bipush hC (v := (100)) dX10_runs_181 (by decide) (by decide) (fun x233_ e233 t233 => ?_)
                      refine r_icmp_lt hC (tgt := 190) dX10_runs_183 (by decide) (fun c234 => ?_) (fun c234 => ?_)
                      · refine r_iconst hC (v := (0)) dX10_runs_190 (by decide) (by decide) (fun x235_ e235 t235 => ?_)
                        refine r_istore hC (lv' := [(4, .int x235_), (8, .int x193_), (7, .int x20_), (0, .ref a0), (1, .int x1), (2, .int x2), (3, .int x4_3), (5, .int x9_), (6, .int x11_6)]) dX10_runs_191 (by decide) rfl ?_
                        obtain ⟨x236_, e236⟩ : ∃ z : Int32, z = x11_6 + Int32.ofInt (1) := ⟨_, rfl⟩
                        refine r_iinc hC (j := 8) (v := x236_) (lv' := [(6, .int x236_), (4, .int x235_), (8, .int x193_), (7, .int x20_), (0, .ref a0), (1, .int x1), (2, .int x2), (3, .int x4_3), (5, .int x9_)]) dX10_runs_193 rfl (by rw [e236]) (by decide) rfl ?_
                        try have t236 : x236_.toInt = x11_6.toInt + (1) := by rw [e236]; exact (ti_add (b := Int32.ofInt (1)) (by show _ ≤ _ + (1 : Int); omega) (by show _ + (1 : Int) ≤ _; omega))
                        refine r_goto hC (tgt := 29) dX10_runs_196 (by decide) ?_
                        refine r_sub [4, 5, 6, 7, 1, 8, 0] rfl ?_
                        exact ih11 ((5 - x236_.toInt).toNat) (by omega) x236_ x235_ I229 hs229 hF229 (by omega) (by omega) rfl
                      · refine r_iconst hC (v := (1)) dX10_runs_186 (by decide) (by decide) (fun x237_ e237 t237 => ?_)
                        refine r_goto hC (tgt := 191) dX10_runs_187 (by decide) ?_
                        refine r_istore hC (lv' := [(4, .int x237_), (8, .int x193_), (7, .int x20_), (0, .ref a0), (1, .int x1), (2, .int x2), (3, .int x4_3), (5, .int x9_), (6, .int x11_6)]) dX10_runs_191 (by decide) rfl ?_
                        obtain ⟨x238_, e238⟩ : ∃ z : Int32, z = x11_6 + Int32.ofInt (1) := ⟨_, rfl⟩
                        refine r_iinc hC (j := 8) (v := x238_) (lv' := [(6, .int x238_), (4, .int x237_), (8, .int x193_), (7, .int x20_), (0, .ref a0), (1, .int x1), (2, .int x2), (3, .int x4_3), (5, .int x9_)]) dX10_runs_193 rfl (by rw [e238]) (by decide) rfl ?_
                        try have t238 : x238_.toInt = x11_6.toInt + (1) := by rw [e238]; exact (ti_add (b := Int32.ofInt (1)) (by show _ ≤ _ + (1 : Int); omega) (by show _ + (1 : Int) ≤ _; omega))
                        refine r_goto hC (tgt := 29) dX10_runs_196 (by decide) ?_
                        refine r_sub [4, 5, 6, 7, 1, 8, 0] rfl ?_
                        exact ih11 ((5 - x238_.toInt).toNat) (by omega) x238_ x237_ I229 hs229 hF229 (by omega) (by omega) rfl
                  · refine r_iload hC dX10_runs_166 0 rfl ?_
                    refine r_goto hC (tgt := 172) dX10_runs_168 (by decide) ?_
                    refine r_iadd hC dX10_runs_172 (fun x239_ e239 => ?_)
                    try have t239 : x239_.toInt = x207_.toInt + x193_.toInt := by rw [e239]; exact ti_add (by omega) (by omega)
                    refine x_iastore hC hk203 hn203 (by decide) rfl rfl dX10_runs_173 (by omega) (by omega) (fun I240 eI240 => ?_)
                    have hs240 := hs202.put0 eI240 hk203 (rng_arr (by decide) _) rfl (xF_arr (by decide) _) (by decide)
                    have hF240 := hF202.put eI240 hk203 (inS_arr rfl _)
                    refine r_iload hC dX10_runs_174 6 rfl ?_
                    refine r_if_ne hC (tgt := 186) dX10_runs_176 (by decide) (fun c241 => ?_) (fun c241 => ?_)
                    · refine r_iconst hC (v := (1)) dX10_runs_186 (by decide) (by decide) (fun x242_ e242 t242 => ?_)
                      refine r_goto hC (tgt := 191) dX10_runs_187 (by decide) ?_
                      refine r_istore hC (lv' := [(4, .int x242_), (8, .int x193_), (7, .int x20_), (0, .ref a0), (1, .int x1), (2, .int x2), (3, .int x4_3), (5, .int x9_), (6, .int x11_6)]) dX10_runs_191 (by decide) rfl ?_
                      obtain ⟨x243_, e243⟩ : ∃ z : Int32, z = x11_6 + Int32.ofInt (1) := ⟨_, rfl⟩
                      refine r_iinc hC (j := 8) (v := x243_) (lv' := [(6, .int x243_), (4, .int x242_), (8, .int x193_), (7, .int x20_), (0, .ref a0), (1, .int x1), (2, .int x2), (3, .int x4_3), (5, .int x9_)]) dX10_runs_193 rfl (by rw [e243]) (by decide) rfl ?_
                      try have t243 : x243_.toInt = x11_6.toInt + (1) := by rw [e243]; exact (ti_add (b := Int32.ofInt (1)) (by show _ ≤ _ + (1 : Int); omega) (by show _ + (1 : Int) ≤ _; omega))
                      refine r_goto hC (tgt := 29) dX10_runs_196 (by decide) ?_
                      refine r_sub [4, 5, 6, 7, 1, 8, 0] rfl ?_
                      exact ih11 ((5 - x243_.toInt).toNat) (by omega) x243_ x242_ I240 hs240 hF240 (by omega) (by omega) rfl
                    · refine r_iload hC dX10_runs_179 0 rfl ?_
                      refine r_bipush hC (v := (100)) dX10_runs_181 (by decide) (by decide) (fun x244_ e244 t244 => ?_)
                      refine r_icmp_lt hC (tgt := 190) dX10_runs_183 (by decide) (fun c245 => ?_) (fun c245 => ?_)
                      · refine r_iconst hC (v := (0)) dX10_runs_190 (by decide) (by decide) (fun x246_ e246 t246 => ?_)
                        refine r_istore hC (lv' := [(4, .int x246_), (8, .int x193_), (7, .int x20_), (0, .ref a0), (1, .int x1), (2, .int x2), (3, .int x4_3), (5, .int x9_), (6, .int x11_6)]) dX10_runs_191 (by decide) rfl ?_
                        obtain ⟨x247_, e247⟩ : ∃ z : Int32, z = x11_6 + Int32.ofInt (1) := ⟨_, rfl⟩
                        refine r_iinc hC (j := 8) (v := x247_) (lv' := [(6, .int x247_), (4, .int x246_), (8, .int x193_), (7, .int x20_), (0, .ref a0), (1, .int x1), (2, .int x2), (3, .int x4_3), (5, .int x9_)]) dX10_runs_193 rfl (by rw [e247]) (by decide) rfl ?_
                        try have t247 : x247_.toInt = x11_6.toInt + (1) := by rw [e247]; exact (ti_add (b := Int32.ofInt (1)) (by show _ ≤ _ + (1 : Int); omega) (by show _ + (1 : Int) ≤ _; omega))
                        refine r_goto hC (tgt := 29) dX10_runs_196 (by decide) ?_
                        refine r_sub [4, 5, 6, 7, 1, 8, 0] rfl ?_
                        exact ih11 ((5 - x247_.toInt).toNat) (by omega) x247_ x246_ I240 hs240 hF240 (by omega) (by omega) rfl
                      · refine r_iconst hC (v := (1)) dX10_runs_186 (by decide) (by decide) (fun x248_ e248 t248 => ?_)
                        refine r_goto hC (tgt := 191) dX10_runs_187 (by decide) ?_
                        refine r_istore hC (lv' := [(4, .int x248_), (8, .int x193_), (7, .int x20_), (0, .ref a0), (1, .int x1), (2, .int x2), (3, .int x4_3), (5, .int x9_), (6, .int x11_6)]) dX10_runs_191 (by decide) rfl ?_
                        obtain ⟨x249_, e249⟩ : ∃ z : Int32, z = x11_6 + Int32.ofInt (1) := ⟨_, rfl⟩
                        refine r_iinc hC (j := 8) (v := x249_) (lv' := [(6, .int x249_), (4, .int x248_), (8, .int x193_), (7, .int x20_), (0, .ref a0), (1, .int x1), (2, .int x2), (3, .int x4_3), (5, .int x9_)]) dX10_runs_193 rfl (by rw [e249]) (by decide) rfl ?_
                        try have t249 : x249_.toInt = x11_6.toInt + (1) := by rw [e249]; exact (ti_add (b := Int32.ofInt (1)) (by show _ ≤ _ + (1 : Int); omega) (by show _ + (1 : Int) ≤ _; omega))
                        refine r_goto hC (tgt := 29) dX10_runs_196 (by decide) ?_
                        refine r_sub [4, 5, 6, 7, 1, 8, 0] rfl ?_
                        exact ih11 ((5 - x249_.toInt).toNat) (by omega) x249_ x248_ I240 hs240 hF240 (by omega) (by omega) rfl
              · refine r_iconst hC (v := (0)) dX10_runs_121 (by decide) (by decide) (fun x250_ e250 t250 => ?_)
                refine r_goto hC (tgt := 134) dX10_runs_122 (by decide) ?_
                refine r_aload_n hC dX10_runs_134 2 rfl ?_
                refine r_getr hC 3 (ci := 10) rfl u10_in (by decide) mT_4_238 dX10_runs_135 ka0 rfl rfl hbm ?_
                obtain ⟨kd251, mo251, hb251, hk251, hn251, hB251, hK251, hN251⟩ := hs202.2.2.1 hm khm
                refine r_getrN hC 17 (ci := 9) rfl u9_in (by decide) nF_17 dX10_runs_138 khm rfl rfl hb251 ?_
                refine r_iload_n hC dX10_runs_141 3 rfl ?_
                refine x_iaload hC hk251 hn251 (by omega) (kOb (by omega)) (kAb (by omega)) dX10_runs_142 (by omega) (by omega) (fun x252_ e252 => ?_)
                refine r_iconst hC (v := (3)) dX10_runs_143 (by decide) (by decide) (fun x253_ e253 t253 => ?_)
                refine r_icmp_ne hC (tgt := 171) dX10_runs_144 (by decide) (fun c254 => ?_) (fun c254 => ?_)
                · refine r_iconst hC (v := (0)) dX10_runs_171 (by decide) (by decide) (fun x255_ e255 t255 => ?_)
                  refine r_iadd hC dX10_runs_172 (fun x256_ e256 => ?_)
                  try have t256 : x256_.toInt = x250_.toInt + x255_.toInt := by rw [e256]; exact ti_add (by omega) (by omega)
                  refine x_iastore hC hk203 hn203 (by decide) rfl rfl dX10_runs_173 (by omega) (by omega) (fun I257 eI257 => ?_)
                  have hs257 := hs202.put0 eI257 hk203 (rng_arr (by decide) _) rfl (xF_arr (by decide) _) (by decide)
                  have hF257 := hF202.put eI257 hk203 (inS_arr rfl _)
                  refine r_iload hC dX10_runs_174 6 rfl ?_
                  refine r_if_ne hC (tgt := 186) dX10_runs_176 (by decide) (fun c258 => ?_) (fun c258 => ?_)
                  · refine r_iconst hC (v := (1)) dX10_runs_186 (by decide) (by decide) (fun x259_ e259 t259 => ?_)
                    refine r_goto hC (tgt := 191) dX10_runs_187 (by decide) ?_
                    refine r_istore hC (lv' := [(4, .int x259_), (8, .int x193_), (7, .int x20_), (0, .ref a0), (1, .int x1), (2, .int x2), (3, .int x4_3), (5, .int x9_), (6, .int x11_6)]) dX10_runs_191 (by decide) rfl ?_
                    obtain ⟨x260_, e260⟩ : ∃ z : Int32, z = x11_6 + Int32.ofInt (1) := ⟨_, rfl⟩
                    refine r_iinc hC (j := 8) (v := x260_) (lv' := [(6, .int x260_), (4, .int x259_), (8, .int x193_), (7, .int x20_), (0, .ref a0), (1, .int x1), (2, .int x2), (3, .int x4_3), (5, .int x9_)]) dX10_runs_193 rfl (by rw [e260]) (by decide) rfl ?_
                    try have t260 : x260_.toInt = x11_6.toInt + (1) := by rw [e260]; exact (ti_add (b := Int32.ofInt (1)) (by show _ ≤ _ + (1 : Int); omega) (by show _ + (1 : Int) ≤ _; omega))
                    refine r_goto hC (tgt := 29) dX10_runs_196 (by decide) ?_
                    refine r_sub [4, 5, 6, 7, 1, 8, 0] rfl ?_
                    exact ih11 ((5 - x260_.toInt).toNat) (by omega) x260_ x259_ I257 hs257 hF257 (by omega) (by omega) rfl
                  · refine r_iload hC dX10_runs_179 0 rfl ?_
                    refine r_bipush hC (v := (100)) dX10_runs_181 (by decide) (by decide) (fun x261_ e261 t261 => ?_)
                    refine r_icmp_lt hC (tgt := 190) dX10_runs_183 (by decide) (fun c262 => ?_) (fun c262 => ?_)
                    · refine r_iconst hC (v := (0)) dX10_runs_190 (by decide) (by decide) (fun x263_ e263 t263 => ?_)
                      refine r_istore hC (lv' := [(4, .int x263_), (8, .int x193_), (7, .int x20_), (0, .ref a0), (1, .int x1), (2, .int x2), (3, .int x4_3), (5, .int x9_), (6, .int x11_6)]) dX10_runs_191 (by decide) rfl ?_
                      obtain ⟨x264_, e264⟩ : ∃ z : Int32, z = x11_6 + Int32.ofInt (1) := ⟨_, rfl⟩
                      refine r_iinc hC (j := 8) (v := x264_) (lv' := [(6, .int x264_), (4, .int x263_), (8, .int x193_), (7, .int x20_), (0, .ref a0), (1, .int x1), (2, .int x2), (3, .int x4_3), (5, .int x9_)]) dX10_runs_193 rfl (by rw [e264]) (by decide) rfl ?_
                      try have t264 : x264_.toInt = x11_6.toInt + (1) := by rw [e264]; exact (ti_add (b := Int32.ofInt (1)) (by show _ ≤ _ + (1 : Int); omega) (by show _ + (1 : Int) ≤ _; omega))
                      refine r_goto hC (tgt := 29) dX10_runs_196 (by decide) ?_
                      refine r_sub [4, 5, 6, 7, 1, 8, 0] rfl ?_
                      exact ih11 ((5 - x264_.toInt).toNat) (by omega) x264_ x263_ I257 hs257 hF257 (by omega) (by omega) rfl
                    · refine r_iconst hC (v := (1)) dX10_runs_186 (by decide) (by decide) (fun x265_ e265 t265 => ?_)
                      refine r_goto hC (tgt := 191) dX10_runs_187 (by decide) ?_
                      refine r_istore hC (lv' := [(4, .int x265_), (8, .int x193_), (7, .int x20_), (0, .ref a0), (1, .int x1), (2, .int x2), (3, .int x4_3), (5, .int x9_), (6, .int x11_6)]) dX10_runs_191 (by decide) rfl ?_
                      obtain ⟨x266_, e266⟩ : ∃ z : Int32, z = x11_6 + Int32.ofInt (1) := ⟨_, rfl⟩
                      refine r_iinc hC (j := 8) (v := x266_) (lv' := [(6, .int x266_), (4, .int x265_), (8, .int x193_), (7, .int x20_), (0, .ref a0), (1, .int x1), (2, .int x2), (3, .int x4_3), (5, .int x9_)]) dX10_runs_193 rfl (by rw [e266]) (by decide) rfl ?_
                      try have t266 : x266_.toInt = x11_6.toInt + (1) := by rw [e266]; exact (ti_add (b := Int32.ofInt (1)) (by show _ ≤ _ + (1 : Int); omega) (by show _ + (1 : Int) ≤ _; omega))
                      refine r_goto hC (tgt := 29) dX10_runs_196 (by decide) ?_
                      refine r_sub [4, 5, 6, 7, 1, 8, 0] rfl ?_
                      exact ih11 ((5 - x266_.toInt).toNat) (by omega) x266_ x265_ I257 hs257 hF257 (by omega) (by omega) rfl
                · refine r_aload_n hC dX10_runs_147 2 rfl ?_
                  refine r_getr hC 17 (ci := 10) rfl u10_in (by decide) mT_5_12 dX10_runs_148 ka0 rfl rfl hb196 ?_
                  refine r_iload hC dX10_runs_151 1 rfl ?_
                  refine x_iaload hC hk196 hn196 (by decide) rfl rfl dX10_runs_153 (by omega) (by omega) (fun x267_ e267 => ?_)
                  refine r_aload_n hC dX10_runs_154 2 rfl ?_
                  refine r_getr hC 3 (ci := 10) rfl u10_in (by decide) mT_4_238 dX10_runs_155 ka0 rfl rfl hbm ?_
                  refine r_getrN hC 19 (ci := 9) rfl u9_in (by decide) nF_19 dX10_runs_158 khm rfl rfl hB251 ?_
                  refine r_iload_n hC dX10_runs_161 3 rfl ?_
                  refine x_iaload hC hK251 hN251 (by omega) (kOb (by omega)) (kAb (by omega)) dX10_runs_162 (by omega) (by omega) (fun x268_ e268 => ?_)
                  refine r_icmp_lt hC (tgt := 171) dX10_runs_163 (by decide) (fun c269 => ?_) (fun c269 => ?_)
                  · refine r_iconst hC (v := (0)) dX10_runs_171 (by decide) (by decide) (fun x270_ e270 t270 => ?_)
                    refine r_iadd hC dX10_runs_172 (fun x271_ e271 => ?_)
                    try have t271 : x271_.toInt = x250_.toInt + x270_.toInt := by rw [e271]; exact ti_add (by omega) (by omega)
                    refine x_iastore hC hk203 hn203 (by decide) rfl rfl dX10_runs_173 (by omega) (by omega) (fun I272 eI272 => ?_)
                    have hs272 := hs202.put0 eI272 hk203 (rng_arr (by decide) _) rfl (xF_arr (by decide) _) (by decide)
                    have hF272 := hF202.put eI272 hk203 (inS_arr rfl _)
                    refine r_iload hC dX10_runs_174 6 rfl ?_
                    refine r_if_ne hC (tgt := 186) dX10_runs_176 (by decide) (fun c273 => ?_) (fun c273 => ?_)
                    · refine r_iconst hC (v := (1)) dX10_runs_186 (by decide) (by decide) (fun x274_ e274 t274 => ?_)
                      refine r_goto hC (tgt := 191) dX10_runs_187 (by decide) ?_
                      refine r_istore hC (lv' := [(4, .int x274_), (8, .int x193_), (7, .int x20_), (0, .ref a0), (1, .int x1), (2, .int x2), (3, .int x4_3), (5, .int x9_), (6, .int x11_6)]) dX10_runs_191 (by decide) rfl ?_
                      obtain ⟨x275_, e275⟩ : ∃ z : Int32, z = x11_6 + Int32.ofInt (1) := ⟨_, rfl⟩
                      refine r_iinc hC (j := 8) (v := x275_) (lv' := [(6, .int x275_), (4, .int x274_), (8, .int x193_), (7, .int x20_), (0, .ref a0), (1, .int x1), (2, .int x2), (3, .int x4_3), (5, .int x9_)]) dX10_runs_193 rfl (by rw [e275]) (by decide) rfl ?_
                      try have t275 : x275_.toInt = x11_6.toInt + (1) := by rw [e275]; exact (ti_add (b := Int32.ofInt (1)) (by show _ ≤ _ + (1 : Int); omega) (by show _ + (1 : Int) ≤ _; omega))
                      refine r_goto hC (tgt := 29) dX10_runs_196 (by decide) ?_
                      refine r_sub [4, 5, 6, 7, 1, 8, 0] rfl ?_
                      exact ih11 ((5 - x275_.toInt).toNat) (by omega) x275_ x274_ I272 hs272 hF272 (by omega) (by omega) rfl
                    · refine r_iload hC dX10_runs_179 0 rfl ?_
                      refine r_bipush hC (v := (100)) dX10_runs_181 (by decide) (by decide) (fun x276_ e276 t276 => ?_)
                      refine r_icmp_lt hC (tgt := 190) dX10_runs_183 (by decide) (fun c277 => ?_) (fun c277 => ?_)
                      · refine r_iconst hC (v := (0)) dX10_runs_190 (by decide) (by decide) (fun x278_ e278 t278 => ?_)
                        refine r_istore hC (lv' := [(4, .int x278_), (8, .int x193_), (7, .int x20_), (0, .ref a0), (1, .int x1), (2, .int x2), (3, .int x4_3), (5, .int x9_), (6, .int x11_6)]) dX10_runs_191 (by decide) rfl ?_
                        obtain ⟨x279_, e279⟩ : ∃ z : Int32, z = x11_6 + Int32.ofInt (1) := ⟨_, rfl⟩
                        refine r_iinc hC (j := 8) (v := x279_) (lv' := [(6, .int x279_), (4, .int x278_), (8, .int x193_), (7, .int x20_), (0, .ref a0), (1, .int x1), (2, .int x2), (3, .int x4_3), (5, .int x9_)]) dX10_runs_193 rfl (by rw [e279]) (by decide) rfl ?_
                        try have t279 : x279_.toInt = x11_6.toInt + (1) := by rw [e279]; exact (ti_add (b := Int32.ofInt (1)) (by show _ ≤ _ + (1 : Int); omega) (by show _ + (1 : Int) ≤ _; omega))
                        refine r_goto hC (tgt := 29) dX10_runs_196 (by decide) ?_
                        refine r_sub [4, 5, 6, 7, 1, 8, 0] rfl ?_
                        exact ih11 ((5 - x279_.toInt).toNat) (by omega) x279_ x278_ I272 hs272 hF272 (by omega) (by omega) rfl
                      · refine r_iconst hC (v := (1)) dX10_runs_186 (by decide) (by decide) (fun x280_ e280 t280 => ?_)
                        refine r_goto hC (tgt := 191) dX10_runs_187 (by decide) ?_
                        refine r_istore hC (lv' := [(4, .int x280_), (8, .int x193_), (7, .int x20_), (0, .ref a0), (1, .int x1), (2, .int x2), (3, .int x4_3), (5, .int x9_), (6, .int x11_6)]) dX10_runs_191 (by decide) rfl ?_
                        obtain ⟨x281_, e281⟩ : ∃ z : Int32, z = x11_6 + Int32.ofInt (1) := ⟨_, rfl⟩
                        refine r_iinc hC (j := 8) (v := x281_) (lv' := [(6, .int x281_), (4, .int x280_), (8, .int x193_), (7, .int x20_), (0, .ref a0), (1, .int x1), (2, .int x2), (3, .int x4_3), (5, .int x9_)]) dX10_runs_193 rfl (by rw [e281]) (by decide) rfl ?_
                        try have t281 : x281_.toInt = x11_6.toInt + (1) := by rw [e281]; exact (ti_add (b := Int32.ofInt (1)) (by show _ ≤ _ + (1 : Int); omega) (by show _ + (1 : Int) ≤ _; omega))
                        refine r_goto hC (tgt := 29) dX10_runs_196 (by decide) ?_
                        refine r_sub [4, 5, 6, 7, 1, 8, 0] rfl ?_
                        exact ih11 ((5 - x281_.toInt).toNat) (by omega) x281_ x280_ I272 hs272 hF272 (by omega) (by omega) rfl
                  · refine r_iload hC dX10_runs_166 0 rfl ?_
                    refine r_goto hC (tgt := 172) dX10_runs_168 (by decide) ?_
                    refine r_iadd hC dX10_runs_172 (fun x282_ e282 => ?_)
                    try have t282 : x282_.toInt = x250_.toInt + x193_.toInt := by rw [e282]; exact ti_add (by omega) (by omega)
                    refine x_iastore hC hk203 hn203 (by decide) rfl rfl dX10_runs_173 (by omega) (by omega) (fun I283 eI283 => ?_)
                    have hs283 := hs202.put0 eI283 hk203 (rng_arr (by decide) _) rfl (xF_arr (by decide) _) (by decide)
                    have hF283 := hF202.put eI283 hk203 (inS_arr rfl _)
                    refine r_iload hC dX10_runs_174 6 rfl ?_
                    refine r_if_ne hC (tgt := 186) dX10_runs_176 (by decide) (fun c284 => ?_) (fun c284 => ?_)
                    · refine r_iconst hC (v := (1)) dX10_runs_186 (by decide) (by decide) (fun x285_ e285 t285 => ?_)
                      refine r_goto hC (tgt := 191) dX10_runs_187 (by decide) ?_
                      refine r_istore hC (lv' := [(4, .int x285_), (8, .int x193_), (7, .int x20_), (0, .ref a0), (1, .int x1), (2, .int x2), (3, .int x4_3), (5, .int x9_), (6, .int x11_6)]) dX10_runs_191 (by decide) rfl ?_
                      obtain ⟨x286_, e286⟩ : ∃ z : Int32, z = x11_6 + Int32.ofInt (1) := ⟨_, rfl⟩
                      refine r_iinc hC (j := 8) (v := x286_) (lv' := [(6, .int x286_), (4, .int x285_), (8, .int x193_), (7, .int x20_), (0, .ref a0), (1, .int x1), (2, .int x2), (3, .int x4_3), (5, .int x9_)]) dX10_runs_193 rfl (by rw [e286]) (by decide) rfl ?_
                      try have t286 : x286_.toInt = x11_6.toInt + (1) := by rw [e286]; exact (ti_add (b := Int32.ofInt (1)) (by show _ ≤ _ + (1 : Int); omega) (by show _ + (1 : Int) ≤ _; omega))
                      refine r_goto hC (tgt := 29) dX10_runs_196 (by decide) ?_
                      refine r_sub [4, 5, 6, 7, 1, 8, 0] rfl ?_
                      exact ih11 ((5 - x286_.toInt).toNat) (by omega) x286_ x285_ I283 hs283 hF283 (by omega) (by omega) rfl
                    · refine r_iload hC dX10_runs_179 0 rfl ?_
                      refine r_bipush hC (v := (100)) dX10_runs_181 (by decide) (by decide) (fun x287_ e287 t287 => ?_)
                      refine r_icmp_lt hC (tgt := 190) dX10_runs_183 (by decide) (fun c288 => ?_) (fun c288 => ?_)
                      · refine r_iconst hC (v := (0)) dX10_runs_190 (by decide) (by decide) (fun x289_ e289 t289 => ?_)
                        refine r_istore hC (lv' := [(4, .int x289_), (8, .int x193_), (7, .int x20_), (0, .ref a0), (1, .int x1), (2, .int x2), (3, .int x4_3), (5, .int x9_), (6, .int x11_6)]) dX10_runs_191 (by decide) rfl ?_
                        obtain ⟨x290_, e290⟩ : ∃ z : Int32, z = x11_6 + Int32.ofInt (1) := ⟨_, rfl⟩
                        refine r_iinc hC (j := 8) (v := x290_) (lv' := [(6, .int x290_), (4, .int x289_), (8, .int x193_), (7, .int x20_), (0, .ref a0), (1, .int x1), (2, .int x2), (3, .int x4_3), (5, .int x9_)]) dX10_runs_193 rfl (by rw [e290]) (by decide) rfl ?_
                        try have t290 : x290_.toInt = x11_6.toInt + (1) := by rw [e290]; exact (ti_add (b := Int32.ofInt (1)) (by show _ ≤ _ + (1 : Int); omega) (by show _ + (1 : Int) ≤ _; omega))
                        refine r_goto hC (tgt := 29) dX10_runs_196 (by decide) ?_
                        refine r_sub [4, 5, 6, 7, 1, 8, 0] rfl ?_
                        exact ih11 ((5 - x290_.toInt).toNat) (by omega) x290_ x289_ I283 hs283 hF283 (by omega) (by omega) rfl
                      · refine r_iconst hC (v := (1)) dX10_runs_186 (by decide) (by decide) (fun x291_ e291 t291 => ?_)
                        refine r_goto hC (tgt := 191) dX10_runs_187 (by decide) ?_
                        refine r_istore hC (lv' := [(4, .int x291_), (8, .int x193_), (7, .int x20_), (0, .ref a0), (1, .int x1), (2, .int x2), (3, .int x4_3), (5, .int x9_), (6, .int x11_6)]) dX10_runs_191 (by decide) rfl ?_
                        obtain ⟨x292_, e292⟩ : ∃ z : Int32, z = x11_6 + Int32.ofInt (1) := ⟨_, rfl⟩
                        refine r_iinc hC (j := 8) (v := x292_) (lv' := [(6, .int x292_), (4, .int x291_), (8, .int x193_), (7, .int x20_), (0, .ref a0), (1, .int x1), (2, .int x2), (3, .int x4_3), (5, .int x9_)]) dX10_runs_193 rfl (by rw [e292]) (by decide) rfl ?_
                        try have t292 : x292_.toInt = x11_6.toInt + (1) := by rw [e292]; exact (ti_add (b := Int32.ofInt (1)) (by show _ ≤ _ + (1 : Int); omega) (by show _ + (1 : Int) ≤ _; omega))
                        refine r_goto hC (tgt := 29) dX10_runs_196 (by decide) ?_
                        refine r_sub [4, 5, 6, 7, 1, 8, 0] rfl ?_
                        exact ih11 ((5 - x292_.toInt).toNat) (by omega) x292_ x291_ I283 hs283 hF283 (by omega) (by omega) rfl
            · refine r_iconst hC (v := (0)) dX10_runs_94 (by decide) (by decide) (fun x293_ e293 t293 => ?_)
              refine r_goto hC (tgt := 107) dX10_runs_95 (by decide) ?_
              refine r_iload hC dX10_runs_107 0 rfl ?_
              refine r_iadd hC dX10_runs_109 (fun x294_ e294 => ?_)
              try have t294 : x294_.toInt = x293_.toInt + x193_.toInt := by rw [e294]; exact ti_add (by omega) (by omega)
              refine x_iastore hC hk196 hn196 (by decide) rfl rfl dX10_runs_110 (by omega) (by omega) (fun I295 eI295 => ?_)
              have hs295 := hs195.put0 eI295 hk196 (rng_arr (by decide) _) rfl (xF_arr (by decide) _) (by decide)
              have hF295 := hF195.put eI295 hk196 (inS_arr rfl _)
              refine r_aload_n hC dX10_runs_111 2 rfl ?_
              obtain ⟨a296_, hb296, hk296, hn296⟩ := hs295.row ka0 18 88 300 (by decide) (by decide)
              refine r_getr hC 18 (ci := 10) rfl u10_in (by decide) mT_5_13 dX10_runs_112 ka0 rfl rfl hb296 ?_
              refine r_iload hC dX10_runs_115 1 rfl ?_
              refine r_iload_n hC dX10_runs_117 5 rfl ?_
              refine r_if_ne hC (tgt := 125) dX10_runs_118 (by decide) (fun c297 => ?_) (fun c297 => ?_)
              · refine r_aload_n hC dX10_runs_125 2 rfl ?_
                refine r_getr hC 18 (ci := 10) rfl u10_in (by decide) mT_5_13 dX10_runs_126 ka0 rfl rfl hb296 ?_
                refine r_iload hC dX10_runs_129 1 rfl ?_
                refine r_iconst hC (v := (1)) dX10_runs_131 (by decide) (by decide) (fun x298_ e298 t298 => ?_)
                refine r_isub hC dX10_runs_132 (fun x299_ e299 => ?_)
                try have t299 : x299_.toInt = x20_.toInt - x298_.toInt := by rw [e299]; exact ti_sub (by omega) (by omega)
                refine x_iaload hC hk296 hn296 (by decide) rfl rfl dX10_runs_133 (by omega) (by omega) (fun x300_ e300 => ?_)
                refine r_aload_n hC dX10_runs_134 2 rfl ?_
                refine r_getr hC 3 (ci := 10) rfl u10_in (by decide) mT_4_238 dX10_runs_135 ka0 rfl rfl hbm ?_
                obtain ⟨kd301, mo301, hb301, hk301, hn301, hB301, hK301, hN301⟩ := hs295.2.2.1 hm khm
                refine r_getrN hC 17 (ci := 9) rfl u9_in (by decide) nF_17 dX10_runs_138 khm rfl rfl hb301 ?_
                refine r_iload_n hC dX10_runs_141 3 rfl ?_
                refine x_iaload hC hk301 hn301 (by omega) (kOb (by omega)) (kAb (by omega)) dX10_runs_142 (by omega) (by omega) (fun x302_ e302 => ?_)
                refine r_iconst hC (v := (3)) dX10_runs_143 (by decide) (by decide) (fun x303_ e303 t303 => ?_)
                refine r_icmp_ne hC (tgt := 171) dX10_runs_144 (by decide) (fun c304 => ?_) (fun c304 => ?_)
                · refine r_iconst hC (v := (0)) dX10_runs_171 (by decide) (by decide) (fun x305_ e305 t305 => ?_)
                  refine r_iadd hC dX10_runs_172 (fun x306_ e306 => ?_)
                  try have t306 : x306_.toInt = x300_.toInt + x305_.toInt := by rw [e306]; exact ti_add (by omega) (by omega)
                  refine x_iastore hC hk296 hn296 (by decide) rfl rfl dX10_runs_173 (by omega) (by omega) (fun I307 eI307 => ?_)
                  have hs307 := hs295.put0 eI307 hk296 (rng_arr (by decide) _) rfl (xF_arr (by decide) _) (by decide)
                  have hF307 := hF295.put eI307 hk296 (inS_arr rfl _)
                  refine r_iload hC dX10_runs_174 6 rfl ?_
                  refine r_if_ne hC (tgt := 186) dX10_runs_176 (by decide) (fun c308 => ?_) (fun c308 => ?_)
                  · refine r_iconst hC (v := (1)) dX10_runs_186 (by decide) (by decide) (fun x309_ e309 t309 => ?_)
                    refine r_goto hC (tgt := 191) dX10_runs_187 (by decide) ?_
                    refine r_istore hC (lv' := [(4, .int x309_), (8, .int x193_), (7, .int x20_), (0, .ref a0), (1, .int x1), (2, .int x2), (3, .int x4_3), (5, .int x9_), (6, .int x11_6)]) dX10_runs_191 (by decide) rfl ?_
                    obtain ⟨x310_, e310⟩ : ∃ z : Int32, z = x11_6 + Int32.ofInt (1) := ⟨_, rfl⟩
                    refine r_iinc hC (j := 8) (v := x310_) (lv' := [(6, .int x310_), (4, .int x309_), (8, .int x193_), (7, .int x20_), (0, .ref a0), (1, .int x1), (2, .int x2), (3, .int x4_3), (5, .int x9_)]) dX10_runs_193 rfl (by rw [e310]) (by decide) rfl ?_
                    try have t310 : x310_.toInt = x11_6.toInt + (1) := by rw [e310]; exact (ti_add (b := Int32.ofInt (1)) (by show _ ≤ _ + (1 : Int); omega) (by show _ + (1 : Int) ≤ _; omega))
                    refine r_goto hC (tgt := 29) dX10_runs_196 (by decide) ?_
                    refine r_sub [4, 5, 6, 7, 1, 8, 0] rfl ?_
                    exact ih11 ((5 - x310_.toInt).toNat) (by omega) x310_ x309_ I307 hs307 hF307 (by omega) (by omega) rfl
                  · refine r_iload hC dX10_runs_179 0 rfl ?_
                    refine r_bipush hC (v := (100)) dX10_runs_181 (by decide) (by decide) (fun x311_ e311 t311 => ?_)
                    refine r_icmp_lt hC (tgt := 190) dX10_runs_183 (by decide) (fun c312 => ?_) (fun c312 => ?_)
                    · refine r_iconst hC (v := (0)) dX10_runs_190 (by decide) (by decide) (fun x313_ e313 t313 => ?_)
                      refine r_istore hC (lv' := [(4, .int x313_), (8, .int x193_), (7, .int x20_), (0, .ref a0), (1, .int x1), (2, .int x2), (3, .int x4_3), (5, .int x9_), (6, .int x11_6)]) dX10_runs_191 (by decide) rfl ?_
                      obtain ⟨x314_, e314⟩ : ∃ z : Int32, z = x11_6 + Int32.ofInt (1) := ⟨_, rfl⟩
                      refine r_iinc hC (j := 8) (v := x314_) (lv' := [(6, .int x314_), (4, .int x313_), (8, .int x193_), (7, .int x20_), (0, .ref a0), (1, .int x1), (2, .int x2), (3, .int x4_3), (5, .int x9_)]) dX10_runs_193 rfl (by rw [e314]) (by decide) rfl ?_
                      try have t314 : x314_.toInt = x11_6.toInt + (1) := by rw [e314]; exact (ti_add (b := Int32.ofInt (1)) (by show _ ≤ _ + (1 : Int); omega) (by show _ + (1 : Int) ≤ _; omega))
                      refine r_goto hC (tgt := 29) dX10_runs_196 (by decide) ?_
                      refine r_sub [4, 5, 6, 7, 1, 8, 0] rfl ?_
                      exact ih11 ((5 - x314_.toInt).toNat) (by omega) x314_ x313_ I307 hs307 hF307 (by omega) (by omega) rfl
                    · refine r_iconst hC (v := (1)) dX10_runs_186 (by decide) (by decide) (fun x315_ e315 t315 => ?_)
                      refine r_goto hC (tgt := 191) dX10_runs_187 (by decide) ?_
                      refine r_istore hC (lv' := [(4, .int x315_), (8, .int x193_), (7, .int x20_), (0, .ref a0), (1, .int x1), (2, .int x2), (3, .int x4_3), (5, .int x9_), (6, .int x11_6)]) dX10_runs_191 (by decide) rfl ?_
                      obtain ⟨x316_, e316⟩ : ∃ z : Int32, z = x11_6 + Int32.ofInt (1) := ⟨_, rfl⟩
                      refine r_iinc hC (j := 8) (v := x316_) (lv' := [(6, .int x316_), (4, .int x315_), (8, .int x193_), (7, .int x20_), (0, .ref a0), (1, .int x1), (2, .int x2), (3, .int x4_3), (5, .int x9_)]) dX10_runs_193 rfl (by rw [e316]) (by decide) rfl ?_
                      try have t316 : x316_.toInt = x11_6.toInt + (1) := by rw [e316]; exact (ti_add (b := Int32.ofInt (1)) (by show _ ≤ _ + (1 : Int); omega) (by show _ + (1 : Int) ≤ _; omega))
                      refine r_goto hC (tgt := 29) dX10_runs_196 (by decide) ?_
                      refine r_sub [4, 5, 6, 7, 1, 8, 0] rfl ?_
                      exact ih11 ((5 - x316_.toInt).toNat) (by omega) x316_ x315_ I307 hs307 hF307 (by omega) (by omega) rfl
                · refine r_aload_n hC dX10_runs_147 2 rfl ?_
                  refine r_getr hC 17 (ci := 10) rfl u10_in (by decide) mT_5_12 dX10_runs_148 ka0 rfl rfl hb196 ?_
                  refine r_iload hC dX10_runs_151 1 rfl ?_
                  refine x_iaload hC hk196 hn196 (by decide) rfl rfl dX10_runs_153 (by omega) (by omega) (fun x317_ e317 => ?_)
                  refine r_aload_n hC dX10_runs_154 2 rfl ?_
                  refine r_getr hC 3 (ci := 10) rfl u10_in (by decide) mT_4_238 dX10_runs_155 ka0 rfl rfl hbm ?_
                  refine r_getrN hC 19 (ci := 9) rfl u9_in (by decide) nF_19 dX10_runs_158 khm rfl rfl hB301 ?_
                  refine r_iload_n hC dX10_runs_161 3 rfl ?_
                  refine x_iaload hC hK301 hN301 (by omega) (kOb (by omega)) (kAb (by omega)) dX10_runs_162 (by omega) (by omega) (fun x318_ e318 => ?_)
                  refine r_icmp_lt hC (tgt := 171) dX10_runs_163 (by decide) (fun c319 => ?_) (fun c319 => ?_)
                  · refine r_iconst hC (v := (0)) dX10_runs_171 (by decide) (by decide) (fun x320_ e320 t320 => ?_)
                    refine r_iadd hC dX10_runs_172 (fun x321_ e321 => ?_)
                    try have t321 : x321_.toInt = x300_.toInt + x320_.toInt := by rw [e321]; exact ti_add (by omega) (by omega)
                    refine x_iastore hC hk296 hn296 (by decide) rfl rfl dX10_runs_173 (by omega) (by omega) (fun I322 eI322 => ?_)
                    have hs322 := hs295.put0 eI322 hk296 (rng_arr (by decide) _) rfl (xF_arr (by decide) _) (by decide)
                    have hF322 := hF295.put eI322 hk296 (inS_arr rfl _)
                    refine r_iload hC dX10_runs_174 6 rfl ?_
                    refine r_if_ne hC (tgt := 186) dX10_runs_176 (by decide) (fun c323 => ?_) (fun c323 => ?_)
                    · refine r_iconst hC (v := (1)) dX10_runs_186 (by decide) (by decide) (fun x324_ e324 t324 => ?_)
                      refine r_goto hC (tgt := 191) dX10_runs_187 (by decide) ?_
                      refine r_istore hC (lv' := [(4, .int x324_), (8, .int x193_), (7, .int x20_), (0, .ref a0), (1, .int x1), (2, .int x2), (3, .int x4_3), (5, .int x9_), (6, .int x11_6)]) dX10_runs_191 (by decide) rfl ?_
                      obtain ⟨x325_, e325⟩ : ∃ z : Int32, z = x11_6 + Int32.ofInt (1) := ⟨_, rfl⟩
                      refine r_iinc hC (j := 8) (v := x325_) (lv' := [(6, .int x325_), (4, .int x324_), (8, .int x193_), (7, .int x20_), (0, .ref a0), (1, .int x1), (2, .int x2), (3, .int x4_3), (5, .int x9_)]) dX10_runs_193 rfl (by rw [e325]) (by decide) rfl ?_
                      try have t325 : x325_.toInt = x11_6.toInt + (1) := by rw [e325]; exact (ti_add (b := Int32.ofInt (1)) (by show _ ≤ _ + (1 : Int); omega) (by show _ + (1 : Int) ≤ _; omega))
                      refine r_goto hC (tgt := 29) dX10_runs_196 (by decide) ?_
                      refine r_sub [4, 5, 6, 7, 1, 8, 0] rfl ?_
                      exact ih11 ((5 - x325_.toInt).toNat) (by omega) x325_ x324_ I322 hs322 hF322 (by omega) (by omega) rfl
                    · refine r_iload hC dX10_runs_179 0 rfl ?_
                      refine r_bipush hC (v := (100)) dX10_runs_181 (by decide) (by decide) (fun x326_ e326 t326 => ?_)
                      refine r_icmp_lt hC (tgt := 190) dX10_runs_183 (by decide) (fun c327 => ?_) (fun c327 => ?_)
                      · refine r_iconst hC (v := (0)) dX10_runs_190 (by decide) (by decide) (fun x328_ e328 t328 => ?_)
                        refine r_istore hC (lv' := [(4, .int x328_), (8, .int x193_), (7, .int x20_), (0, .ref a0), (1, .int x1), (2, .int x2), (3, .int x4_3), (5, .int x9_), (6, .int x11_6)]) dX10_runs_191 (by decide) rfl ?_
                        obtain ⟨x329_, e329⟩ : ∃ z : Int32, z = x11_6 + Int32.ofInt (1) := ⟨_, rfl⟩
                        refine r_iinc hC (j := 8) (v := x329_) (lv' := [(6, .int x329_), (4, .int x328_), (8, .int x193_), (7, .int x20_), (0, .ref a0), (1, .int x1), (2, .int x2), (3, .int x4_3), (5, .int x9_)]) dX10_runs_193 rfl (by rw [e329]) (by decide) rfl ?_
                        try have t329 : x329_.toInt = x11_6.toInt + (1) := by rw [e329]; exact (ti_add (b := Int32.ofInt (1)) (by show _ ≤ _ + (1 : Int); omega) (by show _ + (1 : Int) ≤ _; omega))
                        refine r_goto hC (tgt := 29) dX10_runs_196 (by decide) ?_
                        refine r_sub [4, 5, 6, 7, 1, 8, 0] rfl ?_
                        exact ih11 ((5 - x329_.toInt).toNat) (by omega) x329_ x328_ I322 hs322 hF322 (by omega) (by omega) rfl
                      · refine r_iconst hC (v := (1)) dX10_runs_186 (by decide) (by decide) (fun x330_ e330 t330 => ?_)
                        refine r_goto hC (tgt := 191) dX10_runs_187 (by decide) ?_
                        refine r_istore hC (lv' := [(4, .int x330_), (8, .int x193_), (7, .int x20_), (0, .ref a0), (1, .int x1), (2, .int x2), (3, .int x4_3), (5, .int x9_), (6, .int x11_6)]) dX10_runs_191 (by decide) rfl ?_
                        obtain ⟨x331_, e331⟩ : ∃ z : Int32, z = x11_6 + Int32.ofInt (1) := ⟨_, rfl⟩
                        refine r_iinc hC (j := 8) (v := x331_) (lv' := [(6, .int x331_), (4, .int x330_), (8, .int x193_), (7, .int x20_), (0, .ref a0), (1, .int x1), (2, .int x2), (3, .int x4_3), (5, .int x9_)]) dX10_runs_193 rfl (by rw [e331]) (by decide) rfl ?_
                        try have t331 : x331_.toInt = x11_6.toInt + (1) := by rw [e331]; exact (ti_add (b := Int32.ofInt (1)) (by show _ ≤ _ + (1 : Int); omega) (by show _ + (1 : Int) ≤ _; omega))
                        refine r_goto hC (tgt := 29) dX10_runs_196 (by decide) ?_
                        refine r_sub [4, 5, 6, 7, 1, 8, 0] rfl ?_
                        exact ih11 ((5 - x331_.toInt).toNat) (by omega) x331_ x330_ I322 hs322 hF322 (by omega) (by omega) rfl
                  · refine r_iload hC dX10_runs_166 0 rfl ?_
                    refine r_goto hC (tgt := 172) dX10_runs_168 (by decide) ?_
                    refine r_iadd hC dX10_runs_172 (fun x332_ e332 => ?_)
                    try have t332 : x332_.toInt = x300_.toInt + x193_.toInt := by rw [e332]; exact ti_add (by omega) (by omega)
                    refine x_iastore hC hk296 hn296 (by decide) rfl rfl dX10_runs_173 (by omega) (by omega) (fun I333 eI333 => ?_)
                    have hs333 := hs295.put0 eI333 hk296 (rng_arr (by decide) _) rfl (xF_arr (by decide) _) (by decide)
                    have hF333 := hF295.put eI333 hk296 (inS_arr rfl _)
                    refine r_iload hC dX10_runs_174 6 rfl ?_
                    refine r_if_ne hC (tgt := 186) dX10_runs_176 (by decide) (fun c334 => ?_) (fun c334 => ?_)
                    · refine r_iconst hC (v := (1)) dX10_runs_186 (by decide) (by decide) (fun x335_ e335 t335 => ?_)
                      refine r_goto hC (tgt := 191) dX10_runs_187 (by decide) ?_
                      refine r_istore hC (lv' := [(4, .int x335_), (8, .int x193_), (7, .int x20_), (0, .ref a0), (1, .int x1), (2, .int x2), (3, .int x4_3), (5, .int x9_), (6, .int x11_6)]) dX10_runs_191 (by decide) rfl ?_
                      obtain ⟨x336_, e336⟩ : ∃ z : Int32, z = x11_6 + Int32.ofInt (1) := ⟨_, rfl⟩
                      refine r_iinc hC (j := 8) (v := x336_) (lv' := [(6, .int x336_), (4, .int x335_), (8, .int x193_), (7, .int x20_), (0, .ref a0), (1, .int x1), (2, .int x2), (3, .int x4_3), (5, .int x9_)]) dX10_runs_193 rfl (by rw [e336]) (by decide) rfl ?_
                      try have t336 : x336_.toInt = x11_6.toInt + (1) := by rw [e336]; exact (ti_add (b := Int32.ofInt (1)) (by show _ ≤ _ + (1 : Int); omega) (by show _ + (1 : Int) ≤ _; omega))
                      refine r_goto hC (tgt := 29) dX10_runs_196 (by decide) ?_
                      refine r_sub [4, 5, 6, 7, 1, 8, 0] rfl ?_
                      exact ih11 ((5 - x336_.toInt).toNat) (by omega) x336_ x335_ I333 hs333 hF333 (by omega) (by omega) rfl
                    · refine r_iload hC dX10_runs_179 0 rfl ?_
                      refine r_bipush hC (v := (100)) dX10_runs_181 (by decide) (by decide) (fun x337_ e337 t337 => ?_)
                      refine r_icmp_lt hC (tgt := 190) dX10_runs_183 (by decide) (fun c338 => ?_) (fun c338 => ?_)
                      · refine r_iconst hC (v := (0)) dX10_runs_190 (by decide) (by decide) (fun x339_ e339 t339 => ?_)
                        refine r_istore hC (lv' := [(4, .int x339_), (8, .int x193_), (7, .int x20_), (0, .ref a0), (1, .int x1), (2, .int x2), (3, .int x4_3), (5, .int x9_), (6, .int x11_6)]) dX10_runs_191 (by decide) rfl ?_
                        obtain ⟨x340_, e340⟩ : ∃ z : Int32, z = x11_6 + Int32.ofInt (1) := ⟨_, rfl⟩
                        refine r_iinc hC (j := 8) (v := x340_) (lv' := [(6, .int x340_), (4, .int x339_), (8, .int x193_), (7, .int x20_), (0, .ref a0), (1, .int x1), (2, .int x2), (3, .int x4_3), (5, .int x9_)]) dX10_runs_193 rfl (by rw [e340]) (by decide) rfl ?_
                        try have t340 : x340_.toInt = x11_6.toInt + (1) := by rw [e340]; exact (ti_add (b := Int32.ofInt (1)) (by show _ ≤ _ + (1 : Int); omega) (by show _ + (1 : Int) ≤ _; omega))
                        refine r_goto hC (tgt := 29) dX10_runs_196 (by decide) ?_
                        refine r_sub [4, 5, 6, 7, 1, 8, 0] rfl ?_
                        exact ih11 ((5 - x340_.toInt).toNat) (by omega) x340_ x339_ I333 hs333 hF333 (by omega) (by omega) rfl
                      · refine r_iconst hC (v := (1)) dX10_runs_186 (by decide) (by decide) (fun x341_ e341 t341 => ?_)
                        refine r_goto hC (tgt := 191) dX10_runs_187 (by decide) ?_
                        refine r_istore hC (lv' := [(4, .int x341_), (8, .int x193_), (7, .int x20_), (0, .ref a0), (1, .int x1), (2, .int x2), (3, .int x4_3), (5, .int x9_), (6, .int x11_6)]) dX10_runs_191 (by decide) rfl ?_
                        obtain ⟨x342_, e342⟩ : ∃ z : Int32, z = x11_6 + Int32.ofInt (1) := ⟨_, rfl⟩
                        refine r_iinc hC (j := 8) (v := x342_) (lv' := [(6, .int x342_), (4, .int x341_), (8, .int x193_), (7, .int x20_), (0, .ref a0), (1, .int x1), (2, .int x2), (3, .int x4_3), (5, .int x9_)]) dX10_runs_193 rfl (by rw [e342]) (by decide) rfl ?_
                        try have t342 : x342_.toInt = x11_6.toInt + (1) := by rw [e342]; exact (ti_add (b := Int32.ofInt (1)) (by show _ ≤ _ + (1 : Int); omega) (by show _ + (1 : Int) ≤ _; omega))
                        refine r_goto hC (tgt := 29) dX10_runs_196 (by decide) ?_
                        refine r_sub [4, 5, 6, 7, 1, 8, 0] rfl ?_
                        exact ih11 ((5 - x342_.toInt).toNat) (by omega) x342_ x341_ I333 hs333 hF333 (by omega) (by omega) rfl
              · refine r_iconst hC (v := (0)) dX10_runs_121 (by decide) (by decide) (fun x343_ e343 t343 => ?_)
                refine r_goto hC (tgt := 134) dX10_runs_122 (by decide) ?_
                refine r_aload_n hC dX10_runs_134 2 rfl ?_
                refine r_getr hC 3 (ci := 10) rfl u10_in (by decide) mT_4_238 dX10_runs_135 ka0 rfl rfl hbm ?_
                obtain ⟨kd344, mo344, hb344, hk344, hn344, hB344, hK344, hN344⟩ := hs295.2.2.1 hm khm
                refine r_getrN hC 17 (ci := 9) rfl u9_in (by decide) nF_17 dX10_runs_138 khm rfl rfl hb344 ?_
                refine r_iload_n hC dX10_runs_141 3 rfl ?_
                refine x_iaload hC hk344 hn344 (by omega) (kOb (by omega)) (kAb (by omega)) dX10_runs_142 (by omega) (by omega) (fun x345_ e345 => ?_)
                refine r_iconst hC (v := (3)) dX10_runs_143 (by decide) (by decide) (fun x346_ e346 t346 => ?_)
                refine r_icmp_ne hC (tgt := 171) dX10_runs_144 (by decide) (fun c347 => ?_) (fun c347 => ?_)
                · refine r_iconst hC (v := (0)) dX10_runs_171 (by decide) (by decide) (fun x348_ e348 t348 => ?_)
                  refine r_iadd hC dX10_runs_172 (fun x349_ e349 => ?_)
                  try have t349 : x349_.toInt = x343_.toInt + x348_.toInt := by rw [e349]; exact ti_add (by omega) (by omega)
                  refine x_iastore hC hk296 hn296 (by decide) rfl rfl dX10_runs_173 (by omega) (by omega) (fun I350 eI350 => ?_)
                  have hs350 := hs295.put0 eI350 hk296 (rng_arr (by decide) _) rfl (xF_arr (by decide) _) (by decide)
                  have hF350 := hF295.put eI350 hk296 (inS_arr rfl _)
                  refine r_iload hC dX10_runs_174 6 rfl ?_
                  refine r_if_ne hC (tgt := 186) dX10_runs_176 (by decide) (fun c351 => ?_) (fun c351 => ?_)
                  · refine r_iconst hC (v := (1)) dX10_runs_186 (by decide) (by decide) (fun x352_ e352 t352 => ?_)
                    refine r_goto hC (tgt := 191) dX10_runs_187 (by decide) ?_
                    refine r_istore hC (lv' := [(4, .int x352_), (8, .int x193_), (7, .int x20_), (0, .ref a0), (1, .int x1), (2, .int x2), (3, .int x4_3), (5, .int x9_), (6, .int x11_6)]) dX10_runs_191 (by decide) rfl ?_
                    obtain ⟨x353_, e353⟩ : ∃ z : Int32, z = x11_6 + Int32.ofInt (1) := ⟨_, rfl⟩
                    refine r_iinc hC (j := 8) (v := x353_) (lv' := [(6, .int x353_), (4, .int x352_), (8, .int x193_), (7, .int x20_), (0, .ref a0), (1, .int x1), (2, .int x2), (3, .int x4_3), (5, .int x9_)]) dX10_runs_193 rfl (by rw [e353]) (by decide) rfl ?_
                    try have t353 : x353_.toInt = x11_6.toInt + (1) := by rw [e353]; exact (ti_add (b := Int32.ofInt (1)) (by show _ ≤ _ + (1 : Int); omega) (by show _ + (1 : Int) ≤ _; omega))
                    refine r_goto hC (tgt := 29) dX10_runs_196 (by decide) ?_
                    refine r_sub [4, 5, 6, 7, 1, 8, 0] rfl ?_
                    exact ih11 ((5 - x353_.toInt).toNat) (by omega) x353_ x352_ I350 hs350 hF350 (by omega) (by omega) rfl
                  · refine r_iload hC dX10_runs_179 0 rfl ?_
                    refine r_bipush hC (v := (100)) dX10_runs_181 (by decide) (by decide) (fun x354_ e354 t354 => ?_)
                    refine r_icmp_lt hC (tgt := 190) dX10_runs_183 (by decide) (fun c355 => ?_) (fun c355 => ?_)
                    · refine r_iconst hC (v := (0)) dX10_runs_190 (by decide) (by decide) (fun x356_ e356 t356 => ?_)
                      refine r_istore hC (lv' := [(4, .int x356_), (8, .int x193_), (7, .int x20_), (0, .ref a0), (1, .int x1), (2, .int x2), (3, .int x4_3), (5, .int x9_), (6, .int x11_6)]) dX10_runs_191 (by decide) rfl ?_
                      obtain ⟨x357_, e357⟩ : ∃ z : Int32, z = x11_6 + Int32.ofInt (1) := ⟨_, rfl⟩
                      refine r_iinc hC (j := 8) (v := x357_) (lv' := [(6, .int x357_), (4, .int x356_), (8, .int x193_), (7, .int x20_), (0, .ref a0), (1, .int x1), (2, .int x2), (3, .int x4_3), (5, .int x9_)]) dX10_runs_193 rfl (by rw [e357]) (by decide) rfl ?_
                      try have t357 : x357_.toInt = x11_6.toInt + (1) := by rw [e357]; exact (ti_add (b := Int32.ofInt (1)) (by show _ ≤ _ + (1 : Int); omega) (by show _ + (1 : Int) ≤ _; omega))
                      refine r_goto hC (tgt := 29) dX10_runs_196 (by decide) ?_
                      refine r_sub [4, 5, 6, 7, 1, 8, 0] rfl ?_
                      exact ih11 ((5 - x357_.toInt).toNat) (by omega) x357_ x356_ I350 hs350 hF350 (by omega) (by omega) rfl
                    · refine r_iconst hC (v := (1)) dX10_runs_186 (by decide) (by decide) (fun x358_ e358 t358 => ?_)
                      refine r_goto hC (tgt := 191) dX10_runs_187 (by decide) ?_
                      refine r_istore hC (lv' := [(4, .int x358_), (8, .int x193_), (7, .int x20_), (0, .ref a0), (1, .int x1), (2, .int x2), (3, .int x4_3), (5, .int x9_), (6, .int x11_6)]) dX10_runs_191 (by decide) rfl ?_
                      obtain ⟨x359_, e359⟩ : ∃ z : Int32, z = x11_6 + Int32.ofInt (1) := ⟨_, rfl⟩
                      refine r_iinc hC (j := 8) (v := x359_) (lv' := [(6, .int x359_), (4, .int x358_), (8, .int x193_), (7, .int x20_), (0, .ref a0), (1, .int x1), (2, .int x2), (3, .int x4_3), (5, .int x9_)]) dX10_runs_193 rfl (by rw [e359]) (by decide) rfl ?_
                      try have t359 : x359_.toInt = x11_6.toInt + (1) := by rw [e359]; exact (ti_add (b := Int32.ofInt (1)) (by show _ ≤ _ + (1 : Int); omega) (by show _ + (1 : Int) ≤ _; omega))
                      refine r_goto hC (tgt := 29) dX10_runs_196 (by decide) ?_
                      refine r_sub [4, 5, 6, 7, 1, 8, 0] rfl ?_
                      exact ih11 ((5 - x359_.toInt).toNat) (by omega) x359_ x358_ I350 hs350 hF350 (by omega) (by omega) rfl
                · refine r_aload_n hC dX10_runs_147 2 rfl ?_
                  refine r_getr hC 17 (ci := 10) rfl u10_in (by decide) mT_5_12 dX10_runs_148 ka0 rfl rfl hb196 ?_
                  refine r_iload hC dX10_runs_151 1 rfl ?_
                  refine x_iaload hC hk196 hn196 (by decide) rfl rfl dX10_runs_153 (by omega) (by omega) (fun x360_ e360 => ?_)
                  refine r_aload_n hC dX10_runs_154 2 rfl ?_
                  refine r_getr hC 3 (ci := 10) rfl u10_in (by decide) mT_4_238 dX10_runs_155 ka0 rfl rfl hbm ?_
                  refine r_getrN hC 19 (ci := 9) rfl u9_in (by decide) nF_19 dX10_runs_158 khm rfl rfl hB344 ?_
                  refine r_iload_n hC dX10_runs_161 3 rfl ?_
                  refine x_iaload hC hK344 hN344 (by omega) (kOb (by omega)) (kAb (by omega)) dX10_runs_162 (by omega) (by omega) (fun x361_ e361 => ?_)
                  refine r_icmp_lt hC (tgt := 171) dX10_runs_163 (by decide) (fun c362 => ?_) (fun c362 => ?_)
                  · refine r_iconst hC (v := (0)) dX10_runs_171 (by decide) (by decide) (fun x363_ e363 t363 => ?_)
                    refine r_iadd hC dX10_runs_172 (fun x364_ e364 => ?_)
                    try have t364 : x364_.toInt = x343_.toInt + x363_.toInt := by rw [e364]; exact ti_add (by omega) (by omega)
                    refine x_iastore hC hk296 hn296 (by decide) rfl rfl dX10_runs_173 (by omega) (by omega) (fun I365 eI365 => ?_)
                    have hs365 := hs295.put0 eI365 hk296 (rng_arr (by decide) _) rfl (xF_arr (by decide) _) (by decide)
                    have hF365 := hF295.put eI365 hk296 (inS_arr rfl _)
                    refine r_iload hC dX10_runs_174 6 rfl ?_
                    refine r_if_ne hC (tgt := 186) dX10_runs_176 (by decide) (fun c366 => ?_) (fun c366 => ?_)
                    · refine r_iconst hC (v := (1)) dX10_runs_186 (by decide) (by decide) (fun x367_ e367 t367 => ?_)
                      refine r_goto hC (tgt := 191) dX10_runs_187 (by decide) ?_
                      refine r_istore hC (lv' := [(4, .int x367_), (8, .int x193_), (7, .int x20_), (0, .ref a0), (1, .int x1), (2, .int x2), (3, .int x4_3), (5, .int x9_), (6, .int x11_6)]) dX10_runs_191 (by decide) rfl ?_
                      obtain ⟨x368_, e368⟩ : ∃ z : Int32, z = x11_6 + Int32.ofInt (1) := ⟨_, rfl⟩
                      refine r_iinc hC (j := 8) (v := x368_) (lv' := [(6, .int x368_), (4, .int x367_), (8, .int x193_), (7, .int x20_), (0, .ref a0), (1, .int x1), (2, .int x2), (3, .int x4_3), (5, .int x9_)]) dX10_runs_193 rfl (by rw [e368]) (by decide) rfl ?_
                      try have t368 : x368_.toInt = x11_6.toInt + (1) := by rw [e368]; exact (ti_add (b := Int32.ofInt (1)) (by show _ ≤ _ + (1 : Int); omega) (by show _ + (1 : Int) ≤ _; omega))
                      refine r_goto hC (tgt := 29) dX10_runs_196 (by decide) ?_
                      refine r_sub [4, 5, 6, 7, 1, 8, 0] rfl ?_
                      exact ih11 ((5 - x368_.toInt).toNat) (by omega) x368_ x367_ I365 hs365 hF365 (by omega) (by omega) rfl
                    · refine r_iload hC dX10_runs_179 0 rfl ?_
                      refine r_bipush hC (v := (100)) dX10_runs_181 (by decide) (by decide) (fun x369_ e369 t369 => ?_)
                      refine r_icmp_lt hC (tgt := 190) dX10_runs_183 (by decide) (fun c370 => ?_) (fun c370 => ?_)
                      · refine r_iconst hC (v := (0)) dX10_runs_190 (by decide) (by decide) (fun x371_ e371 t371 => ?_)
                        refine r_istore hC (lv' := [(4, .int x371_), (8, .int x193_), (7, .int x20_), (0, .ref a0), (1, .int x1), (2, .int x2), (3, .int x4_3), (5, .int x9_), (6, .int x11_6)]) dX10_runs_191 (by decide) rfl ?_
                        obtain ⟨x372_, e372⟩ : ∃ z : Int32, z = x11_6 + Int32.ofInt (1) := ⟨_, rfl⟩
                        refine r_iinc hC (j := 8) (v := x372_) (lv' := [(6, .int x372_), (4, .int x371_), (8, .int x193_), (7, .int x20_), (0, .ref a0), (1, .int x1), (2, .int x2), (3, .int x4_3), (5, .int x9_)]) dX10_runs_193 rfl (by rw [e372]) (by decide) rfl ?_
                        try have t372 : x372_.toInt = x11_6.toInt + (1) := by rw [e372]; exact (ti_add (b := Int32.ofInt (1)) (by show _ ≤ _ + (1 : Int); omega) (by show _ + (1 : Int) ≤ _; omega))
                        refine r_goto hC (tgt := 29) dX10_runs_196 (by decide) ?_
                        refine r_sub [4, 5, 6, 7, 1, 8, 0] rfl ?_
                        exact ih11 ((5 - x372_.toInt).toNat) (by omega) x372_ x371_ I365 hs365 hF365 (by omega) (by omega) rfl
                      · refine r_iconst hC (v := (1)) dX10_runs_186 (by decide) (by decide) (fun x373_ e373 t373 => ?_)
                        refine r_goto hC (tgt := 191) dX10_runs_187 (by decide) ?_
                        refine r_istore hC (lv' := [(4, .int x373_), (8, .int x193_), (7, .int x20_), (0, .ref a0), (1, .int x1), (2, .int x2), (3, .int x4_3), (5, .int x9_), (6, .int x11_6)]) dX10_runs_191 (by decide) rfl ?_
                        obtain ⟨x374_, e374⟩ : ∃ z : Int32, z = x11_6 + Int32.ofInt (1) := ⟨_, rfl⟩
                        refine r_iinc hC (j := 8) (v := x374_) (lv' := [(6, .int x374_), (4, .int x373_), (8, .int x193_), (7, .int x20_), (0, .ref a0), (1, .int x1), (2, .int x2), (3, .int x4_3), (5, .int x9_)]) dX10_runs_193 rfl (by rw [e374]) (by decide) rfl ?_
                        try have t374 : x374_.toInt = x11_6.toInt + (1) := by rw [e374]; exact (ti_add (b := Int32.ofInt (1)) (by show _ ≤ _ + (1 : Int); omega) (by show _ + (1 : Int) ≤ _; omega))
                        refine r_goto hC (tgt := 29) dX10_runs_196 (by decide) ?_
                        refine r_sub [4, 5, 6, 7, 1, 8, 0] rfl ?_
                        exact ih11 ((5 - x374_.toInt).toNat) (by omega) x374_ x373_ I365 hs365 hF365 (by omega) (by omega) rfl
                  · refine r_iload hC dX10_runs_166 0 rfl ?_
                    refine r_goto hC (tgt := 172) dX10_runs_168 (by decide) ?_
                    refine r_iadd hC dX10_runs_172 (fun x375_ e375 => ?_)
                    try have t375 : x375_.toInt = x343_.toInt + x193_.toInt := by rw [e375]; exact ti_add (by omega) (by omega)
                    refine x_iastore hC hk296 hn296 (by decide) rfl rfl dX10_runs_173 (by omega) (by omega) (fun I376 eI376 => ?_)
                    have hs376 := hs295.put0 eI376 hk296 (rng_arr (by decide) _) rfl (xF_arr (by decide) _) (by decide)
                    have hF376 := hF295.put eI376 hk296 (inS_arr rfl _)
                    refine r_iload hC dX10_runs_174 6 rfl ?_
                    refine r_if_ne hC (tgt := 186) dX10_runs_176 (by decide) (fun c377 => ?_) (fun c377 => ?_)
                    · refine r_iconst hC (v := (1)) dX10_runs_186 (by decide) (by decide) (fun x378_ e378 t378 => ?_)
                      refine r_goto hC (tgt := 191) dX10_runs_187 (by decide) ?_
                      refine r_istore hC (lv' := [(4, .int x378_), (8, .int x193_), (7, .int x20_), (0, .ref a0), (1, .int x1), (2, .int x2), (3, .int x4_3), (5, .int x9_), (6, .int x11_6)]) dX10_runs_191 (by decide) rfl ?_
                      obtain ⟨x379_, e379⟩ : ∃ z : Int32, z = x11_6 + Int32.ofInt (1) := ⟨_, rfl⟩
                      refine r_iinc hC (j := 8) (v := x379_) (lv' := [(6, .int x379_), (4, .int x378_), (8, .int x193_), (7, .int x20_), (0, .ref a0), (1, .int x1), (2, .int x2), (3, .int x4_3), (5, .int x9_)]) dX10_runs_193 rfl (by rw [e379]) (by decide) rfl ?_
                      try have t379 : x379_.toInt = x11_6.toInt + (1) := by rw [e379]; exact (ti_add (b := Int32.ofInt (1)) (by show _ ≤ _ + (1 : Int); omega) (by show _ + (1 : Int) ≤ _; omega))
                      refine r_goto hC (tgt := 29) dX10_runs_196 (by decide) ?_
                      refine r_sub [4, 5, 6, 7, 1, 8, 0] rfl ?_
                      exact ih11 ((5 - x379_.toInt).toNat) (by omega) x379_ x378_ I376 hs376 hF376 (by omega) (by omega) rfl
                    · refine r_iload hC dX10_runs_179 0 rfl ?_
                      refine r_bipush hC (v := (100)) dX10_runs_181 (by decide) (by decide) (fun x380_ e380 t380 => ?_)
                      refine r_icmp_lt hC (tgt := 190) dX10_runs_183 (by decide) (fun c381 => ?_) (fun c381 => ?_)
                      · refine r_iconst hC (v := (0)) dX10_runs_190 (by decide) (by decide) (fun x382_ e382 t382 => ?_)
                        refine r_istore hC (lv' := [(4, .int x382_), (8, .int x193_), (7, .int x20_), (0, .ref a0), (1, .int x1), (2, .int x2), (3, .int x4_3), (5, .int x9_), (6, .int x11_6)]) dX10_runs_191 (by decide) rfl ?_
                        obtain ⟨x383_, e383⟩ : ∃ z : Int32, z = x11_6 + Int32.ofInt (1) := ⟨_, rfl⟩
                        refine r_iinc hC (j := 8) (v := x383_) (lv' := [(6, .int x383_), (4, .int x382_), (8, .int x193_), (7, .int x20_), (0, .ref a0), (1, .int x1), (2, .int x2), (3, .int x4_3), (5, .int x9_)]) dX10_runs_193 rfl (by rw [e383]) (by decide) rfl ?_
                        try have t383 : x383_.toInt = x11_6.toInt + (1) := by rw [e383]; exact (ti_add (b := Int32.ofInt (1)) (by show _ ≤ _ + (1 : Int); omega) (by show _ + (1 : Int) ≤ _; omega))
                        refine r_goto hC (tgt := 29) dX10_runs_196 (by decide) ?_
                        refine r_sub [4, 5, 6, 7, 1, 8, 0] rfl ?_
                        exact ih11 ((5 - x383_.toInt).toNat) (by omega) x383_ x382_ I376 hs376 hF376 (by omega) (by omega) rfl
                      · refine r_iconst hC (v := (1)) dX10_runs_186 (by decide) (by decide) (fun x384_ e384 t384 => ?_)
                        refine r_goto hC (tgt := 191) dX10_runs_187 (by decide) ?_
                        refine r_istore hC (lv' := [(4, .int x384_), (8, .int x193_), (7, .int x20_), (0, .ref a0), (1, .int x1), (2, .int x2), (3, .int x4_3), (5, .int x9_), (6, .int x11_6)]) dX10_runs_191 (by decide) rfl ?_
                        obtain ⟨x385_, e385⟩ : ∃ z : Int32, z = x11_6 + Int32.ofInt (1) := ⟨_, rfl⟩
                        refine r_iinc hC (j := 8) (v := x385_) (lv' := [(6, .int x385_), (4, .int x384_), (8, .int x193_), (7, .int x20_), (0, .ref a0), (1, .int x1), (2, .int x2), (3, .int x4_3), (5, .int x9_)]) dX10_runs_193 rfl (by rw [e385]) (by decide) rfl ?_
                        try have t385 : x385_.toInt = x11_6.toInt + (1) := by rw [e385]; exact (ti_add (b := Int32.ofInt (1)) (by show _ ≤ _ + (1 : Int); omega) (by show _ + (1 : Int) ≤ _; omega))
                        refine r_goto hC (tgt := 29) dX10_runs_196 (by decide) ?_
                        refine r_sub [4, 5, 6, 7, 1, 8, 0] rfl ?_
                        exact ih11 ((5 - x385_.toInt).toNat) (by omega) x385_ x384_ I376 hs376 hF376 (by omega) (by omega) rfl
      refine r_sub [3, 4, 5, 6, 2, 1, 0] rfl ?_
      exact LP11 _ x10_ x7_ I4 hs4 hF4 (by omega) (by omega) rfl
  refine r_sub [1, 2, 3, 0] rfl ?_
  exact LP4 _ x3_ I2 hs2 hF2 (by omega) (by omega) rfl
set_option maxHeartbeats 4000000 in
set_option maxRecDepth 100000 in
theorem c_X10_runsAsTold (g : GG) (l : Launch) (K len : Nat → Nat) (I : Nat → Nat → Int32) (J : Nat → Nat → Int64) (R : Nat → Nat → Option Nat) (hs : Sf K len I R) (a0 : Nat) (ka0 : K a0 = 11) (x1 : Int32) (hm : Nat) (hbm : R a0 3 = some hm) (khm : K hm = 10) (ps1 : x1.toInt < (I hm 7).toInt) (p0 : 0 ≤ x1.toInt) (p1 : x1.toInt ≤ 5) : Ct g l yX10_runsAsTold cX10_runsAsTold 2 (Option.none : Option Jvm.ClassFile.FieldType) rmX10_runsAsTold [.ref a0, .int x1] (K, len, I, J, R) (pV1 (K, len, I, J, R) (fun I' => Sf K len I' R ∧ Fr K [(11, 19), (85, 999), (86, 999), (87, 999), (88, 999)] I I')) := by
  refine Ct_intro (by decide +kernel) (Nat.le_of_ble_eq_true rfl) (fun X hC hL hKK hNm hr hlk hQ => ?_)
  subst hL
  have hC : Cx g X cX10_runsAsTold "HillTapModel" 2 rmX10_runsAsTold := hC
  show P g X 2 0 [(0, .ref a0), (1, .int x1)] [] 0 0 (K, len, I, J, R)
  have hF : Fr K [(11, 19), (85, 999), (86, 999), (87, 999), (88, 999)] I I := Fr.refl
  have b_x1 := ti_rng x1
  obtain ⟨S0, eS0⟩ : ∃ z : Int32, z = I hm 7 := ⟨_, rfl⟩
  have fS0 : S0.toInt = (I hm 7).toInt := by rw [eS0]
  have rS0 := hs.rng khm rfl eS0
  refine r_aload_n hC dX10_runsAsTold_0 0 rfl ?_
  refine r_bipush hC (v := (60)) dX10_runsAsTold_1 (by decide) (by decide) (fun x1_ e1 t1 => ?_)
  refine r_iconst hC (v := (-1)) dX10_runsAsTold_3 (by decide) (by decide) (fun x2_ e2 t2 => ?_)
  refine r_callV hC (As := [.int x1_, .int x2_]) (rest := []) (ci := 10) (c_X10_fills g (xL X) K len I J R hs a0 ka0 x1_ x2_ hm hbm khm) mT_6_99 mT_1_10 mT_6_96 mT_6_98 mP_69 okX10_fills ⟨by decide, by decide⟩ rfl (by show kO (K a0) = _; rw [ka0]; rfl) rfl rfl (Nat.le_of_ble_eq_true rfl) ⟨by decide, by decide⟩ dX10_runsAsTold_4 (aV1 (F := fun st M => P g X 2 7 [(0, .ref a0), (1, .int x1)] st _ _ M) (M := (K, len, I, J, R)) fun I3 h3 => ?_)
  obtain ⟨hs3, hf3⟩ := h3
  show P g X 2 7 [(0, .ref a0), (1, .int x1)] [] _ _ (K, len, I3, J, R)
  have hF3 : Fr K [(11, 19), (85, 999), (86, 999), (87, 999), (88, 999)] I I3 := hF.trans hf3 rfl rfl
  refine r_aload_n hC dX10_runsAsTold_7 0 rfl ?_
  refine r_iload_n hC dX10_runsAsTold_8 1 rfl ?_
  refine r_iconst hC (v := (1)) dX10_runsAsTold_9 (by decide) (by decide) (fun x4_ e4 t4 => ?_)
  have hv5 : I3 hm 7 = S0 := (Eq.trans (hf3.get khm rfl) eS0.symm)
  refine r_callV hC (As := [.int x1, .int x4_]) (rest := []) (ci := 10) (c_X10_runs g (xL X) K len I3 J R hs3 a0 ka0 x1 x4_ hm hbm khm (by rw [hv5]; omega) (by omega) (by omega)) mT_6_131 mT_1_10 mT_6_128 mT_6_130 mP_74 okX10_runs ⟨by decide, by decide⟩ rfl (by show kO (K a0) = _; rw [ka0]; rfl) rfl rfl (Nat.le_of_ble_eq_true rfl) ⟨by decide, by decide⟩ dX10_runsAsTold_10 (aV1 (F := fun st M => P g X 2 13 [(0, .ref a0), (1, .int x1)] st _ _ M) (M := (K, len, I3, J, R)) fun I6 h6 => ?_)
  obtain ⟨hs6, hf6⟩ := h6
  show P g X 2 13 [(0, .ref a0), (1, .int x1)] [] _ _ (K, len, I6, J, R)
  have hF6 : Fr K [(11, 19), (85, 999), (86, 999), (87, 999), (88, 999)] I I6 := hF3.trans hf6 rfl rfl
  exact r_vret hC hQ hlk hr (by decide) (by decide) dX10_runsAsTold_13 ⟨_, rfl, rfl, ⟨hs6, hF6⟩⟩
set_option maxHeartbeats 4000000 in
set_option maxRecDepth 100000 in
theorem c_X10_speeds (g : GG) (l : Launch) (K len : Nat → Nat) (I : Nat → Nat → Int32) (J : Nat → Nat → Int64) (R : Nat → Nat → Option Nat) (hs : Sf K len I R) (a0 : Nat) (ka0 : K a0 = 11) (x1 : Int32) (hm : Nat) (hbm : R a0 3 = some hm) (khm : K hm = 10) (p0 : x1.toInt ≤ 59) : Ct g l yX10_speeds cX10_speeds 4 (Option.some Jvm.ClassFile.FieldType.int) rmX10_speeds [.ref a0, .int x1] (K, len, I, J, R) (pI0 (K, len, I, J, R) (fun r => True)) := by
  refine Ct_intro (by decide +kernel) (Nat.le_of_ble_eq_true rfl) (fun X hC hL hKK hNm hr hlk hQ => ?_)
  subst hL
  have hC : Cx g X cX10_speeds "HillTapModel" 4 rmX10_speeds := hC
  show P g X 4 0 [(0, .ref a0), (1, .int x1)] [] 0 0 (K, len, I, J, R)
  have hF : Fr K [] I I := Fr.refl
  have b_x1 := ti_rng x1
  refine r_iconst hC (v := (0)) dX10_speeds_0 (by decide) (by decide) (fun x1_ e1 t1 => ?_)
  refine r_istore_n hC (lv' := [(2, .int x1_), (0, .ref a0), (1, .int x1)]) dX10_speeds_1 (by decide) rfl ?_
  refine r_iconst hC (v := (0)) dX10_speeds_2 (by decide) (by decide) (fun x2_ e2 t2 => ?_)
  refine r_istore_n hC (lv' := [(3, .int x2_), (2, .int x1_), (0, .ref a0), (1, .int x1)]) dX10_speeds_3 (by decide) rfl ?_
  have LP3 : ∀ (mu : Nat) (x3_3 : Int32) (x3_2 : Int32) (v3_0 : 0 ≤ x3_3.toInt) (v3_1 : x3_3.toInt ≤ 5), (5 - x3_3.toInt).toNat = mu → P g X 4 4 [(0, .ref a0), (1, .int x1), (2, .int x3_2), (3, .int x3_3)] [] 0 0 (K, len, I, J, R) := by
    intro mu; induction mu using Nat.strongRecOn with | ind mu ih => ?_
    intro x3_3 x3_2 v3_0 v3_1 hmu
    have ih3 := ih
    clear ih
    have hmu3 := hmu
    clear hmu
    refine r_iload_n hC dX10_speeds_4 3 rfl ?_
    refine r_aload_n hC dX10_speeds_5 0 rfl ?_
    refine r_getr hC 3 (ci := 10) rfl u10_in (by decide) mT_4_238 dX10_speeds_6 ka0 rfl rfl hbm ?_
    refine r_getiN hC 3 (ci := 9) rfl u9_in (by decide) nF_3 dX10_speeds_9 khm rfl rfl (fun x4_ e4 => ?_)
    have r4 := hs.rng khm rfl e4
    have f4 : x4_.toInt = (I hm 3).toInt := by rw [e4]
    refine r_icmp_ge hC (tgt := 39) dX10_speeds_12 (by decide) (fun c5 => ?_) (fun c5 => ?_)
    · refine r_iload_n hC dX10_speeds_39 2 rfl ?_
      exact r_iret hC hQ hlk hr rfl (by decide) (by decide) dX10_speeds_40 ⟨_, rfl, rfl, trivial⟩
    · refine r_iload_n hC dX10_speeds_15 1 rfl ?_
      refine r_if_lt hC (tgt := 39) dX10_speeds_16 (by decide) (fun c6 => ?_) (fun c6 => ?_)
      · refine r_iload_n hC dX10_speeds_39 2 rfl ?_
        exact r_iret hC hQ hlk hr rfl (by decide) (by decide) dX10_speeds_40 ⟨_, rfl, rfl, trivial⟩
      · refine r_iload_n hC dX10_speeds_19 2 rfl ?_
        refine r_aload_n hC dX10_speeds_20 0 rfl ?_
        obtain ⟨a7_, hb7, hk7, hn7⟩ := hs.row ka0 16 86 300 (by decide) (by decide)
        refine r_getr hC 16 (ci := 10) rfl u10_in (by decide) mT_5_11 dX10_speeds_21 ka0 rfl rfl hb7 ?_
        refine r_bipush hC (v := (60)) dX10_speeds_24 (by decide) (by decide) (fun x8_ e8 t8 => ?_)
        refine r_iload_n hC dX10_speeds_26 3 rfl ?_
        refine r_imul hC dX10_speeds_27 (fun x9_ e9 => ?_)
        try have t9 : x9_.toInt = (60) * x3_3.toInt := by rw [e9]; exact ti_mul (by omega) rfl (by omega) (by omega)
        refine r_iload_n hC dX10_speeds_28 1 rfl ?_
        refine r_iadd hC dX10_speeds_29 (fun x10_ e10 => ?_)
        try have t10 : x10_.toInt = x9_.toInt + x1.toInt := by rw [e10]; exact ti_add (by omega) (by omega)
        refine x_iaload hC hk7 hn7 (by decide) rfl rfl dX10_speeds_30 (by omega) (by omega) (fun x11_ e11 => ?_)
        refine r_iadd hC dX10_speeds_31 (fun x12_ e12 => ?_)
        try have t12 : x12_.toInt = x3_2.toInt + x11_.toInt := by rw [e12]; exact ti_add (by omega) (by omega)
        refine r_istore_n hC (lv' := [(2, .int x12_), (0, .ref a0), (1, .int x1), (3, .int x3_3)]) dX10_speeds_32 (by decide) rfl ?_
        obtain ⟨x13_, e13⟩ : ∃ z : Int32, z = x3_3 + Int32.ofInt (1) := ⟨_, rfl⟩
        refine r_iinc hC (j := 3) (v := x13_) (lv' := [(3, .int x13_), (2, .int x12_), (0, .ref a0), (1, .int x1)]) dX10_speeds_33 rfl (by rw [e13]) (by decide) rfl ?_
        try have t13 : x13_.toInt = x3_3.toInt + (1) := by rw [e13]; exact (ti_add (b := Int32.ofInt (1)) (by show _ ≤ _ + (1 : Int); omega) (by show _ + (1 : Int) ≤ _; omega))
        refine r_goto hC (tgt := 4) dX10_speeds_36 (by decide) ?_
        refine r_sub [2, 3, 1, 0] rfl ?_
        exact ih3 ((5 - x13_.toInt).toNat) (by omega) x13_ x12_ (by omega) (by omega) rfl
  refine r_sub [2, 3, 1, 0] rfl ?_
  exact LP3 _ x2_ x1_ (by omega) (by omega) rfl
set_option maxHeartbeats 4000000 in
set_option maxRecDepth 100000 in
theorem c_X10_waveOf (g : GG) (l : Launch) (K len : Nat → Nat) (I : Nat → Nat → Int32) (J : Nat → Nat → Int64) (R : Nat → Nat → Option Nat) (hs : Sf K len I R) (a0 : Nat) (ka0 : K a0 = 11) (hm : Nat) (hbm : R a0 3 = some hm) (khm : K hm = 10) : Ct g l yX10_waveOf cX10_waveOf 1 (Option.some Jvm.ClassFile.FieldType.int) rmX10_waveOf [.ref a0] (K, len, I, J, R) (pI0 (K, len, I, J, R) (fun r => True)) := by
  refine Ct_intro (by decide +kernel) (Nat.le_of_ble_eq_true rfl) (fun X hC hL hKK hNm hr hlk hQ => ?_)
  subst hL
  have hC : Cx g X cX10_waveOf "HillTapModel" 1 rmX10_waveOf := hC
  show P g X 1 0 [(0, .ref a0)] [] 0 0 (K, len, I, J, R)
  have hF : Fr K [] I I := Fr.refl
  refine r_aload_n hC dX10_waveOf_0 0 rfl ?_
  refine r_geti hC 19 (ci := 10) rfl u10_in (by decide) mT_5_14 dX10_waveOf_1 ka0 rfl rfl (fun x1_ e1 => ?_)
  have r1 := hs.rng ka0 rfl e1
  have q1 := hs.gone ka0 e1
  refine r_bipush hC (v := (-2)) dX10_waveOf_4 (by decide) (by decide) (fun x2_ e2 t2 => ?_)
  refine r_icmp_ne hC (tgt := 13) dX10_waveOf_6 (by decide) (fun c3 => ?_) (fun c3 => ?_)
  · refine r_aload_n hC dX10_waveOf_13 0 rfl ?_
    refine r_aload_n hC dX10_waveOf_14 0 rfl ?_
    refine r_geti hC 19 (ci := 10) rfl u10_in (by decide) mT_5_14 dX10_waveOf_15 ka0 rfl rfl (fun x4_ e4 => ?_)
    have r4 := hs.rng ka0 rfl e4
    have q4 := hs.gone ka0 e4
    have w4 : x4_ = x1_ := by rw [e4]; exact e1.symm
    have wt4 : x4_.toInt = x1_.toInt := by rw [w4]
    refine r_callV hC (As := [.int x4_]) (rest := []) (ci := 10) (c_X10_speeds g (xL X) K len I J R hs a0 ka0 x4_ hm hbm khm (by omega)) mT_6_167 mT_1_10 mT_6_164 mT_6_166 mP_81 okX10_speeds ⟨by decide, by decide⟩ rfl (by show kO (K a0) = _; rw [ka0]; rfl) rfl rfl (Nat.le_of_ble_eq_true rfl) ⟨by decide, by decide⟩ dX10_waveOf_18 (aI0 (F := fun st M => P g X 1 21 [(0, .ref a0)] st _ _ M) (M := (K, len, I, J, R)) fun x5_ h5 => ?_)
    skip
    show P g X 1 21 [(0, .ref a0)] [.int x5_] _ _ (K, len, I, J, R)
    refine r_aload_n hC dX10_waveOf_21 0 rfl ?_
    obtain ⟨a6_, hb6, hk6, hn6⟩ := hs.row ka0 15 85 60 (by decide) (by decide)
    refine r_getr hC 15 (ci := 10) rfl u10_in (by decide) mT_5_10 dX10_waveOf_22 ka0 rfl rfl hb6 ?_
    refine r_aload_n hC dX10_waveOf_25 0 rfl ?_
    refine r_geti hC 19 (ci := 10) rfl u10_in (by decide) mT_5_14 dX10_waveOf_26 ka0 rfl rfl (fun x7_ e7 => ?_)
    have r7 := hs.rng ka0 rfl e7
    have q7 := hs.gone ka0 e7
    have w7 : x7_ = x4_ := by rw [e7]; exact e4.symm
    have wt7 : x7_.toInt = x4_.toInt := by rw [w7]
    refine x_iaload hC hk6 hn6 (by decide) rfl rfl dX10_waveOf_29 (by omega) (by omega) (fun x8_ e8 => ?_)
    refine r_imul hC dX10_waveOf_30 (fun x9_ e9 => ?_)
    refine r_bipush hC (v := (100)) dX10_waveOf_31 (by decide) (by decide) (fun x10_ e10 t10 => ?_)
    refine r_idiv hC dX10_waveOf_33 (ne_0 (by omega)) (fun x11_ e11 => ?_)
    exact r_iret hC hQ hlk hr rfl (by decide) (by decide) dX10_waveOf_34 ⟨_, rfl, rfl, trivial⟩
  · refine r_iconst hC (v := (0)) dX10_waveOf_9 (by decide) (by decide) (fun x12_ e12 t12 => ?_)
    refine r_goto hC (tgt := 34) dX10_waveOf_10 (by decide) ?_
    exact r_iret hC hQ hlk hr rfl (by decide) (by decide) dX10_waveOf_34 ⟨_, rfl, rfl, trivial⟩

