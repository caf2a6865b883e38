abbrev rmX7_isEnd : Room := { frames := 0, cells := 0, slots := 0, locals := 0 }
abbrev rmX7_isAnyWord : Room := { frames := 0, cells := 0, slots := 0, locals := 0 }
abbrev rmX7_isWhole : Room := { frames := 0, cells := 0, slots := 0, locals := 0 }
abbrev rmX7_isSemicolon : Room := { frames := 0, cells := 0, slots := 0, locals := 0 }
abbrev rmX7_takeLetters : Room := { frames := 0, cells := 0, slots := 0, locals := 0 }
abbrev rmX7_takeDigits : Room := { frames := 0, cells := 0, slots := 0, locals := 0 }
abbrev rmX7_next : Room := { frames := 1, cells := 0, slots := 0, locals := 21 }
abbrev rmX7_begin : Room := { frames := 2, cells := 0, slots := 0, locals := 42 }
abbrev rmX7_isWord : Room := { frames := 4, cells := 0, slots := 0, locals := 85 }
set_option maxHeartbeats 4000000 in
set_option maxRecDepth 100000 in
theorem c_X7_isEnd (g : GG) (l : Launch) (K len : Nat → Nat) (I : Nat → Nat → Int32) (J : Nat → Nat → Int64) (R : Nat → Nat → Option Nat) (hs : Sf K len I R) (a0 : Nat) (ka0 : K a0 = 8) : Ct g l yX7_isEnd cX7_isEnd 1 (Option.some Jvm.ClassFile.FieldType.boolean) rmX7_isEnd [.ref a0] (K, len, I, J, R) (pI0 (K, len, I, J, R) (fun r => (0 ≤ r.toInt) ∧ (r.toInt ≤ 1))) := by
  refine Ct_intro (by decide +kernel) (Nat.le_of_ble_eq_true rfl) (fun X hC hL hKK hNm hr hlk hQ => ?_)
  subst hL
  have hC : Cx g X cX7_isEnd "HillTap$Tokens" 1 rmX7_isEnd := hC
  show P g X 1 0 [(0, .ref a0)] [] 0 0 (K, len, I, J, R)
  have hF : Fr K [] I I := Fr.refl
  refine r_aload_n hC dX7_isEnd_0 0 rfl ?_
  refine r_geti hC 3 (ci := 7) rfl u7_in (by decide) mT_1_62 dX7_isEnd_1 ka0 rfl rfl (fun x1_ e1 => ?_)
  refine r_if_ne hC (tgt := 11) dX7_isEnd_4 (by decide) (fun c2 => ?_) (fun c2 => ?_)
  · refine r_iconst hC (v := (0)) dX7_isEnd_11 (by decide) (by decide) (fun x3_ e3 t3 => ?_)
    exact r_iret hC hQ hlk hr (by rw [e3]; rfl) (by decide) (by decide) dX7_isEnd_12 ⟨_, rfl, rfl, ⟨(by omega), (by omega)⟩⟩
  · refine r_iconst hC (v := (1)) dX7_isEnd_7 (by decide) (by decide) (fun x4_ e4 t4 => ?_)
    refine r_goto hC (tgt := 12) dX7_isEnd_8 (by decide) ?_
    exact r_iret hC hQ hlk hr (by rw [e4]; rfl) (by decide) (by decide) dX7_isEnd_12 ⟨_, rfl, rfl, ⟨(by omega), (by omega)⟩⟩
set_option maxHeartbeats 4000000 in
set_option maxRecDepth 100000 in
theorem c_X7_isAnyWord (g : GG) (l : Launch) (K len : Nat → Nat) (I : Nat → Nat → Int32) (J : Nat → Nat → Int64) (R : Nat → Nat → Option Nat) (hs : Sf K len I R) (a0 : Nat) (ka0 : K a0 = 8) : Ct g l yX7_isAnyWord cX7_isAnyWord 1 (Option.some Jvm.ClassFile.FieldType.boolean) rmX7_isAnyWord [.ref a0] (K, len, I, J, R) (pI0 (K, len, I, J, R) (fun r => (0 ≤ r.toInt) ∧ (r.toInt ≤ 1))) := by
  refine Ct_intro (by decide +kernel) (Nat.le_of_ble_eq_true rfl) (fun X hC hL hKK hNm hr hlk hQ => ?_)
  subst hL
  have hC : Cx g X cX7_isAnyWord "HillTap$Tokens" 1 rmX7_isAnyWord := hC
  show P g X 1 0 [(0, .ref a0)] [] 0 0 (K, len, I, J, R)
  have hF : Fr K [] I I := Fr.refl
  refine r_aload_n hC dX7_isAnyWord_0 0 rfl ?_
  refine r_geti hC 3 (ci := 7) rfl u7_in (by decide) mT_1_62 dX7_isAnyWord_1 ka0 rfl rfl (fun x1_ e1 => ?_)
  refine r_iconst hC (v := (1)) dX7_isAnyWord_4 (by decide) (by decide) (fun x2_ e2 t2 => ?_)
  refine r_icmp_ne hC (tgt := 12) dX7_isAnyWord_5 (by decide) (fun c3 => ?_) (fun c3 => ?_)
  · refine r_iconst hC (v := (0)) dX7_isAnyWord_12 (by decide) (by decide) (fun x4_ e4 t4 => ?_)
    exact r_iret hC hQ hlk hr (by rw [e4]; rfl) (by decide) (by decide) dX7_isAnyWord_13 ⟨_, rfl, rfl, ⟨(by omega), (by omega)⟩⟩
  · refine r_iconst hC (v := (1)) dX7_isAnyWord_8 (by decide) (by decide) (fun x5_ e5 t5 => ?_)
    refine r_goto hC (tgt := 13) dX7_isAnyWord_9 (by decide) ?_
    exact r_iret hC hQ hlk hr (by rw [e5]; rfl) (by decide) (by decide) dX7_isAnyWord_13 ⟨_, rfl, rfl, ⟨(by omega), (by omega)⟩⟩
set_option maxHeartbeats 4000000 in
set_option maxRecDepth 100000 in
theorem c_X7_isWhole (g : GG) (l : Launch) (K len : Nat → Nat) (I : Nat → Nat → Int32) (J : Nat → Nat → Int64) (R : Nat → Nat → Option Nat) (hs : Sf K len I R) (a0 : Nat) (ka0 : K a0 = 8) : Ct g l yX7_isWhole cX7_isWhole 1 (Option.some Jvm.ClassFile.FieldType.boolean) rmX7_isWhole [.ref a0] (K, len, I, J, R) (pI0 (K, len, I, J, R) (fun r => (0 ≤ r.toInt) ∧ (r.toInt ≤ 1))) := by
  refine Ct_intro (by decide +kernel) (Nat.le_of_ble_eq_true rfl) (fun X hC hL hKK hNm hr hlk hQ => ?_)
  subst hL
  have hC : Cx g X cX7_isWhole "HillTap$Tokens" 1 rmX7_isWhole := hC
  show P g X 1 0 [(0, .ref a0)] [] 0 0 (K, len, I, J, R)
  have hF : Fr K [] I I := Fr.refl
  refine r_aload_n hC dX7_isWhole_0 0 rfl ?_
  refine r_geti hC 3 (ci := 7) rfl u7_in (by decide) mT_1_62 dX7_isWhole_1 ka0 rfl rfl (fun x1_ e1 => ?_)
  refine r_iconst hC (v := (2)) dX7_isWhole_4 (by decide) (by decide) (fun x2_ e2 t2 => ?_)
  refine r_icmp_ne hC (tgt := 12) dX7_isWhole_5 (by decide) (fun c3 => ?_) (fun c3 => ?_)
  · refine r_iconst hC (v := (0)) dX7_isWhole_12 (by decide) (by decide) (fun x4_ e4 t4 => ?_)
    exact r_iret hC hQ hlk hr (by rw [e4]; rfl) (by decide) (by decide) dX7_isWhole_13 ⟨_, rfl, rfl, ⟨(by omega), (by omega)⟩⟩
  · refine r_iconst hC (v := (1)) dX7_isWhole_8 (by decide) (by decide) (fun x5_ e5 t5 => ?_)
    refine r_goto hC (tgt := 13) dX7_isWhole_9 (by decide) ?_
    exact r_iret hC hQ hlk hr (by rw [e5]; rfl) (by decide) (by decide) dX7_isWhole_13 ⟨_, rfl, rfl, ⟨(by omega), (by omega)⟩⟩
set_option maxHeartbeats 4000000 in
set_option maxRecDepth 100000 in
theorem c_X7_isSemicolon (g : GG) (l : Launch) (K len : Nat → Nat) (I : Nat → Nat → Int32) (J : Nat → Nat → Int64) (R : Nat → Nat → Option Nat) (hs : Sf K len I R) (a0 : Nat) (ka0 : K a0 = 8) : Ct g l yX7_isSemicolon cX7_isSemicolon 1 (Option.some Jvm.ClassFile.FieldType.boolean) rmX7_isSemicolon [.ref a0] (K, len, I, J, R) (pI0 (K, len, I, J, R) (fun r => (0 ≤ r.toInt) ∧ (r.toInt ≤ 1))) := by
  refine Ct_intro (by decide +kernel) (Nat.le_of_ble_eq_true rfl) (fun X hC hL hKK hNm hr hlk hQ => ?_)
  subst hL
  have hC : Cx g X cX7_isSemicolon "HillTap$Tokens" 1 rmX7_isSemicolon := hC
  show P g X 1 0 [(0, .ref a0)] [] 0 0 (K, len, I, J, R)
  have hF : Fr K [] I I := Fr.refl
  refine r_aload_n hC dX7_isSemicolon_0 0 rfl ?_
  refine r_geti hC 3 (ci := 7) rfl u7_in (by decide) mT_1_62 dX7_isSemicolon_1 ka0 rfl rfl (fun x1_ e1 => ?_)
  refine r_iconst hC (v := (3)) dX7_isSemicolon_4 (by decide) (by decide) (fun x2_ e2 t2 => ?_)
  refine r_icmp_ne hC (tgt := 12) dX7_isSemicolon_5 (by decide) (fun c3 => ?_) (fun c3 => ?_)
  · refine r_iconst hC (v := (0)) dX7_isSemicolon_12 (by decide) (by decide) (fun x4_ e4 t4 => ?_)
    exact r_iret hC hQ hlk hr (by rw [e4]; rfl) (by decide) (by decide) dX7_isSemicolon_13 ⟨_, rfl, rfl, ⟨(by omega), (by omega)⟩⟩
  · refine r_iconst hC (v := (1)) dX7_isSemicolon_8 (by decide) (by decide) (fun x5_ e5 t5 => ?_)
    refine r_goto hC (tgt := 13) dX7_isSemicolon_9 (by decide) ?_
    exact r_iret hC hQ hlk hr (by rw [e5]; rfl) (by decide) (by decide) dX7_isSemicolon_13 ⟨_, rfl, rfl, ⟨(by omega), (by omega)⟩⟩
set_option maxHeartbeats 4000000 in
set_option maxRecDepth 100000 in
theorem c_X7_takeLetters (g : GG) (l : Launch) (K len : Nat → Nat) (I : Nat → Nat → Int32) (J : Nat → Nat → Int64) (R : Nat → Nat → Option Nat) (hs : Sf K len I R) (a0 : Nat) (ka0 : K a0 = 8) : Ct g l yX7_takeLetters cX7_takeLetters 2 (Option.none : Option Jvm.ClassFile.FieldType) rmX7_takeLetters [.ref a0] (K, len, I, J, R) (pV2 (K, len, I, J, R) (fun I' J' => Sf K len I' R ∧ Fr K [(8, 2), (8, 3)] I I' ∧ Fr K [(8, 5)] J J')) := by
  refine Ct_intro (by decide +kernel) (Nat.le_of_ble_eq_true rfl) (fun X hC hL hKK hNm hr hlk hQ => ?_)
  subst hL
  have hC : Cx g X cX7_takeLetters "HillTap$Tokens" 2 rmX7_takeLetters := hC
  show P g X 2 0 [(0, .ref a0)] [] 0 0 (K, len, I, J, R)
  have hF : Fr K [(8, 2), (8, 3)] I I := Fr.refl
  have hFJ : Fr K [(8, 5)] J J := Fr.refl
  refine r_aload_n hC dX7_takeLetters_0 0 rfl ?_
  refine r_geti hC 4 (ci := 7) rfl u7_in (by decide) mT_1_63 dX7_takeLetters_1 ka0 rfl rfl (fun x1_ e1 => ?_)
  have r1 := hs.rng ka0 rfl e1
  have f1 : x1_.toInt = (I a0 4).toInt := by rw [e1]
  refine r_istore_n hC (lv' := [(1, .int x1_), (0, .ref a0)]) dX7_takeLetters_4 (by decide) rfl ?_
  have LP2 : ∀ (mu : Nat) (x2_1 : Int32) (I2 : Nat → Nat → Int32) (J2 : Nat → Nat → Int64) (hs2 : Sf K len I2 R) (hF2 : Fr K [(8, 2), (8, 3)] I I2) (hFJ2 : Fr K [(8, 5)] J J2) (v2_0 : 0 ≤ x2_1.toInt) (v2_1 : x2_1.toInt ≤ 900), (900 - x2_1.toInt).toNat = mu → P g X 2 5 [(0, .ref a0), (1, .int x2_1)] [] 0 0 (K, len, I2, J2, R) := by
    intro mu; induction mu using Nat.strongRecOn with | ind mu ih => ?_
    intro x2_1 I2 J2 hs2 hF2 hFJ2 v2_0 v2_1 hmu
    have ih2 := ih
    clear ih
    have hmu2 := hmu
    clear hmu
    refine r_iload_n hC dX7_takeLetters_5 1 rfl ?_
    refine r_aload_n hC dX7_takeLetters_6 0 rfl ?_
    refine r_geti hC 1 (ci := 7) rfl u7_in (by decide) mT_1_60 dX7_takeLetters_7 ka0 rfl rfl (fun x3_ e3 => ?_)
    have r3 := hs2.rng ka0 rfl e3
    have f3 : x3_.toInt = (I2 a0 1).toInt := by rw [e3]
    refine r_icmp_ge hC (tgt := 80) dX7_takeLetters_10 (by decide) (fun c4 => ?_) (fun c4 => ?_)
    · refine r_aload_n hC dX7_takeLetters_80 0 rfl ?_
      refine r_aload_n hC dX7_takeLetters_81 0 rfl ?_
      refine r_geti hC 2 (ci := 7) rfl u7_in (by decide) mT_1_61 dX7_takeLetters_82 ka0 rfl rfl (fun x5_ e5 => ?_)
      have r5 := hs2.rng ka0 rfl e5
      have f5 : x5_.toInt = (I2 a0 2).toInt := by rw [e5]
      refine r_aload_n hC dX7_takeLetters_85 0 rfl ?_
      refine r_geti hC 4 (ci := 7) rfl u7_in (by decide) mT_1_63 dX7_takeLetters_86 ka0 rfl rfl (fun x6_ e6 => ?_)
      have r6 := hs2.rng ka0 rfl e6
      have f6 : x6_.toInt = (I2 a0 4).toInt := by rw [e6]
      have w6 : x6_ = x1_ := by rw [e6]; exact (Eq.trans (hF2.get ka0 rfl) e1.symm)
      have wt6 : x6_.toInt = x1_.toInt := by rw [w6]
      refine r_isub hC dX7_takeLetters_89 (fun x7_ e7 => ?_)
      try have t7 : x7_.toInt = x5_.toInt - x6_.toInt := by rw [e7]; exact ti_sub (by omega) (by omega)
      refine r_bipush hC (v := (8)) dX7_takeLetters_90 (by decide) (by decide) (fun x8_ e8 t8 => ?_)
      refine r_icmp_gt hC (tgt := 99) dX7_takeLetters_92 (by decide) (fun c9 => ?_) (fun c9 => ?_)
      · refine r_iconst hC (v := (4)) dX7_takeLetters_99 (by decide) (by decide) (fun x10_ e10 t10 => ?_)
        refine r_puti hC 3 (ci := 7) rfl u7_in tyX7_ok nmX7 (by decide) mT_1_62 rfl rfl rfl dX7_takeLetters_100 ka0 rfl rfl (fun I11 eI11 => ?_)
        have hs11 := hs2.put0 eI11 ka0 rfl rfl rfl (by decide)
        have hF11 := hF2.put eI11 ka0 rfl
        exact r_vret hC hQ hlk hr (by decide) (by decide) dX7_takeLetters_103 ⟨_, _, rfl, rfl, ⟨hs11, hF11, hFJ2⟩⟩
      · refine r_iconst hC (v := (1)) dX7_takeLetters_95 (by decide) (by decide) (fun x12_ e12 t12 => ?_)
        refine r_goto hC (tgt := 100) dX7_takeLetters_96 (by decide) ?_
        refine r_puti hC 3 (ci := 7) rfl u7_in tyX7_ok nmX7 (by decide) mT_1_62 rfl rfl rfl dX7_takeLetters_100 ka0 rfl rfl (fun I13 eI13 => ?_)
        have hs13 := hs2.put0 eI13 ka0 rfl rfl rfl (by decide)
        have hF13 := hF2.put eI13 ka0 rfl
        exact r_vret hC hQ hlk hr (by decide) (by decide) dX7_takeLetters_103 ⟨_, _, rfl, rfl, ⟨hs13, hF13, hFJ2⟩⟩
    · refine r_aload_n hC dX7_takeLetters_13 0 rfl ?_
      obtain ⟨a14_, hb14, hk14⟩ := hs2.obj ka0 0 6 (by decide)
      refine r_getr hC 0 (ci := 7) rfl u7_in (by decide) mT_1_59 dX7_takeLetters_14 ka0 rfl rfl hb14 ?_
      obtain ⟨a15_, hb15, hk15, hn15⟩ := hs2.row hk14 0 40 900 (by decide) (by decide)
      refine r_getr hC 0 (ci := 5) rfl u5_in (by decide) mT_1_37 dX7_takeLetters_17 hk14 rfl rfl hb15 ?_
      refine r_iload_n hC dX7_takeLetters_20 1 rfl ?_
      refine x_baload hC hk15 hn15 (by decide) rfl rfl dX7_takeLetters_21 (by omega) (by omega) (fun x16_ e16 => ?_)
      refine r_bipush hC (v := (97)) dX7_takeLetters_22 (by decide) (by decide) (fun x17_ e17 t17 => ?_)
      refine r_icmp_lt hC (tgt := 80) dX7_takeLetters_24 (by decide) (fun c18 => ?_) (fun c18 => ?_)
      · refine r_aload_n hC dX7_takeLetters_80 0 rfl ?_
        refine r_aload_n hC dX7_takeLetters_81 0 rfl ?_
        refine r_geti hC 2 (ci := 7) rfl u7_in (by decide) mT_1_61 dX7_takeLetters_82 ka0 rfl rfl (fun x19_ e19 => ?_)
        have r19 := hs2.rng ka0 rfl e19
        have f19 : x19_.toInt = (I2 a0 2).toInt := by rw [e19]
        refine r_aload_n hC dX7_takeLetters_85 0 rfl ?_
        refine r_geti hC 4 (ci := 7) rfl u7_in (by decide) mT_1_63 dX7_takeLetters_86 ka0 rfl rfl (fun x20_ e20 => ?_)
        have r20 := hs2.rng ka0 rfl e20
        have f20 : x20_.toInt = (I2 a0 4).toInt := by rw [e20]
        have w20 : x20_ = x1_ := by rw [e20]; exact (Eq.trans (hF2.get ka0 rfl) e1.symm)
        have wt20 : x20_.toInt = x1_.toInt := by rw [w20]
        refine r_isub hC dX7_takeLetters_89 (fun x21_ e21 => ?_)
        try have t21 : x21_.toInt = x19_.toInt - x20_.toInt := by rw [e21]; exact ti_sub (by omega) (by omega)
        refine r_bipush hC (v := (8)) dX7_takeLetters_90 (by decide) (by decide) (fun x22_ e22 t22 => ?_)
        refine r_icmp_gt hC (tgt := 99) dX7_takeLetters_92 (by decide) (fun c23 => ?_) (fun c23 => ?_)
        · refine r_iconst hC (v := (4)) dX7_takeLetters_99 (by decide) (by decide) (fun x24_ e24 t24 => ?_)
          refine r_puti hC 3 (ci := 7) rfl u7_in tyX7_ok nmX7 (by decide) mT_1_62 rfl rfl rfl dX7_takeLetters_100 ka0 rfl rfl (fun I25 eI25 => ?_)
          have hs25 := hs2.put0 eI25 ka0 rfl rfl rfl (by decide)
          have hF25 := hF2.put eI25 ka0 rfl
          exact r_vret hC hQ hlk hr (by decide) (by decide) dX7_takeLetters_103 ⟨_, _, rfl, rfl, ⟨hs25, hF25, hFJ2⟩⟩
        · refine r_iconst hC (v := (1)) dX7_takeLetters_95 (by decide) (by decide) (fun x26_ e26 t26 => ?_)
          refine r_goto hC (tgt := 100) dX7_takeLetters_96 (by decide) ?_
          refine r_puti hC 3 (ci := 7) rfl u7_in tyX7_ok nmX7 (by decide) mT_1_62 rfl rfl rfl dX7_takeLetters_100 ka0 rfl rfl (fun I27 eI27 => ?_)
          have hs27 := hs2.put0 eI27 ka0 rfl rfl rfl (by decide)
          have hF27 := hF2.put eI27 ka0 rfl
          exact r_vret hC hQ hlk hr (by decide) (by decide) dX7_takeLetters_103 ⟨_, _, rfl, rfl, ⟨hs27, hF27, hFJ2⟩⟩
      · refine r_aload_n hC dX7_takeLetters_27 0 rfl ?_
        refine r_getr hC 0 (ci := 7) rfl u7_in (by decide) mT_1_59 dX7_takeLetters_28 ka0 rfl rfl hb14 ?_
        refine r_getr hC 0 (ci := 5) rfl u5_in (by decide) mT_1_37 dX7_takeLetters_31 hk14 rfl rfl hb15 ?_
        refine r_iload_n hC dX7_takeLetters_34 1 rfl ?_
        refine x_baload hC hk15 hn15 (by decide) rfl rfl dX7_takeLetters_35 (by omega) (by omega) (fun x28_ e28 => ?_)
        refine r_bipush hC (v := (122)) dX7_takeLetters_36 (by decide) (by decide) (fun x29_ e29 t29 => ?_)
        refine r_icmp_gt hC (tgt := 80) dX7_takeLetters_38 (by decide) (fun c30 => ?_) (fun c30 => ?_)
        · refine r_aload_n hC dX7_takeLetters_80 0 rfl ?_
          refine r_aload_n hC dX7_takeLetters_81 0 rfl ?_
          refine r_geti hC 2 (ci := 7) rfl u7_in (by decide) mT_1_61 dX7_takeLetters_82 ka0 rfl rfl (fun x31_ e31 => ?_)
          have r31 := hs2.rng ka0 rfl e31
          have f31 : x31_.toInt = (I2 a0 2).toInt := by rw [e31]
          refine r_aload_n hC dX7_takeLetters_85 0 rfl ?_
          refine r_geti hC 4 (ci := 7) rfl u7_in (by decide) mT_1_63 dX7_takeLetters_86 ka0 rfl rfl (fun x32_ e32 => ?_)
          have r32 := hs2.rng ka0 rfl e32
          have f32 : x32_.toInt = (I2 a0 4).toInt := by rw [e32]
          have w32 : x32_ = x1_ := by rw [e32]; exact (Eq.trans (hF2.get ka0 rfl) e1.symm)
          have wt32 : x32_.toInt = x1_.toInt := by rw [w32]
          refine r_isub hC dX7_takeLetters_89 (fun x33_ e33 => ?_)
          try have t33 : x33_.toInt = x31_.toInt - x32_.toInt := by rw [e33]; exact ti_sub (by omega) (by omega)
          refine r_bipush hC (v := (8)) dX7_takeLetters_90 (by decide) (by decide) (fun x34_ e34 t34 => ?_)
          refine r_icmp_gt hC (tgt := 99) dX7_takeLetters_92 (by decide) (fun c35 => ?_) (fun c35 => ?_)
          · refine r_iconst hC (v := (4)) dX7_takeLetters_99 (by decide) (by decide) (fun x36_ e36 t36 => ?_)
            refine r_puti hC 3 (ci := 7) rfl u7_in tyX7_ok nmX7 (by decide) mT_1_62 rfl rfl rfl dX7_takeLetters_100 ka0 rfl rfl (fun I37 eI37 => ?_)
            have hs37 := hs2.put0 eI37 ka0 rfl rfl rfl (by decide)
            have hF37 := hF2.put eI37 ka0 rfl
            exact r_vret hC hQ hlk hr (by decide) (by decide) dX7_takeLetters_103 ⟨_, _, rfl, rfl, ⟨hs37, hF37, hFJ2⟩⟩
          · refine r_iconst hC (v := (1)) dX7_takeLetters_95 (by decide) (by decide) (fun x38_ e38 t38 => ?_)
            refine r_goto hC (tgt := 100) dX7_takeLetters_96 (by decide) ?_
            refine r_puti hC 3 (ci := 7) rfl u7_in tyX7_ok nmX7 (by decide) mT_1_62 rfl rfl rfl dX7_takeLetters_100 ka0 rfl rfl (fun I39 eI39 => ?_)
            have hs39 := hs2.put0 eI39 ka0 rfl rfl rfl (by decide)
            have hF39 := hF2.put eI39 ka0 rfl
            exact r_vret hC hQ hlk hr (by decide) (by decide) dX7_takeLetters_103 ⟨_, _, rfl, rfl, ⟨hs39, hF39, hFJ2⟩⟩
        · refine r_aload_n hC dX7_takeLetters_41 0 rfl ?_
          refine r_aload_n hC dX7_takeLetters_42 0 rfl ?_
          refine r_getj hC 5 (ci := 7) rfl u7_in (by decide) mT_1_65 dX7_takeLetters_43 ka0 rfl rfl (fun y40_ e40 => ?_)
          refine r_iconst hC (v := (5)) dX7_takeLetters_46 (by decide) (by decide) (fun x41_ e41 t41 => ?_)
          refine r_lshl hC dX7_takeLetters_47 (fun y42_ e42 => ?_)
          refine r_aload_n hC dX7_takeLetters_48 0 rfl ?_
          refine r_getr hC 0 (ci := 7) rfl u7_in (by decide) mT_1_59 dX7_takeLetters_49 ka0 rfl rfl hb14 ?_
          refine r_getr hC 0 (ci := 5) rfl u5_in (by decide) mT_1_37 dX7_takeLetters_52 hk14 rfl rfl hb15 ?_
          refine r_iload_n hC dX7_takeLetters_55 1 rfl ?_
          refine x_baload hC hk15 hn15 (by decide) rfl rfl dX7_takeLetters_56 (by omega) (by omega) (fun x43_ e43 => ?_)
          refine r_bipush hC (v := (97)) dX7_takeLetters_57 (by decide) (by decide) (fun x44_ e44 t44 => ?_)
          refine r_isub hC dX7_takeLetters_59 (fun x45_ e45 => ?_)
          try have t45 : x45_.toInt = x43_.toInt - x44_.toInt := by rw [e45]; exact ti_sub (by omega) (by omega)
          refine r_iconst hC (v := (1)) dX7_takeLetters_60 (by decide) (by decide) (fun x46_ e46 t46 => ?_)
          refine r_iadd hC dX7_takeLetters_61 (fun x47_ e47 => ?_)
          try have t47 : x47_.toInt = x45_.toInt + x46_.toInt := by rw [e47]; exact ti_add (by omega) (by omega)
          refine r_i2l hC dX7_takeLetters_62 (fun y48_ e48 => ?_)
          refine r_lor hC dX7_takeLetters_63 (fun y49_ e49 => ?_)
          refine r_putj hC 5 (ci := 7) rfl u7_in tyX7_ok nmX7 (by decide) mT_1_65 rfl rfl rfl dX7_takeLetters_64 ka0 rfl rfl (fun J50 eJ50 => ?_)
          have hFJ50 := hFJ2.put eJ50 ka0 rfl
          refine r_aload_n hC dX7_takeLetters_67 0 rfl ?_
          refine r_iload_n hC dX7_takeLetters_68 1 rfl ?_
          refine r_iconst hC (v := (1)) dX7_takeLetters_69 (by decide) (by decide) (fun x51_ e51 t51 => ?_)
          refine r_iadd hC dX7_takeLetters_70 (fun x52_ e52 => ?_)
          try have t52 : x52_.toInt = x2_1.toInt + x51_.toInt := by rw [e52]; exact ti_add (by omega) (by omega)
          refine r_puti hC 2 (ci := 7) rfl u7_in tyX7_ok nmX7 (by decide) mT_1_61 rfl rfl rfl dX7_takeLetters_71 ka0 rfl rfl (fun I53 eI53 => ?_)
          have hs53 := hs2.put1 eI53 ka0 rfl (by omega) (by omega) rfl rfl (by decide)
          have hF53 := hF2.put eI53 ka0 rfl
          obtain ⟨x54_, e54⟩ : ∃ z : Int32, z = x2_1 + Int32.ofInt (1) := ⟨_, rfl⟩
          refine r_iinc hC (j := 1) (v := x54_) (lv' := [(1, .int x54_), (0, .ref a0)]) dX7_takeLetters_74 rfl (by rw [e54]) (by decide) rfl ?_
          try have t54 : x54_.toInt = x2_1.toInt + (1) := by rw [e54]; exact (ti_add (b := Int32.ofInt (1)) (by show _ ≤ _ + (1 : Int); omega) (by show _ + (1 : Int) ≤ _; omega))
          refine r_goto hC (tgt := 5) dX7_takeLetters_77 (by decide) ?_
          refine r_sub [1, 0] rfl ?_
          exact ih2 ((900 - x54_.toInt).toNat) (by omega) x54_ I53 J50 hs53 hF53 hFJ50 (by omega) (by omega) rfl
  refine r_sub [1, 0] rfl ?_
  exact LP2 _ x1_ I J hs hF hFJ (by omega) (by omega) rfl
set_option maxHeartbeats 4000000 in
set_option maxRecDepth 100000 in
theorem c_X7_takeDigits (g : GG) (l : Launch) (K len : Nat → Nat) (I : Nat → Nat → Int32) (J : Nat → Nat → Int64) (R : Nat → Nat → Option Nat) (hs : Sf K len I R) (a0 : Nat) (ka0 : K a0 = 8) : Ct g l yX7_takeDigits cX7_takeDigits 2 (Option.none : Option Jvm.ClassFile.FieldType) rmX7_takeDigits [.ref a0] (K, len, I, J, R) (pV2 (K, len, I, J, R) (fun I' J' => Sf K len I' R ∧ Fr K [(8, 2), (8, 3)] I I' ∧ Fr K [(8, 5)] J J')) := by
  refine Ct_intro (by decide +kernel) (Nat.le_of_ble_eq_true rfl) (fun X hC hL hKK hNm hr hlk hQ => ?_)
  subst hL
  have hC : Cx g X cX7_takeDigits "HillTap$Tokens" 2 rmX7_takeDigits := hC
  show P g X 2 0 [(0, .ref a0)] [] 0 0 (K, len, I, J, R)
  have hF : Fr K [(8, 2), (8, 3)] I I := Fr.refl
  have hFJ : Fr K [(8, 5)] J J := Fr.refl
  refine r_aload_n hC dX7_takeDigits_0 0 rfl ?_
  refine r_geti hC 4 (ci := 7) rfl u7_in (by decide) mT_1_63 dX7_takeDigits_1 ka0 rfl rfl (fun x1_ e1 => ?_)
  have r1 := hs.rng ka0 rfl e1
  have f1 : x1_.toInt = (I a0 4).toInt := by rw [e1]
  refine r_istore_n hC (lv' := [(1, .int x1_), (0, .ref a0)]) dX7_takeDigits_4 (by decide) rfl ?_
  have LP2 : ∀ (mu : Nat) (x2_1 : Int32) (I2 : Nat → Nat → Int32) (J2 : Nat → Nat → Int64) (hs2 : Sf K len I2 R) (hF2 : Fr K [(8, 2), (8, 3)] I I2) (hFJ2 : Fr K [(8, 5)] J J2) (v2_0 : 0 ≤ x2_1.toInt) (v2_1 : x2_1.toInt ≤ 900), (900 - x2_1.toInt).toNat = mu → P g X 2 5 [(0, .ref a0), (1, .int x2_1)] [] 0 0 (K, len, I2, J2, R) := by
    intro mu; induction mu using Nat.strongRecOn with | ind mu ih => ?_
    intro x2_1 I2 J2 hs2 hF2 hFJ2 v2_0 v2_1 hmu
    have ih2 := ih
    clear ih
    have hmu2 := hmu
    clear hmu
    refine r_iload_n hC dX7_takeDigits_5 1 rfl ?_
    refine r_aload_n hC dX7_takeDigits_6 0 rfl ?_
    refine r_geti hC 1 (ci := 7) rfl u7_in (by decide) mT_1_60 dX7_takeDigits_7 ka0 rfl rfl (fun x3_ e3 => ?_)
    have r3 := hs2.rng ka0 rfl e3
    have f3 : x3_.toInt = (I2 a0 1).toInt := by rw [e3]
    refine r_icmp_ge hC (tgt := 80) dX7_takeDigits_10 (by decide) (fun c4 => ?_) (fun c4 => ?_)
    · refine r_aload_n hC dX7_takeDigits_80 0 rfl ?_
      refine r_aload_n hC dX7_takeDigits_81 0 rfl ?_
      refine r_geti hC 2 (ci := 7) rfl u7_in (by decide) mT_1_61 dX7_takeDigits_82 ka0 rfl rfl (fun x5_ e5 => ?_)
      have r5 := hs2.rng ka0 rfl e5
      have f5 : x5_.toInt = (I2 a0 2).toInt := by rw [e5]
      refine r_aload_n hC dX7_takeDigits_85 0 rfl ?_
      refine r_geti hC 4 (ci := 7) rfl u7_in (by decide) mT_1_63 dX7_takeDigits_86 ka0 rfl rfl (fun x6_ e6 => ?_)
      have r6 := hs2.rng ka0 rfl e6
      have f6 : x6_.toInt = (I2 a0 4).toInt := by rw [e6]
      have w6 : x6_ = x1_ := by rw [e6]; exact (Eq.trans (hF2.get ka0 rfl) e1.symm)
      have wt6 : x6_.toInt = x1_.toInt := by rw [w6]
      refine r_isub hC dX7_takeDigits_89 (fun x7_ e7 => ?_)
      try have t7 : x7_.toInt = x5_.toInt - x6_.toInt := by rw [e7]; exact ti_sub (by omega) (by omega)
      refine r_iconst hC (v := (3)) dX7_takeDigits_90 (by decide) (by decide) (fun x8_ e8 t8 => ?_)
      refine r_icmp_gt hC (tgt := 98) dX7_takeDigits_91 (by decide) (fun c9 => ?_) (fun c9 => ?_)
      · refine r_iconst hC (v := (4)) dX7_takeDigits_98 (by decide) (by decide) (fun x10_ e10 t10 => ?_)
        refine r_puti hC 3 (ci := 7) rfl u7_in tyX7_ok nmX7 (by decide) mT_1_62 rfl rfl rfl dX7_takeDigits_99 ka0 rfl rfl (fun I11 eI11 => ?_)
        have hs11 := hs2.put0 eI11 ka0 rfl rfl rfl (by decide)
        have hF11 := hF2.put eI11 ka0 rfl
        exact r_vret hC hQ hlk hr (by decide) (by decide) dX7_takeDigits_102 ⟨_, _, rfl, rfl, ⟨hs11, hF11, hFJ2⟩⟩
      · refine r_iconst hC (v := (2)) dX7_takeDigits_94 (by decide) (by decide) (fun x12_ e12 t12 => ?_)
        refine r_goto hC (tgt := 99) dX7_takeDigits_95 (by decide) ?_
        refine r_puti hC 3 (ci := 7) rfl u7_in tyX7_ok nmX7 (by decide) mT_1_62 rfl rfl rfl dX7_takeDigits_99 ka0 rfl rfl (fun I13 eI13 => ?_)
        have hs13 := hs2.put0 eI13 ka0 rfl rfl rfl (by decide)
        have hF13 := hF2.put eI13 ka0 rfl
        exact r_vret hC hQ hlk hr (by decide) (by decide) dX7_takeDigits_102 ⟨_, _, rfl, rfl, ⟨hs13, hF13, hFJ2⟩⟩
    · refine r_aload_n hC dX7_takeDigits_13 0 rfl ?_
      obtain ⟨a14_, hb14, hk14⟩ := hs2.obj ka0 0 6 (by decide)
      refine r_getr hC 0 (ci := 7) rfl u7_in (by decide) mT_1_59 dX7_takeDigits_14 ka0 rfl rfl hb14 ?_
      obtain ⟨a15_, hb15, hk15, hn15⟩ := hs2.row hk14 0 40 900 (by decide) (by decide)
      refine r_getr hC 0 (ci := 5) rfl u5_in (by decide) mT_1_37 dX7_takeDigits_17 hk14 rfl rfl hb15 ?_
      refine r_iload_n hC dX7_takeDigits_20 1 rfl ?_
      refine x_baload hC hk15 hn15 (by decide) rfl rfl dX7_takeDigits_21 (by omega) (by omega) (fun x16_ e16 => ?_)
      refine r_bipush hC (v := (48)) dX7_takeDigits_22 (by decide) (by decide) (fun x17_ e17 t17 => ?_)
      refine r_icmp_lt hC (tgt := 80) dX7_takeDigits_24 (by decide) (fun c18 => ?_) (fun c18 => ?_)
      · refine r_aload_n hC dX7_takeDigits_80 0 rfl ?_
        refine r_aload_n hC dX7_takeDigits_81 0 rfl ?_
        refine r_geti hC 2 (ci := 7) rfl u7_in (by decide) mT_1_61 dX7_takeDigits_82 ka0 rfl rfl (fun x19_ e19 => ?_)
        have r19 := hs2.rng ka0 rfl e19
        have f19 : x19_.toInt = (I2 a0 2).toInt := by rw [e19]
        refine r_aload_n hC dX7_takeDigits_85 0 rfl ?_
        refine r_geti hC 4 (ci := 7) rfl u7_in (by decide) mT_1_63 dX7_takeDigits_86 ka0 rfl rfl (fun x20_ e20 => ?_)
        have r20 := hs2.rng ka0 rfl e20
        have f20 : x20_.toInt = (I2 a0 4).toInt := by rw [e20]
        have w20 : x20_ = x1_ := by rw [e20]; exact (Eq.trans (hF2.get ka0 rfl) e1.symm)
        have wt20 : x20_.toInt = x1_.toInt := by rw [w20]
        refine r_isub hC dX7_takeDigits_89 (fun x21_ e21 => ?_)
        try have t21 : x21_.toInt = x19_.toInt - x20_.toInt := by rw [e21]; exact ti_sub (by omega) (by omega)
        refine r_iconst hC (v := (3)) dX7_takeDigits_90 (by decide) (by decide) (fun x22_ e22 t22 => ?_)
        refine r_icmp_gt hC (tgt := 98) dX7_takeDigits_91 (by decide) (fun c23 => ?_) (fun c23 => ?_)
        · refine r_iconst hC (v := (4)) dX7_takeDigits_98 (by decide) (by decide) (fun x24_ e24 t24 => ?_)
          refine r_puti hC 3 (ci := 7) rfl u7_in tyX7_ok nmX7 (by decide) mT_1_62 rfl rfl rfl dX7_takeDigits_99 ka0 rfl rfl (fun I25 eI25 => ?_)
          have hs25 := hs2.put0 eI25 ka0 rfl rfl rfl (by decide)
          have hF25 := hF2.put eI25 ka0 rfl
          exact r_vret hC hQ hlk hr (by decide) (by decide) dX7_takeDigits_102 ⟨_, _, rfl, rfl, ⟨hs25, hF25, hFJ2⟩⟩
        · refine r_iconst hC (v := (2)) dX7_takeDigits_94 (by decide) (by decide) (fun x26_ e26 t26 => ?_)
          refine r_goto hC (tgt := 99) dX7_takeDigits_95 (by decide) ?_
          refine r_puti hC 3 (ci := 7) rfl u7_in tyX7_ok nmX7 (by decide) mT_1_62 rfl rfl rfl dX7_takeDigits_99 ka0 rfl rfl (fun I27 eI27 => ?_)
          have hs27 := hs2.put0 eI27 ka0 rfl rfl rfl (by decide)
          have hF27 := hF2.put eI27 ka0 rfl
          exact r_vret hC hQ hlk hr (by decide) (by decide) dX7_takeDigits_102 ⟨_, _, rfl, rfl, ⟨hs27, hF27, hFJ2⟩⟩
      · refine r_aload_n hC dX7_takeDigits_27 0 rfl ?_
        refine r_getr hC 0 (ci := 7) rfl u7_in (by decide) mT_1_59 dX7_takeDigits_28 ka0 rfl rfl hb14 ?_
        refine r_getr hC 0 (ci := 5) rfl u5_in (by decide) mT_1_37 dX7_takeDigits_31 hk14 rfl rfl hb15 ?_
        refine r_iload_n hC dX7_takeDigits_34 1 rfl ?_
        refine x_baload hC hk15 hn15 (by decide) rfl rfl dX7_takeDigits_35 (by omega) (by omega) (fun x28_ e28 => ?_)
        refine r_bipush hC (v := (57)) dX7_takeDigits_36 (by decide) (by decide) (fun x29_ e29 t29 => ?_)
        refine r_icmp_gt hC (tgt := 80) dX7_takeDigits_38 (by decide) (fun c30 => ?_) (fun c30 => ?_)
        · refine r_aload_n hC dX7_takeDigits_80 0 rfl ?_
          refine r_aload_n hC dX7_takeDigits_81 0 rfl ?_
          refine r_geti hC 2 (ci := 7) rfl u7_in (by decide) mT_1_61 dX7_takeDigits_82 ka0 rfl rfl (fun x31_ e31 => ?_)
          have r31 := hs2.rng ka0 rfl e31
          have f31 : x31_.toInt = (I2 a0 2).toInt := by rw [e31]
          refine r_aload_n hC dX7_takeDigits_85 0 rfl ?_
          refine r_geti hC 4 (ci := 7) rfl u7_in (by decide) mT_1_63 dX7_takeDigits_86 ka0 rfl rfl (fun x32_ e32 => ?_)
          have r32 := hs2.rng ka0 rfl e32
          have f32 : x32_.toInt = (I2 a0 4).toInt := by rw [e32]
          have w32 : x32_ = x1_ := by rw [e32]; exact (Eq.trans (hF2.get ka0 rfl) e1.symm)
          have wt32 : x32_.toInt = x1_.toInt := by rw [w32]
          refine r_isub hC dX7_takeDigits_89 (fun x33_ e33 => ?_)
          try have t33 : x33_.toInt = x31_.toInt - x32_.toInt := by rw [e33]; exact ti_sub (by omega) (by omega)
          refine r_iconst hC (v := (3)) dX7_takeDigits_90 (by decide) (by decide) (fun x34_ e34 t34 => ?_)
          refine r_icmp_gt hC (tgt := 98) dX7_takeDigits_91 (by decide) (fun c35 => ?_) (fun c35 => ?_)
          · refine r_iconst hC (v := (4)) dX7_takeDigits_98 (by decide) (by decide) (fun x36_ e36 t36 => ?_)
            refine r_puti hC 3 (ci := 7) rfl u7_in tyX7_ok nmX7 (by decide) mT_1_62 rfl rfl rfl dX7_takeDigits_99 ka0 rfl rfl (fun I37 eI37 => ?_)
            have hs37 := hs2.put0 eI37 ka0 rfl rfl rfl (by decide)
            have hF37 := hF2.put eI37 ka0 rfl
            exact r_vret hC hQ hlk hr (by decide) (by decide) dX7_takeDigits_102 ⟨_, _, rfl, rfl, ⟨hs37, hF37, hFJ2⟩⟩
          · refine r_iconst hC (v := (2)) dX7_takeDigits_94 (by decide) (by decide) (fun x38_ e38 t38 => ?_)
            refine r_goto hC (tgt := 99) dX7_takeDigits_95 (by decide) ?_
            refine r_puti hC 3 (ci := 7) rfl u7_in tyX7_ok nmX7 (by decide) mT_1_62 rfl rfl rfl dX7_takeDigits_99 ka0 rfl rfl (fun I39 eI39 => ?_)
            have hs39 := hs2.put0 eI39 ka0 rfl rfl rfl (by decide)
            have hF39 := hF2.put eI39 ka0 rfl
            exact r_vret hC hQ hlk hr (by decide) (by decide) dX7_takeDigits_102 ⟨_, _, rfl, rfl, ⟨hs39, hF39, hFJ2⟩⟩
        · refine r_aload_n hC dX7_takeDigits_41 0 rfl ?_
          refine r_aload_n hC dX7_takeDigits_42 0 rfl ?_
          refine r_getj hC 5 (ci := 7) rfl u7_in (by decide) mT_1_65 dX7_takeDigits_43 ka0 rfl rfl (fun y40_ e40 => ?_)
          refine r_ldc2 hC mT_2_168 dX7_takeDigits_46 (fun y41_ e41 => ?_)
          refine r_lmul hC dX7_takeDigits_49 (fun y42_ e42 => ?_)
          refine r_aload_n hC dX7_takeDigits_50 0 rfl ?_
          refine r_getr hC 0 (ci := 7) rfl u7_in (by decide) mT_1_59 dX7_takeDigits_51 ka0 rfl rfl hb14 ?_
          refine r_getr hC 0 (ci := 5) rfl u5_in (by decide) mT_1_37 dX7_takeDigits_54 hk14 rfl rfl hb15 ?_
          refine r_iload_n hC dX7_takeDigits_57 1 rfl ?_
          refine x_baload hC hk15 hn15 (by decide) rfl rfl dX7_takeDigits_58 (by omega) (by omega) (fun x43_ e43 => ?_)
          refine r_bipush hC (v := (48)) dX7_takeDigits_59 (by decide) (by decide) (fun x44_ e44 t44 => ?_)
          refine r_isub hC dX7_takeDigits_61 (fun x45_ e45 => ?_)
          try have t45 : x45_.toInt = x43_.toInt - x44_.toInt := by rw [e45]; exact ti_sub (by omega) (by omega)
          refine r_i2l hC dX7_takeDigits_62 (fun y46_ e46 => ?_)
          refine r_ladd hC dX7_takeDigits_63 (fun y47_ e47 => ?_)
          refine r_putj hC 5 (ci := 7) rfl u7_in tyX7_ok nmX7 (by decide) mT_1_65 rfl rfl rfl dX7_takeDigits_64 ka0 rfl rfl (fun J48 eJ48 => ?_)
          have hFJ48 := hFJ2.put eJ48 ka0 rfl
          refine r_aload_n hC dX7_takeDigits_67 0 rfl ?_
          refine r_iload_n hC dX7_takeDigits_68 1 rfl ?_
          refine r_iconst hC (v := (1)) dX7_takeDigits_69 (by decide) (by decide) (fun x49_ e49 t49 => ?_)
          refine r_iadd hC dX7_takeDigits_70 (fun x50_ e50 => ?_)
          try have t50 : x50_.toInt = x2_1.toInt + x49_.toInt := by rw [e50]; exact ti_add (by omega) (by omega)
          refine r_puti hC 2 (ci := 7) rfl u7_in tyX7_ok nmX7 (by decide) mT_1_61 rfl rfl rfl dX7_takeDigits_71 ka0 rfl rfl (fun I51 eI51 => ?_)
          have hs51 := hs2.put1 eI51 ka0 rfl (by omega) (by omega) rfl rfl (by decide)
          have hF51 := hF2.put eI51 ka0 rfl
          obtain ⟨x52_, e52⟩ : ∃ z : Int32, z = x2_1 + Int32.ofInt (1) := ⟨_, rfl⟩
          refine r_iinc hC (j := 1) (v := x52_) (lv' := [(1, .int x52_), (0, .ref a0)]) dX7_takeDigits_74 rfl (by rw [e52]) (by decide) rfl ?_
          try have t52 : x52_.toInt = x2_1.toInt + (1) := by rw [e52]; exact (ti_add (b := Int32.ofInt (1)) (by show _ ≤ _ + (1 : Int); omega) (by show _ + (1 : Int) ≤ _; omega))
          refine r_goto hC (tgt := 5) dX7_takeDigits_77 (by decide) ?_
          refine r_sub [1, 0] rfl ?_
          exact ih2 ((900 - x52_.toInt).toNat) (by omega) x52_ I51 J48 hs51 hF51 hFJ48 (by omega) (by omega) rfl
  refine r_sub [1, 0] rfl ?_
  exact LP2 _ x1_ I J hs hF hFJ (by omega) (by omega) rfl
set_option maxHeartbeats 4000000 in
set_option maxRecDepth 100000 in
theorem c_X7_next (g : GG) (l : Launch) (K len : Nat → Nat) (I : Nat → Nat → Int32) (J : Nat → Nat → Int64) (R : Nat → Nat → Option Nat) (hs : Sf K len I R) (a0 : Nat) (ka0 : K a0 = 8) : Ct g l yX7_next cX7_next 2 (Option.none : Option Jvm.ClassFile.FieldType) rmX7_next [.ref a0] (K, len, I, J, R) (pV2 (K, len, I, J, R) (fun I' J' => Sf K len I' R ∧ Fr K [(8, 2), (8, 3), (8, 4)] I I' ∧ Fr K [(8, 5)] J J')) := by
  refine Ct_intro (by decide +kernel) (Nat.le_of_ble_eq_true rfl) (fun X hC hL hKK hNm hr hlk hQ => ?_)
  subst hL
  have hC : Cx g X cX7_next "HillTap$Tokens" 2 rmX7_next := hC
  show P g X 2 0 [(0, .ref a0)] [] 0 0 (K, len, I, J, R)
  have hF : Fr K [(8, 2), (8, 3), (8, 4)] I I := Fr.refl
  have hFJ : Fr K [(8, 5)] J J := Fr.refl
  refine r_aload_n hC dX7_next_0 0 rfl ?_
  refine r_aload_n hC dX7_next_1 0 rfl ?_
  refine r_geti hC 1 (ci := 7) rfl u7_in (by decide) mT_1_60 dX7_next_2 ka0 rfl rfl (fun x1_ e1 => ?_)
  have r1 := hs.rng ka0 rfl e1
  have f1 : x1_.toInt = (I a0 1).toInt := by rw [e1]
  refine r_puti hC 4 (ci := 7) rfl u7_in tyX7_ok nmX7 (by decide) mT_1_63 rfl rfl rfl dX7_next_5 ka0 rfl rfl (fun I2 eI2 => ?_)
  have hs2 := hs.put1 eI2 ka0 rfl (by omega) (by omega) rfl rfl (by decide)
  have hF2 := hF.put eI2 ka0 rfl
  refine r_aload_n hC dX7_next_8 0 rfl ?_
  refine r_geti hC 2 (ci := 7) rfl u7_in (by decide) mT_1_61 dX7_next_9 ka0 rfl rfl (fun x3_ e3 => ?_)
  have r3 := hs2.rng ka0 rfl e3
  have f3 : x3_.toInt = (I2 a0 2).toInt := by rw [e3]
  refine r_istore_n hC (lv' := [(1, .int x3_), (0, .ref a0)]) dX7_next_12 (by decide) rfl ?_
  have LP4 : ∀ (mu : Nat) (x4_1 : Int32) (I4 : Nat → Nat → Int32) (hs4 : Sf K len I4 R) (hF4 : Fr K [(8, 2), (8, 3), (8, 4)] I I4) (v4_0 : 0 ≤ x4_1.toInt) (v4_1 : x4_1.toInt ≤ 900), (900 - x4_1.toInt).toNat = mu → P g X 2 13 [(0, .ref a0), (1, .int x4_1)] [] 0 0 (K, len, I4, J, R) := by
    intro mu; induction mu using Nat.strongRecOn with | ind mu ih => ?_
    intro x4_1 I4 hs4 hF4 v4_0 v4_1 hmu
    have ih4 := ih
    clear ih
    have hmu4 := hmu
    clear hmu
    refine r_iload_n hC dX7_next_13 1 rfl ?_
    refine r_aload_n hC dX7_next_14 0 rfl ?_
    refine r_geti hC 1 (ci := 7) rfl u7_in (by decide) mT_1_60 dX7_next_15 ka0 rfl rfl (fun x5_ e5 => ?_)
    have r5 := hs4.rng ka0 rfl e5
    have f5 : x5_.toInt = (I4 a0 1).toInt := by rw [e5]
    have w5 : x5_ = x1_ := by rw [e5]; exact (Eq.trans (hF4.get ka0 rfl) e1.symm)
    have wt5 : x5_.toInt = x1_.toInt := by rw [w5]
    refine r_icmp_ge hC (tgt := 57) dX7_next_18 (by decide) (fun c6 => ?_) (fun c6 => ?_)
    · refine r_aload_n hC dX7_next_57 0 rfl ?_
      refine r_aload_n hC dX7_next_58 0 rfl ?_
      refine r_geti hC 4 (ci := 7) rfl u7_in (by decide) mT_1_63 dX7_next_59 ka0 rfl rfl (fun x7_ e7 => ?_)
      have r7 := hs4.rng ka0 rfl e7
      have f7 : x7_.toInt = (I4 a0 4).toInt := by rw [e7]
      refine r_puti hC 2 (ci := 7) rfl u7_in tyX7_ok nmX7 (by decide) mT_1_61 rfl rfl rfl dX7_next_62 ka0 rfl rfl (fun I8 eI8 => ?_)
      have hs8 := hs4.put1 eI8 ka0 rfl (by omega) (by omega) rfl rfl (by decide)
      have hF8 := hF4.put eI8 ka0 rfl
      refine r_aload_n hC dX7_next_65 0 rfl ?_
      refine r_lconst hC (v := 0) dX7_next_66 (by decide) (fun y9_ e9 => ?_)
      refine r_putj hC 5 (ci := 7) rfl u7_in tyX7_ok nmX7 (by decide) mT_1_65 rfl rfl rfl dX7_next_67 ka0 rfl rfl (fun J10 eJ10 => ?_)
      have hFJ10 := hFJ.put eJ10 ka0 rfl
      refine r_aload_n hC dX7_next_70 0 rfl ?_
      refine r_geti hC 4 (ci := 7) rfl u7_in (by decide) mT_1_63 dX7_next_71 ka0 rfl rfl (fun x11_ e11 => ?_)
      have r11 := hs8.rng ka0 rfl e11
      have f11 : x11_.toInt = (I8 a0 4).toInt := by rw [e11]
      have w11 : x11_ = x7_ := by rw [e11]; exact (Eq.trans (up2_at (Or.inr (by decide)) eI8) e7.symm)
      have wt11 : x11_.toInt = x7_.toInt := by rw [w11]
      refine r_aload_n hC dX7_next_74 0 rfl ?_
      refine r_geti hC 1 (ci := 7) rfl u7_in (by decide) mT_1_60 dX7_next_75 ka0 rfl rfl (fun x12_ e12 => ?_)
      have r12 := hs8.rng ka0 rfl e12
      have f12 : x12_.toInt = (I8 a0 1).toInt := by rw [e12]
      have w12 : x12_ = x5_ := by rw [e12]; exact (Eq.trans (up2_at (Or.inr (by decide)) eI8) e5.symm)
      have wt12 : x12_.toInt = x5_.toInt := by rw [w12]
      refine r_icmp_ge hC (tgt := 96) dX7_next_78 (by decide) (fun c13 => ?_) (fun c13 => ?_)
      · refine r_iconst hC (v := (-1)) dX7_next_96 (by decide) (by decide) (fun x14_ e14 t14 => ?_)
        refine r_istore_n hC (lv' := [(1, .int x14_), (0, .ref a0)]) dX7_next_97 (by decide) rfl ?_
        refine r_aload_n hC dX7_next_98 1 rfl ?_
        refine r_geti hC 4 (ci := 7) rfl u7_in (by decide) mT_1_63 dX7_next_99 ka0 rfl rfl (fun x15_ e15 => ?_)
        have r15 := hs8.rng ka0 rfl e15
        have f15 : x15_.toInt = (I8 a0 4).toInt := by rw [e15]
        have w15 : x15_ = x11_ := by rw [e15]; exact e11.symm
        have wt15 : x15_.toInt = x11_.toInt := by rw [w15]
        refine r_aload_n hC dX7_next_102 1 rfl ?_
        refine r_geti hC 1 (ci := 7) rfl u7_in (by decide) mT_1_60 dX7_next_103 ka0 rfl rfl (fun x16_ e16 => ?_)
        have r16 := hs8.rng ka0 rfl e16
        have f16 : x16_.toInt = (I8 a0 1).toInt := by rw [e16]
        have w16 : x16_ = x12_ := by rw [e16]; exact e12.symm
        have wt16 : x16_.toInt = x12_.toInt := by rw [w16]
        refine r_icmp_lt hC (tgt := 117) dX7_next_106 (by decide) (fun c17 => ?_) (fun c17 => ?_)
        · refine r_iload_n hC dX7_next_117 0 rfl ?_
          refine r_bipush hC (v := (97)) dX7_next_118 (by decide) (by decide) (fun x18_ e18 t18 => ?_)
          refine r_icmp_lt hC (tgt := 136) dX7_next_120 (by decide) (fun c19 => ?_) (fun c19 => ?_)
          rotate_left
          · exfalso; omega
          refine r_iload_n hC dX7_next_136 0 rfl ?_
          refine r_bipush hC (v := (48)) dX7_next_137 (by decide) (by decide) (fun x20_ e20 t20 => ?_)
          refine r_icmp_lt hC (tgt := 155) dX7_next_139 (by decide) (fun c21 => ?_) (fun c21 => ?_)
          rotate_left
          · exfalso; omega
          refine r_aload_n hC dX7_next_155 1 rfl ?_
          refine r_iload_n hC dX7_next_156 0 rfl ?_
          refine r_bipush hC (v := (59)) dX7_next_157 (by decide) (by decide) (fun x22_ e22 t22 => ?_)
          refine r_icmp_ne hC (tgt := 166) dX7_next_159 (by decide) (fun c23 => ?_) (fun c23 => ?_)
          rotate_left
          · exfalso; omega
          refine r_iconst hC (v := (4)) dX7_next_166 (by decide) (by decide) (fun x24_ e24 t24 => ?_)
          refine r_puti hC 3 (ci := 7) rfl u7_in tyX7_ok nmX7 (by decide) mT_1_62 rfl rfl rfl dX7_next_167 ka0 rfl rfl (fun I25 eI25 => ?_)
          have hs25 := hs8.put0 eI25 ka0 rfl rfl rfl (by decide)
          have hF25 := hF8.put eI25 ka0 rfl
          refine r_aload_n hC dX7_next_170 1 rfl ?_
          refine r_aload_n hC dX7_next_171 1 rfl ?_
          refine r_geti hC 4 (ci := 7) rfl u7_in (by decide) mT_1_63 dX7_next_172 ka0 rfl rfl (fun x26_ e26 => ?_)
          have r26 := hs25.rng ka0 rfl e26
          have f26 : x26_.toInt = (I25 a0 4).toInt := by rw [e26]
          have w26 : x26_ = x15_ := by rw [e26]; exact (Eq.trans (up2_at (Or.inr (by decide)) eI25) e15.symm)
          have wt26 : x26_.toInt = x15_.toInt := by rw [w26]
          refine r_iconst hC (v := (1)) dX7_next_175 (by decide) (by decide) (fun x27_ e27 t27 => ?_)
          refine r_iadd hC dX7_next_176 (fun x28_ e28 => ?_)
          try have t28 : x28_.toInt = x26_.toInt + x27_.toInt := by rw [e28]; exact ti_add (by omega) (by omega)
          refine r_puti hC 2 (ci := 7) rfl u7_in tyX7_ok nmX7 (by decide) mT_1_61 rfl rfl rfl dX7_next_177 ka0 rfl rfl (fun I29 eI29 => ?_)
          have hs29 := hs25.put1 eI29 ka0 rfl (by omega) (by omega) rfl rfl (by decide)
          have hF29 := hF25.put eI29 ka0 rfl
          exact r_vret hC hQ hlk hr (by decide) (by decide) dX7_next_180 ⟨_, _, rfl, rfl, ⟨hs29, hF29, hFJ10⟩⟩
        · refine r_aload_n hC dX7_next_109 1 rfl ?_
          refine r_iconst hC (v := (0)) dX7_next_110 (by decide) (by decide) (fun x30_ e30 t30 => ?_)
          refine r_puti hC 3 (ci := 7) rfl u7_in tyX7_ok nmX7 (by decide) mT_1_62 rfl rfl rfl dX7_next_111 ka0 rfl rfl (fun I31 eI31 => ?_)
          have hs31 := hs8.put0 eI31 ka0 rfl rfl rfl (by decide)
          have hF31 := hF8.put eI31 ka0 rfl
          refine r_goto hC (tgt := 180) dX7_next_114 (by decide) ?_
          exact r_vret hC hQ hlk hr (by decide) (by decide) dX7_next_180 ⟨_, _, rfl, rfl, ⟨hs31, hF31, hFJ10⟩⟩
      · refine r_aload_n hC dX7_next_81 0 rfl ?_
        obtain ⟨a32_, hb32, hk32⟩ := hs8.obj ka0 0 6 (by decide)
        refine r_getr hC 0 (ci := 7) rfl u7_in (by decide) mT_1_59 dX7_next_82 ka0 rfl rfl hb32 ?_
        obtain ⟨a33_, hb33, hk33, hn33⟩ := hs8.row hk32 0 40 900 (by decide) (by decide)
        refine r_getr hC 0 (ci := 5) rfl u5_in (by decide) mT_1_37 dX7_next_85 hk32 rfl rfl hb33 ?_
        refine r_aload_n hC dX7_next_88 0 rfl ?_
        refine r_geti hC 4 (ci := 7) rfl u7_in (by decide) mT_1_63 dX7_next_89 ka0 rfl rfl (fun x34_ e34 => ?_)
        have r34 := hs8.rng ka0 rfl e34
        have f34 : x34_.toInt = (I8 a0 4).toInt := by rw [e34]
        have w34 : x34_ = x11_ := by rw [e34]; exact e11.symm
        have wt34 : x34_.toInt = x11_.toInt := by rw [w34]
        refine x_baload hC hk33 hn33 (by decide) rfl rfl dX7_next_92 (by omega) (by omega) (fun x35_ e35 => ?_)
        refine r_goto hC (tgt := 97) dX7_next_93 (by decide) ?_
        refine r_istore_n hC (lv' := [(1, .int x35_), (0, .ref a0)]) dX7_next_97 (by decide) rfl ?_
        refine r_aload_n hC dX7_next_98 1 rfl ?_
        refine r_geti hC 4 (ci := 7) rfl u7_in (by decide) mT_1_63 dX7_next_99 ka0 rfl rfl (fun x36_ e36 => ?_)
        have r36 := hs8.rng ka0 rfl e36
        have f36 : x36_.toInt = (I8 a0 4).toInt := by rw [e36]
        have w36 : x36_ = x34_ := by rw [e36]; exact e34.symm
        have wt36 : x36_.toInt = x34_.toInt := by rw [w36]
        refine r_aload_n hC dX7_next_102 1 rfl ?_
        refine r_geti hC 1 (ci := 7) rfl u7_in (by decide) mT_1_60 dX7_next_103 ka0 rfl rfl (fun x37_ e37 => ?_)
        have r37 := hs8.rng ka0 rfl e37
        have f37 : x37_.toInt = (I8 a0 1).toInt := by rw [e37]
        have w37 : x37_ = x12_ := by rw [e37]; exact e12.symm
        have wt37 : x37_.toInt = x12_.toInt := by rw [w37]
        refine r_icmp_lt hC (tgt := 117) dX7_next_106 (by decide) (fun c38 => ?_) (fun c38 => ?_)
        · refine r_iload_n hC dX7_next_117 0 rfl ?_
          refine r_bipush hC (v := (97)) dX7_next_118 (by decide) (by decide) (fun x39_ e39 t39 => ?_)
          refine r_icmp_lt hC (tgt := 136) dX7_next_120 (by decide) (fun c40 => ?_) (fun c40 => ?_)
          · refine r_iload_n hC dX7_next_136 0 rfl ?_
            refine r_bipush hC (v := (48)) dX7_next_137 (by decide) (by decide) (fun x41_ e41 t41 => ?_)
            refine r_icmp_lt hC (tgt := 155) dX7_next_139 (by decide) (fun c42 => ?_) (fun c42 => ?_)
            · refine r_aload_n hC dX7_next_155 1 rfl ?_
              refine r_iload_n hC dX7_next_156 0 rfl ?_
              refine r_bipush hC (v := (59)) dX7_next_157 (by decide) (by decide) (fun x43_ e43 t43 => ?_)
              refine r_icmp_ne hC (tgt := 166) dX7_next_159 (by decide) (fun c44 => ?_) (fun c44 => ?_)
              · refine r_iconst hC (v := (4)) dX7_next_166 (by decide) (by decide) (fun x45_ e45 t45 => ?_)
                refine r_puti hC 3 (ci := 7) rfl u7_in tyX7_ok nmX7 (by decide) mT_1_62 rfl rfl rfl dX7_next_167 ka0 rfl rfl (fun I46 eI46 => ?_)
                have hs46 := hs8.put0 eI46 ka0 rfl rfl rfl (by decide)
                have hF46 := hF8.put eI46 ka0 rfl
                refine r_aload_n hC dX7_next_170 1 rfl ?_
                refine r_aload_n hC dX7_next_171 1 rfl ?_
                refine r_geti hC 4 (ci := 7) rfl u7_in (by decide) mT_1_63 dX7_next_172 ka0 rfl rfl (fun x47_ e47 => ?_)
                have r47 := hs46.rng ka0 rfl e47
                have f47 : x47_.toInt = (I46 a0 4).toInt := by rw [e47]
                have w47 : x47_ = x36_ := by rw [e47]; exact (Eq.trans (up2_at (Or.inr (by decide)) eI46) e36.symm)
                have wt47 : x47_.toInt = x36_.toInt := by rw [w47]
                refine r_iconst hC (v := (1)) dX7_next_175 (by decide) (by decide) (fun x48_ e48 t48 => ?_)
                refine r_iadd hC dX7_next_176 (fun x49_ e49 => ?_)
                try have t49 : x49_.toInt = x47_.toInt + x48_.toInt := by rw [e49]; exact ti_add (by omega) (by omega)
                refine r_puti hC 2 (ci := 7) rfl u7_in tyX7_ok nmX7 (by decide) mT_1_61 rfl rfl rfl dX7_next_177 ka0 rfl rfl (fun I50 eI50 => ?_)
                have hs50 := hs46.put1 eI50 ka0 rfl (by omega) (by omega) rfl rfl (by decide)
                have hF50 := hF46.put eI50 ka0 rfl
                exact r_vret hC hQ hlk hr (by decide) (by decide) dX7_next_180 ⟨_, _, rfl, rfl, ⟨hs50, hF50, hFJ10⟩⟩
              · refine r_iconst hC (v := (3)) dX7_next_162 (by decide) (by decide) (fun x51_ e51 t51 => ?_)
                refine r_goto hC (tgt := 167) dX7_next_163 (by decide) ?_
                refine r_puti hC 3 (ci := 7) rfl u7_in tyX7_ok nmX7 (by decide) mT_1_62 rfl rfl rfl dX7_next_167 ka0 rfl rfl (fun I52 eI52 => ?_)
                have hs52 := hs8.put0 eI52 ka0 rfl rfl rfl (by decide)
                have hF52 := hF8.put eI52 ka0 rfl
                refine r_aload_n hC dX7_next_170 1 rfl ?_
                refine r_aload_n hC dX7_next_171 1 rfl ?_
                refine r_geti hC 4 (ci := 7) rfl u7_in (by decide) mT_1_63 dX7_next_172 ka0 rfl rfl (fun x53_ e53 => ?_)
                have r53 := hs52.rng ka0 rfl e53
                have f53 : x53_.toInt = (I52 a0 4).toInt := by rw [e53]
                have w53 : x53_ = x36_ := by rw [e53]; exact (Eq.trans (up2_at (Or.inr (by decide)) eI52) e36.symm)
                have wt53 : x53_.toInt = x36_.toInt := by rw [w53]
                refine r_iconst hC (v := (1)) dX7_next_175 (by decide) (by decide) (fun x54_ e54 t54 => ?_)
                refine r_iadd hC dX7_next_176 (fun x55_ e55 => ?_)
                try have t55 : x55_.toInt = x53_.toInt + x54_.toInt := by rw [e55]; exact ti_add (by omega) (by omega)
                refine r_puti hC 2 (ci := 7) rfl u7_in tyX7_ok nmX7 (by decide) mT_1_61 rfl rfl rfl dX7_next_177 ka0 rfl rfl (fun I56 eI56 => ?_)
                have hs56 := hs52.put1 eI56 ka0 rfl (by omega) (by omega) rfl rfl (by decide)
                have hF56 := hF52.put eI56 ka0 rfl
                exact r_vret hC hQ hlk hr (by decide) (by decide) dX7_next_180 ⟨_, _, rfl, rfl, ⟨hs56, hF56, hFJ10⟩⟩
            · refine r_iload_n hC dX7_next_142 0 rfl ?_
              refine r_bipush hC (v := (57)) dX7_next_143 (by decide) (by decide) (fun x57_ e57 t57 => ?_)
              refine r_icmp_gt hC (tgt := 155) dX7_next_145 (by decide) (fun c58 => ?_) (fun c58 => ?_)
              · refine r_aload_n hC dX7_next_155 1 rfl ?_
                refine r_iload_n hC dX7_next_156 0 rfl ?_
                refine r_bipush hC (v := (59)) dX7_next_157 (by decide) (by decide) (fun x59_ e59 t59 => ?_)
                refine r_icmp_ne hC (tgt := 166) dX7_next_159 (by decide) (fun c60 => ?_) (fun c60 => ?_)
                · refine r_iconst hC (v := (4)) dX7_next_166 (by decide) (by decide) (fun x61_ e61 t61 => ?_)
                  refine r_puti hC 3 (ci := 7) rfl u7_in tyX7_ok nmX7 (by decide) mT_1_62 rfl rfl rfl dX7_next_167 ka0 rfl rfl (fun I62 eI62 => ?_)
                  have hs62 := hs8.put0 eI62 ka0 rfl rfl rfl (by decide)
                  have hF62 := hF8.put eI62 ka0 rfl
                  refine r_aload_n hC dX7_next_170 1 rfl ?_
                  refine r_aload_n hC dX7_next_171 1 rfl ?_
                  refine r_geti hC 4 (ci := 7) rfl u7_in (by decide) mT_1_63 dX7_next_172 ka0 rfl rfl (fun x63_ e63 => ?_)
                  have r63 := hs62.rng ka0 rfl e63
                  have f63 : x63_.toInt = (I62 a0 4).toInt := by rw [e63]
                  have w63 : x63_ = x36_ := by rw [e63]; exact (Eq.trans (up2_at (Or.inr (by decide)) eI62) e36.symm)
                  have wt63 : x63_.toInt = x36_.toInt := by rw [w63]
                  refine r_iconst hC (v := (1)) dX7_next_175 (by decide) (by decide) (fun x64_ e64 t64 => ?_)
                  refine r_iadd hC dX7_next_176 (fun x65_ e65 => ?_)
                  try have t65 : x65_.toInt = x63_.toInt + x64_.toInt := by rw [e65]; exact ti_add (by omega) (by omega)
                  refine r_puti hC 2 (ci := 7) rfl u7_in tyX7_ok nmX7 (by decide) mT_1_61 rfl rfl rfl dX7_next_177 ka0 rfl rfl (fun I66 eI66 => ?_)
                  have hs66 := hs62.put1 eI66 ka0 rfl (by omega) (by omega) rfl rfl (by decide)
                  have hF66 := hF62.put eI66 ka0 rfl
                  exact r_vret hC hQ hlk hr (by decide) (by decide) dX7_next_180 ⟨_, _, rfl, rfl, ⟨hs66, hF66, hFJ10⟩⟩
                · refine r_iconst hC (v := (3)) dX7_next_162 (by decide) (by decide) (fun x67_ e67 t67 => ?_)
                  refine r_goto hC (tgt := 167) dX7_next_163 (by decide) ?_
                  refine r_puti hC 3 (ci := 7) rfl u7_in tyX7_ok nmX7 (by decide) mT_1_62 rfl rfl rfl dX7_next_167 ka0 rfl rfl (fun I68 eI68 => ?_)
                  have hs68 := hs8.put0 eI68 ka0 rfl rfl rfl (by decide)
                  have hF68 := hF8.put eI68 ka0 rfl
                  refine r_aload_n hC dX7_next_170 1 rfl ?_
                  refine r_aload_n hC dX7_next_171 1 rfl ?_
                  refine r_geti hC 4 (ci := 7) rfl u7_in (by decide) mT_1_63 dX7_next_172 ka0 rfl rfl (fun x69_ e69 => ?_)
                  have r69 := hs68.rng ka0 rfl e69
                  have f69 : x69_.toInt = (I68 a0 4).toInt := by rw [e69]
                  have w69 : x69_ = x36_ := by rw [e69]; exact (Eq.trans (up2_at (Or.inr (by decide)) eI68) e36.symm)
                  have wt69 : x69_.toInt = x36_.toInt := by rw [w69]
                  refine r_iconst hC (v := (1)) dX7_next_175 (by decide) (by decide) (fun x70_ e70 t70 => ?_)
                  refine r_iadd hC dX7_next_176 (fun x71_ e71 => ?_)
                  try have t71 : x71_.toInt = x69_.toInt + x70_.toInt := by rw [e71]; exact ti_add (by omega) (by omega)
                  refine r_puti hC 2 (ci := 7) rfl u7_in tyX7_ok nmX7 (by decide) mT_1_61 rfl rfl rfl dX7_next_177 ka0 rfl rfl (fun I72 eI72 => ?_)
                  have hs72 := hs68.put1 eI72 ka0 rfl (by omega) (by omega) rfl rfl (by decide)
                  have hF72 := hF68.put eI72 ka0 rfl
                  exact r_vret hC hQ hlk hr (by decide) (by decide) dX7_next_180 ⟨_, _, rfl, rfl, ⟨hs72, hF72, hFJ10⟩⟩
              · refine r_aload_n hC dX7_next_148 1 rfl ?_
                refine r_callV hC (As := []) (rest := []) (ci := 7) (c_X7_takeDigits g (xL X) K len I8 J10 R hs8 a0 ka0) mT_2_167 mT_1_4 mT_2_164 mT_2_166 mP_2 okX7_takeDigits ⟨by decide, by decide⟩ rfl (by show kO (K a0) = _; rw [ka0]; rfl) rfl rfl (Nat.le_of_ble_eq_true rfl) ⟨by decide, by decide⟩ dX7_next_149 (aV2 (F := fun st M => P g X 2 152 [(1, .int x35_), (0, .ref a0)] st _ _ M) (M := (K, len, I8, J10, R)) fun I73 J73 h73 => ?_)
                obtain ⟨hs73, hf73, hfj73⟩ := h73
                show P g X 2 152 [(1, .int x35_), (0, .ref a0)] [] _ _ (K, len, I73, J73, R)
                have hF73 : Fr K [(8, 2), (8, 3), (8, 4)] I I73 := hF8.trans hf73 rfl rfl
                have hFJ73 : Fr K [(8, 5)] J J73 := hFJ10.trans hfj73 rfl rfl
                refine r_goto hC (tgt := 180) dX7_next_152 (by decide) ?_
                exact r_vret hC hQ hlk hr (by decide) (by decide) dX7_next_180 ⟨_, _, rfl, rfl, ⟨hs73, hF73, hFJ73⟩⟩
          · refine r_iload_n hC dX7_next_123 0 rfl ?_
            refine r_bipush hC (v := (122)) dX7_next_124 (by decide) (by decide) (fun x74_ e74 t74 => ?_)
            refine r_icmp_gt hC (tgt := 136) dX7_next_126 (by decide) (fun c75 => ?_) (fun c75 => ?_)
            · refine r_iload_n hC dX7_next_136 0 rfl ?_
              refine r_bipush hC (v := (48)) dX7_next_137 (by decide) (by decide) (fun x76_ e76 t76 => ?_)
              refine r_icmp_lt hC (tgt := 155) dX7_next_139 (by decide) (fun c77 => ?_) (fun c77 => ?_)
              · refine r_aload_n hC dX7_next_155 1 rfl ?_
                refine r_iload_n hC dX7_next_156 0 rfl ?_
                refine r_bipush hC (v := (59)) dX7_next_157 (by decide) (by decide) (fun x78_ e78 t78 => ?_)
                refine r_icmp_ne hC (tgt := 166) dX7_next_159 (by decide) (fun c79 => ?_) (fun c79 => ?_)
                · refine r_iconst hC (v := (4)) dX7_next_166 (by decide) (by decide) (fun x80_ e80 t80 => ?_)
                  refine r_puti hC 3 (ci := 7) rfl u7_in tyX7_ok nmX7 (by decide) mT_1_62 rfl rfl rfl dX7_next_167 ka0 rfl rfl (fun I81 eI81 => ?_)
                  have hs81 := hs8.put0 eI81 ka0 rfl rfl rfl (by decide)
                  have hF81 := hF8.put eI81 ka0 rfl
                  refine r_aload_n hC dX7_next_170 1 rfl ?_
                  refine r_aload_n hC dX7_next_171 1 rfl ?_
                  refine r_geti hC 4 (ci := 7) rfl u7_in (by decide) mT_1_63 dX7_next_172 ka0 rfl rfl (fun x82_ e82 => ?_)
                  have r82 := hs81.rng ka0 rfl e82
                  have f82 : x82_.toInt = (I81 a0 4).toInt := by rw [e82]
                  have w82 : x82_ = x36_ := by rw [e82]; exact (Eq.trans (up2_at (Or.inr (by decide)) eI81) e36.symm)
                  have wt82 : x82_.toInt = x36_.toInt := by rw [w82]
                  refine r_iconst hC (v := (1)) dX7_next_175 (by decide) (by decide) (fun x83_ e83 t83 => ?_)
                  refine r_iadd hC dX7_next_176 (fun x84_ e84 => ?_)
                  try have t84 : x84_.toInt = x82_.toInt + x83_.toInt := by rw [e84]; exact ti_add (by omega) (by omega)
                  refine r_puti hC 2 (ci := 7) rfl u7_in tyX7_ok nmX7 (by decide) mT_1_61 rfl rfl rfl dX7_next_177 ka0 rfl rfl (fun I85 eI85 => ?_)
                  have hs85 := hs81.put1 eI85 ka0 rfl (by omega) (by omega) rfl rfl (by decide)
                  have hF85 := hF81.put eI85 ka0 rfl
                  exact r_vret hC hQ hlk hr (by decide) (by decide) dX7_next_180 ⟨_, _, rfl, rfl, ⟨hs85, hF85, hFJ10⟩⟩
                · refine r_iconst hC (v := (3)) dX7_next_162 (by decide) (by decide) (fun x86_ e86 t86 => ?_)
                  refine r_goto hC (tgt := 167) dX7_next_163 (by decide) ?_
                  refine r_puti hC 3 (ci := 7) rfl u7_in tyX7_ok nmX7 (by decide) mT_1_62 rfl rfl rfl dX7_next_167 ka0 rfl rfl (fun I87 eI87 => ?_)
                  have hs87 := hs8.put0 eI87 ka0 rfl rfl rfl (by decide)
                  have hF87 := hF8.put eI87 ka0 rfl
                  refine r_aload_n hC dX7_next_170 1 rfl ?_
                  refine r_aload_n hC dX7_next_171 1 rfl ?_
                  refine r_geti hC 4 (ci := 7) rfl u7_in (by decide) mT_1_63 dX7_next_172 ka0 rfl rfl (fun x88_ e88 => ?_)
                  have r88 := hs87.rng ka0 rfl e88
                  have f88 : x88_.toInt = (I87 a0 4).toInt := by rw [e88]
                  have w88 : x88_ = x36_ := by rw [e88]; exact (Eq.trans (up2_at (Or.inr (by decide)) eI87) e36.symm)
                  have wt88 : x88_.toInt = x36_.toInt := by rw [w88]
                  refine r_iconst hC (v := (1)) dX7_next_175 (by decide) (by decide) (fun x89_ e89 t89 => ?_)
                  refine r_iadd hC dX7_next_176 (fun x90_ e90 => ?_)
                  try have t90 : x90_.toInt = x88_.toInt + x89_.toInt := by rw [e90]; exact ti_add (by omega) (by omega)
                  refine r_puti hC 2 (ci := 7) rfl u7_in tyX7_ok nmX7 (by decide) mT_1_61 rfl rfl rfl dX7_next_177 ka0 rfl rfl (fun I91 eI91 => ?_)
                  have hs91 := hs87.put1 eI91 ka0 rfl (by omega) (by omega) rfl rfl (by decide)
                  have hF91 := hF87.put eI91 ka0 rfl
                  exact r_vret hC hQ hlk hr (by decide) (by decide) dX7_next_180 ⟨_, _, rfl, rfl, ⟨hs91, hF91, hFJ10⟩⟩
              · refine r_iload_n hC dX7_next_142 0 rfl ?_
                refine r_bipush hC (v := (57)) dX7_next_143 (by decide) (by decide) (fun x92_ e92 t92 => ?_)
                refine r_icmp_gt hC (tgt := 155) dX7_next_145 (by decide) (fun c93 => ?_) (fun c93 => ?_)
                · refine r_aload_n hC dX7_next_155 1 rfl ?_
                  refine r_iload_n hC dX7_next_156 0 rfl ?_
                  refine r_bipush hC (v := (59)) dX7_next_157 (by decide) (by decide) (fun x94_ e94 t94 => ?_)
                  refine r_icmp_ne hC (tgt := 166) dX7_next_159 (by decide) (fun c95 => ?_) (fun c95 => ?_)
                  · refine r_iconst hC (v := (4)) dX7_next_166 (by decide) (by decide) (fun x96_ e96 t96 => ?_)
                    refine r_puti hC 3 (ci := 7) rfl u7_in tyX7_ok nmX7 (by decide) mT_1_62 rfl rfl rfl dX7_next_167 ka0 rfl rfl (fun I97 eI97 => ?_)
                    have hs97 := hs8.put0 eI97 ka0 rfl rfl rfl (by decide)
                    have hF97 := hF8.put eI97 ka0 rfl
                    refine r_aload_n hC dX7_next_170 1 rfl ?_
                    refine r_aload_n hC dX7_next_171 1 rfl ?_
                    refine r_geti hC 4 (ci := 7) rfl u7_in (by decide) mT_1_63 dX7_next_172 ka0 rfl rfl (fun x98_ e98 => ?_)
                    have r98 := hs97.rng ka0 rfl e98
                    have f98 : x98_.toInt = (I97 a0 4).toInt := by rw [e98]
                    have w98 : x98_ = x36_ := by rw [e98]; exact (Eq.trans (up2_at (Or.inr (by decide)) eI97) e36.symm)
                    have wt98 : x98_.toInt = x36_.toInt := by rw [w98]
                    refine r_iconst hC (v := (1)) dX7_next_175 (by decide) (by decide) (fun x99_ e99 t99 => ?_)
                    refine r_iadd hC dX7_next_176 (fun x100_ e100 => ?_)
                    try have t100 : x100_.toInt = x98_.toInt + x99_.toInt := by rw [e100]; exact ti_add (by omega) (by omega)
                    refine r_puti hC 2 (ci := 7) rfl u7_in tyX7_ok nmX7 (by decide) mT_1_61 rfl rfl rfl dX7_next_177 ka0 rfl rfl (fun I101 eI101 => ?_)
                    have hs101 := hs97.put1 eI101 ka0 rfl (by omega) (by omega) rfl rfl (by decide)
                    have hF101 := hF97.put eI101 ka0 rfl
                    exact r_vret hC hQ hlk hr (by decide) (by decide) dX7_next_180 ⟨_, _, rfl, rfl, ⟨hs101, hF101, hFJ10⟩⟩
                  · refine r_iconst hC (v := (3)) dX7_next_162 (by decide) (by decide) (fun x102_ e102 t102 => ?_)
                    refine r_goto hC (tgt := 167) dX7_next_163 (by decide) ?_
                    refine r_puti hC 3 (ci := 7) rfl u7_in tyX7_ok nmX7 (by decide) mT_1_62 rfl rfl rfl dX7_next_167 ka0 rfl rfl (fun I103 eI103 => ?_)
                    have hs103 := hs8.put0 eI103 ka0 rfl rfl rfl (by decide)
                    have hF103 := hF8.put eI103 ka0 rfl
                    refine r_aload_n hC dX7_next_170 1 rfl ?_
                    refine r_aload_n hC dX7_next_171 1 rfl ?_
                    refine r_geti hC 4 (ci := 7) rfl u7_in (by decide) mT_1_63 dX7_next_172 ka0 rfl rfl (fun x104_ e104 => ?_)
                    have r104 := hs103.rng ka0 rfl e104
                    have f104 : x104_.toInt = (I103 a0 4).toInt := by rw [e104]
                    have w104 : x104_ = x36_ := by rw [e104]; exact (Eq.trans (up2_at (Or.inr (by decide)) eI103) e36.symm)
                    have wt104 : x104_.toInt = x36_.toInt := by rw [w104]
                    refine r_iconst hC (v := (1)) dX7_next_175 (by decide) (by decide) (fun x105_ e105 t105 => ?_)
                    refine r_iadd hC dX7_next_176 (fun x106_ e106 => ?_)
                    try have t106 : x106_.toInt = x104_.toInt + x105_.toInt := by rw [e106]; exact ti_add (by omega) (by omega)
                    refine r_puti hC 2 (ci := 7) rfl u7_in tyX7_ok nmX7 (by decide) mT_1_61 rfl rfl rfl dX7_next_177 ka0 rfl rfl (fun I107 eI107 => ?_)
                    have hs107 := hs103.put1 eI107 ka0 rfl (by omega) (by omega) rfl rfl (by decide)
                    have hF107 := hF103.put eI107 ka0 rfl
                    exact r_vret hC hQ hlk hr (by decide) (by decide) dX7_next_180 ⟨_, _, rfl, rfl, ⟨hs107, hF107, hFJ10⟩⟩
                · refine r_aload_n hC dX7_next_148 1 rfl ?_
                  refine r_callV hC (As := []) (rest := []) (ci := 7) (c_X7_takeDigits g (xL X) K len I8 J10 R hs8 a0 ka0) mT_2_167 mT_1_4 mT_2_164 mT_2_166 mP_2 okX7_takeDigits ⟨by decide, by decide⟩ rfl (by show kO (K a0) = _; rw [ka0]; rfl) rfl rfl (Nat.le_of_ble_eq_true rfl) ⟨by decide, by decide⟩ dX7_next_149 (aV2 (F := fun st M => P g X 2 152 [(1, .int x35_), (0, .ref a0)] st _ _ M) (M := (K, len, I8, J10, R)) fun I108 J108 h108 => ?_)
                  obtain ⟨hs108, hf108, hfj108⟩ := h108
                  show P g X 2 152 [(1, .int x35_), (0, .ref a0)] [] _ _ (K, len, I108, J108, R)
                  have hF108 : Fr K [(8, 2), (8, 3), (8, 4)] I I108 := hF8.trans hf108 rfl rfl
                  have hFJ108 : Fr K [(8, 5)] J J108 := hFJ10.trans hfj108 rfl rfl
                  refine r_goto hC (tgt := 180) dX7_next_152 (by decide) ?_
                  exact r_vret hC hQ hlk hr (by decide) (by decide) dX7_next_180 ⟨_, _, rfl, rfl, ⟨hs108, hF108, hFJ108⟩⟩
            · refine r_aload_n hC dX7_next_129 1 rfl ?_
              refine r_callV hC (As := []) (rest := []) (ci := 7) (c_X7_takeLetters g (xL X) K len I8 J10 R hs8 a0 ka0) mT_2_163 mT_1_4 mT_2_160 mT_2_162 mP_1 okX7_takeLetters ⟨by decide, by decide⟩ rfl (by show kO (K a0) = _; rw [ka0]; rfl) rfl rfl (Nat.le_of_ble_eq_true rfl) ⟨by decide, by decide⟩ dX7_next_130 (aV2 (F := fun st M => P g X 2 133 [(1, .int x35_), (0, .ref a0)] st _ _ M) (M := (K, len, I8, J10, R)) fun I109 J109 h109 => ?_)
              obtain ⟨hs109, hf109, hfj109⟩ := h109
              show P g X 2 133 [(1, .int x35_), (0, .ref a0)] [] _ _ (K, len, I109, J109, R)
              have hF109 : Fr K [(8, 2), (8, 3), (8, 4)] I I109 := hF8.trans hf109 rfl rfl
              have hFJ109 : Fr K [(8, 5)] J J109 := hFJ10.trans hfj109 rfl rfl
              refine r_goto hC (tgt := 180) dX7_next_133 (by decide) ?_
              exact r_vret hC hQ hlk hr (by decide) (by decide) dX7_next_180 ⟨_, _, rfl, rfl, ⟨hs109, hF109, hFJ109⟩⟩
        · refine r_aload_n hC dX7_next_109 1 rfl ?_
          refine r_iconst hC (v := (0)) dX7_next_110 (by decide) (by decide) (fun x110_ e110 t110 => ?_)
          refine r_puti hC 3 (ci := 7) rfl u7_in tyX7_ok nmX7 (by decide) mT_1_62 rfl rfl rfl dX7_next_111 ka0 rfl rfl (fun I111 eI111 => ?_)
          have hs111 := hs8.put0 eI111 ka0 rfl rfl rfl (by decide)
          have hF111 := hF8.put eI111 ka0 rfl
          refine r_goto hC (tgt := 180) dX7_next_114 (by decide) ?_
          exact r_vret hC hQ hlk hr (by decide) (by decide) dX7_next_180 ⟨_, _, rfl, rfl, ⟨hs111, hF111, hFJ10⟩⟩
    · refine r_aload_n hC dX7_next_21 0 rfl ?_
      refine r_geti hC 4 (ci := 7) rfl u7_in (by decide) mT_1_63 dX7_next_22 ka0 rfl rfl (fun x112_ e112 => ?_)
      have r112 := hs4.rng ka0 rfl e112
      have f112 : x112_.toInt = (I4 a0 4).toInt := by rw [e112]
      refine r_aload_n hC dX7_next_25 0 rfl ?_
      refine r_geti hC 1 (ci := 7) rfl u7_in (by decide) mT_1_60 dX7_next_26 ka0 rfl rfl (fun x113_ e113 => ?_)
      have r113 := hs4.rng ka0 rfl e113
      have f113 : x113_.toInt = (I4 a0 1).toInt := by rw [e113]
      have w113 : x113_ = x5_ := by rw [e113]; exact e5.symm
      have wt113 : x113_.toInt = x5_.toInt := by rw [w113]
      refine r_icmp_ne hC (tgt := 57) dX7_next_29 (by decide) (fun c114 => ?_) (fun c114 => ?_)
      · refine r_aload_n hC dX7_next_57 0 rfl ?_
        refine r_aload_n hC dX7_next_58 0 rfl ?_
        refine r_geti hC 4 (ci := 7) rfl u7_in (by decide) mT_1_63 dX7_next_59 ka0 rfl rfl (fun x115_ e115 => ?_)
        have r115 := hs4.rng ka0 rfl e115
        have f115 : x115_.toInt = (I4 a0 4).toInt := by rw [e115]
        have w115 : x115_ = x112_ := by rw [e115]; exact e112.symm
        have wt115 : x115_.toInt = x112_.toInt := by rw [w115]
        refine r_puti hC 2 (ci := 7) rfl u7_in tyX7_ok nmX7 (by decide) mT_1_61 rfl rfl rfl dX7_next_62 ka0 rfl rfl (fun I116 eI116 => ?_)
        have hs116 := hs4.put1 eI116 ka0 rfl (by omega) (by omega) rfl rfl (by decide)
        have hF116 := hF4.put eI116 ka0 rfl
        refine r_aload_n hC dX7_next_65 0 rfl ?_
        refine r_lconst hC (v := 0) dX7_next_66 (by decide) (fun y117_ e117 => ?_)
        refine r_putj hC 5 (ci := 7) rfl u7_in tyX7_ok nmX7 (by decide) mT_1_65 rfl rfl rfl dX7_next_67 ka0 rfl rfl (fun J118 eJ118 => ?_)
        have hFJ118 := hFJ.put eJ118 ka0 rfl
        refine r_aload_n hC dX7_next_70 0 rfl ?_
        refine r_geti hC 4 (ci := 7) rfl u7_in (by decide) mT_1_63 dX7_next_71 ka0 rfl rfl (fun x119_ e119 => ?_)
        have r119 := hs116.rng ka0 rfl e119
        have f119 : x119_.toInt = (I116 a0 4).toInt := by rw [e119]
        have w119 : x119_ = x115_ := by rw [e119]; exact (Eq.trans (up2_at (Or.inr (by decide)) eI116) e115.symm)
        have wt119 : x119_.toInt = x115_.toInt := by rw [w119]
        refine r_aload_n hC dX7_next_74 0 rfl ?_
        refine r_geti hC 1 (ci := 7) rfl u7_in (by decide) mT_1_60 dX7_next_75 ka0 rfl rfl (fun x120_ e120 => ?_)
        have r120 := hs116.rng ka0 rfl e120
        have f120 : x120_.toInt = (I116 a0 1).toInt := by rw [e120]
        have w120 : x120_ = x113_ := by rw [e120]; exact (Eq.trans (up2_at (Or.inr (by decide)) eI116) e113.symm)
        have wt120 : x120_.toInt = x113_.toInt := by rw [w120]
        refine r_icmp_ge hC (tgt := 96) dX7_next_78 (by decide) (fun c121 => ?_) (fun c121 => ?_)
        · refine r_iconst hC (v := (-1)) dX7_next_96 (by decide) (by decide) (fun x122_ e122 t122 => ?_)
          refine r_istore_n hC (lv' := [(1, .int x122_), (0, .ref a0)]) dX7_next_97 (by decide) rfl ?_
          refine r_aload_n hC dX7_next_98 1 rfl ?_
          refine r_geti hC 4 (ci := 7) rfl u7_in (by decide) mT_1_63 dX7_next_99 ka0 rfl rfl (fun x123_ e123 => ?_)
          have r123 := hs116.rng ka0 rfl e123
          have f123 : x123_.toInt = (I116 a0 4).toInt := by rw [e123]
          have w123 : x123_ = x119_ := by rw [e123]; exact e119.symm
          have wt123 : x123_.toInt = x119_.toInt := by rw [w123]
          refine r_aload_n hC dX7_next_102 1 rfl ?_
          refine r_geti hC 1 (ci := 7) rfl u7_in (by decide) mT_1_60 dX7_next_103 ka0 rfl rfl (fun x124_ e124 => ?_)
          have r124 := hs116.rng ka0 rfl e124
          have f124 : x124_.toInt = (I116 a0 1).toInt := by rw [e124]
          have w124 : x124_ = x120_ := by rw [e124]; exact e120.symm
          have wt124 : x124_.toInt = x120_.toInt := by rw [w124]
          refine r_icmp_lt hC (tgt := 117) dX7_next_106 (by decide) (fun c125 => ?_) (fun c125 => ?_)
          · refine r_iload_n hC dX7_next_117 0 rfl ?_
            refine r_bipush hC (v := (97)) dX7_next_118 (by decide) (by decide) (fun x126_ e126 t126 => ?_)
            refine r_icmp_lt hC (tgt := 136) dX7_next_120 (by decide) (fun c127 => ?_) (fun c127 => ?_)
            rotate_left
            · exfalso; omega
            refine r_iload_n hC dX7_next_136 0 rfl ?_
            refine r_bipush hC (v := (48)) dX7_next_137 (by decide) (by decide) (fun x128_ e128 t128 => ?_)
            refine r_icmp_lt hC (tgt := 155) dX7_next_139 (by decide) (fun c129 => ?_) (fun c129 => ?_)
            rotate_left
            · exfalso; omega
            refine r_aload_n hC dX7_next_155 1 rfl ?_
            refine r_iload_n hC dX7_next_156 0 rfl ?_
            refine r_bipush hC (v := (59)) dX7_next_157 (by decide) (by decide) (fun x130_ e130 t130 => ?_)
            refine r_icmp_ne hC (tgt := 166) dX7_next_159 (by decide) (fun c131 => ?_) (fun c131 => ?_)
            rotate_left
            · exfalso; omega
            refine r_iconst hC (v := (4)) dX7_next_166 (by decide) (by decide) (fun x132_ e132 t132 => ?_)
            refine r_puti hC 3 (ci := 7) rfl u7_in tyX7_ok nmX7 (by decide) mT_1_62 rfl rfl rfl dX7_next_167 ka0 rfl rfl (fun I133 eI133 => ?_)
            have hs133 := hs116.put0 eI133 ka0 rfl rfl rfl (by decide)
            have hF133 := hF116.put eI133 ka0 rfl
            refine r_aload_n hC dX7_next_170 1 rfl ?_
            refine r_aload_n hC dX7_next_171 1 rfl ?_
            refine r_geti hC 4 (ci := 7) rfl u7_in (by decide) mT_1_63 dX7_next_172 ka0 rfl rfl (fun x134_ e134 => ?_)
            have r134 := hs133.rng ka0 rfl e134
            have f134 : x134_.toInt = (I133 a0 4).toInt := by rw [e134]
            have w134 : x134_ = x123_ := by rw [e134]; exact (Eq.trans (up2_at (Or.inr (by decide)) eI133) e123.symm)
            have wt134 : x134_.toInt = x123_.toInt := by rw [w134]
            refine r_iconst hC (v := (1)) dX7_next_175 (by decide) (by decide) (fun x135_ e135 t135 => ?_)
            refine r_iadd hC dX7_next_176 (fun x136_ e136 => ?_)
            try have t136 : x136_.toInt = x134_.toInt + x135_.toInt := by rw [e136]; exact ti_add (by omega) (by omega)
            refine r_puti hC 2 (ci := 7) rfl u7_in tyX7_ok nmX7 (by decide) mT_1_61 rfl rfl rfl dX7_next_177 ka0 rfl rfl (fun I137 eI137 => ?_)
            have hs137 := hs133.put1 eI137 ka0 rfl (by omega) (by omega) rfl rfl (by decide)
            have hF137 := hF133.put eI137 ka0 rfl
            exact r_vret hC hQ hlk hr (by decide) (by decide) dX7_next_180 ⟨_, _, rfl, rfl, ⟨hs137, hF137, hFJ118⟩⟩
          · refine r_aload_n hC dX7_next_109 1 rfl ?_
            refine r_iconst hC (v := (0)) dX7_next_110 (by decide) (by decide) (fun x138_ e138 t138 => ?_)
            refine r_puti hC 3 (ci := 7) rfl u7_in tyX7_ok nmX7 (by decide) mT_1_62 rfl rfl rfl dX7_next_111 ka0 rfl rfl (fun I139 eI139 => ?_)
            have hs139 := hs116.put0 eI139 ka0 rfl rfl rfl (by decide)
            have hF139 := hF116.put eI139 ka0 rfl
            refine r_goto hC (tgt := 180) dX7_next_114 (by decide) ?_
            exact r_vret hC hQ hlk hr (by decide) (by decide) dX7_next_180 ⟨_, _, rfl, rfl, ⟨hs139, hF139, hFJ118⟩⟩
        · refine r_aload_n hC dX7_next_81 0 rfl ?_
          obtain ⟨a140_, hb140, hk140⟩ := hs116.obj ka0 0 6 (by decide)
          refine r_getr hC 0 (ci := 7) rfl u7_in (by decide) mT_1_59 dX7_next_82 ka0 rfl rfl hb140 ?_
          obtain ⟨a141_, hb141, hk141, hn141⟩ := hs116.row hk140 0 40 900 (by decide) (by decide)
          refine r_getr hC 0 (ci := 5) rfl u5_in (by decide) mT_1_37 dX7_next_85 hk140 rfl rfl hb141 ?_
          refine r_aload_n hC dX7_next_88 0 rfl ?_
          refine r_geti hC 4 (ci := 7) rfl u7_in (by decide) mT_1_63 dX7_next_89 ka0 rfl rfl (fun x142_ e142 => ?_)
          have r142 := hs116.rng ka0 rfl e142
          have f142 : x142_.toInt = (I116 a0 4).toInt := by rw [e142]
          have w142 : x142_ = x119_ := by rw [e142]; exact e119.symm
          have wt142 : x142_.toInt = x119_.toInt := by rw [w142]
          refine x_baload hC hk141 hn141 (by decide) rfl rfl dX7_next_92 (by omega) (by omega) (fun x143_ e143 => ?_)
          refine r_goto hC (tgt := 97) dX7_next_93 (by decide) ?_
          refine r_istore_n hC (lv' := [(1, .int x143_), (0, .ref a0)]) dX7_next_97 (by decide) rfl ?_
          refine r_aload_n hC dX7_next_98 1 rfl ?_
          refine r_geti hC 4 (ci := 7) rfl u7_in (by decide) mT_1_63 dX7_next_99 ka0 rfl rfl (fun x144_ e144 => ?_)
          have r144 := hs116.rng ka0 rfl e144
          have f144 : x144_.toInt = (I116 a0 4).toInt := by rw [e144]
          have w144 : x144_ = x142_ := by rw [e144]; exact e142.symm
          have wt144 : x144_.toInt = x142_.toInt := by rw [w144]
          refine r_aload_n hC dX7_next_102 1 rfl ?_
          refine r_geti hC 1 (ci := 7) rfl u7_in (by decide) mT_1_60 dX7_next_103 ka0 rfl rfl (fun x145_ e145 => ?_)
          have r145 := hs116.rng ka0 rfl e145
          have f145 : x145_.toInt = (I116 a0 1).toInt := by rw [e145]
          have w145 : x145_ = x120_ := by rw [e145]; exact e120.symm
          have wt145 : x145_.toInt = x120_.toInt := by rw [w145]
          refine r_icmp_lt hC (tgt := 117) dX7_next_106 (by decide) (fun c146 => ?_) (fun c146 => ?_)
          · refine r_iload_n hC dX7_next_117 0 rfl ?_
            refine r_bipush hC (v := (97)) dX7_next_118 (by decide) (by decide) (fun x147_ e147 t147 => ?_)
            refine r_icmp_lt hC (tgt := 136) dX7_next_120 (by decide) (fun c148 => ?_) (fun c148 => ?_)
            · refine r_iload_n hC dX7_next_136 0 rfl ?_
              refine r_bipush hC (v := (48)) dX7_next_137 (by decide) (by decide) (fun x149_ e149 t149 => ?_)
              refine r_icmp_lt hC (tgt := 155) dX7_next_139 (by decide) (fun c150 => ?_) (fun c150 => ?_)
              · refine r_aload_n hC dX7_next_155 1 rfl ?_
                refine r_iload_n hC dX7_next_156 0 rfl ?_
                refine r_bipush hC (v := (59)) dX7_next_157 (by decide) (by decide) (fun x151_ e151 t151 => ?_)
                refine r_icmp_ne hC (tgt := 166) dX7_next_159 (by decide) (fun c152 => ?_) (fun c152 => ?_)
                · refine r_iconst hC (v := (4)) dX7_next_166 (by decide) (by decide) (fun x153_ e153 t153 => ?_)
                  refine r_puti hC 3 (ci := 7) rfl u7_in tyX7_ok nmX7 (by decide) mT_1_62 rfl rfl rfl dX7_next_167 ka0 rfl rfl (fun I154 eI154 => ?_)
                  have hs154 := hs116.put0 eI154 ka0 rfl rfl rfl (by decide)
                  have hF154 := hF116.put eI154 ka0 rfl
                  refine r_aload_n hC dX7_next_170 1 rfl ?_
                  refine r_aload_n hC dX7_next_171 1 rfl ?_
                  refine r_geti hC 4 (ci := 7) rfl u7_in (by decide) mT_1_63 dX7_next_172 ka0 rfl rfl (fun x155_ e155 => ?_)
                  have r155 := hs154.rng ka0 rfl e155
                  have f155 : x155_.toInt = (I154 a0 4).toInt := by rw [e155]
                  have w155 : x155_ = x144_ := by rw [e155]; exact (Eq.trans (up2_at (Or.inr (by decide)) eI154) e144.symm)
                  have wt155 : x155_.toInt = x144_.toInt := by rw [w155]
                  refine r_iconst hC (v := (1)) dX7_next_175 (by decide) (by decide) (fun x156_ e156 t156 => ?_)
                  refine r_iadd hC dX7_next_176 (fun x157_ e157 => ?_)
                  try have t157 : x157_.toInt = x155_.toInt + x156_.toInt := by rw [e157]; exact ti_add (by omega) (by omega)
                  refine r_puti hC 2 (ci := 7) rfl u7_in tyX7_ok nmX7 (by decide) mT_1_61 rfl rfl rfl dX7_next_177 ka0 rfl rfl (fun I158 eI158 => ?_)
                  have hs158 := hs154.put1 eI158 ka0 rfl (by omega) (by omega) rfl rfl (by decide)
                  have hF158 := hF154.put eI158 ka0 rfl
                  exact r_vret hC hQ hlk hr (by decide) (by decide) dX7_next_180 ⟨_, _, rfl, rfl, ⟨hs158, hF158, hFJ118⟩⟩
                · refine r_iconst hC (v := (3)) dX7_next_162 (by decide) (by decide) (fun x159_ e159 t159 => ?_)
                  refine r_goto hC (tgt := 167) dX7_next_163 (by decide) ?_
                  refine r_puti hC 3 (ci := 7) rfl u7_in tyX7_ok nmX7 (by decide) mT_1_62 rfl rfl rfl dX7_next_167 ka0 rfl rfl (fun I160 eI160 => ?_)
                  have hs160 := hs116.put0 eI160 ka0 rfl rfl rfl (by decide)
                  have hF160 := hF116.put eI160 ka0 rfl
                  refine r_aload_n hC dX7_next_170 1 rfl ?_
                  refine r_aload_n hC dX7_next_171 1 rfl ?_
                  refine r_geti hC 4 (ci := 7) rfl u7_in (by decide) mT_1_63 dX7_next_172 ka0 rfl rfl (fun x161_ e161 => ?_)
                  have r161 := hs160.rng ka0 rfl e161
                  have f161 : x161_.toInt = (I160 a0 4).toInt := by rw [e161]
                  have w161 : x161_ = x144_ := by rw [e161]; exact (Eq.trans (up2_at (Or.inr (by decide)) eI160) e144.symm)
                  have wt161 : x161_.toInt = x144_.toInt := by rw [w161]
                  refine r_iconst hC (v := (1)) dX7_next_175 (by decide) (by decide) (fun x162_ e162 t162 => ?_)
                  refine r_iadd hC dX7_next_176 (fun x163_ e163 => ?_)
                  try have t163 : x163_.toInt = x161_.toInt + x162_.toInt := by rw [e163]; exact ti_add (by omega) (by omega)
                  refine r_puti hC 2 (ci := 7) rfl u7_in tyX7_ok nmX7 (by decide) mT_1_61 rfl rfl rfl dX7_next_177 ka0 rfl rfl (fun I164 eI164 => ?_)
                  have hs164 := hs160.put1 eI164 ka0 rfl (by omega) (by omega) rfl rfl (by decide)
                  have hF164 := hF160.put eI164 ka0 rfl
                  exact r_vret hC hQ hlk hr (by decide) (by decide) dX7_next_180 ⟨_, _, rfl, rfl, ⟨hs164, hF164, hFJ118⟩⟩
              · refine r_iload_n hC dX7_next_142 0 rfl ?_
                refine r_bipush hC (v := (57)) dX7_next_143 (by decide) (by decide) (fun x165_ e165 t165 => ?_)
                refine r_icmp_gt hC (tgt := 155) dX7_next_145 (by decide) (fun c166 => ?_) (fun c166 => ?_)
                · refine r_aload_n hC dX7_next_155 1 rfl ?_
                  refine r_iload_n hC dX7_next_156 0 rfl ?_
                  refine r_bipush hC (v := (59)) dX7_next_157 (by decide) (by decide) (fun x167_ e167 t167 => ?_)
                  refine r_icmp_ne hC (tgt := 166) dX7_next_159 (by decide) (fun c168 => ?_) (fun c168 => ?_)
                  · refine r_iconst hC (v := (4)) dX7_next_166 (by decide) (by decide) (fun x169_ e169 t169 => ?_)
                    refine r_puti hC 3 (ci := 7) rfl u7_in tyX7_ok nmX7 (by decide) mT_1_62 rfl rfl rfl dX7_next_167 ka0 rfl rfl (fun I170 eI170 => ?_)
                    have hs170 := hs116.put0 eI170 ka0 rfl rfl rfl (by decide)
                    have hF170 := hF116.put eI170 ka0 rfl
                    refine r_aload_n hC dX7_next_170 1 rfl ?_
                    refine r_aload_n hC dX7_next_171 1 rfl ?_
                    refine r_geti hC 4 (ci := 7) rfl u7_in (by decide) mT_1_63 dX7_next_172 ka0 rfl rfl (fun x171_ e171 => ?_)
                    have r171 := hs170.rng ka0 rfl e171
                    have f171 : x171_.toInt = (I170 a0 4).toInt := by rw [e171]
                    have w171 : x171_ = x144_ := by rw [e171]; exact (Eq.trans (up2_at (Or.inr (by decide)) eI170) e144.symm)
                    have wt171 : x171_.toInt = x144_.toInt := by rw [w171]
                    refine r_iconst hC (v := (1)) dX7_next_175 (by decide) (by decide) (fun x172_ e172 t172 => ?_)
                    refine r_iadd hC dX7_next_176 (fun x173_ e173 => ?_)
                    try have t173 : x173_.toInt = x171_.toInt + x172_.toInt := by rw [e173]; exact ti_add (by omega) (by omega)
                    refine r_puti hC 2 (ci := 7) rfl u7_in tyX7_ok nmX7 (by decide) mT_1_61 rfl rfl rfl dX7_next_177 ka0 rfl rfl (fun I174 eI174 => ?_)
                    have hs174 := hs170.put1 eI174 ka0 rfl (by omega) (by omega) rfl rfl (by decide)
                    have hF174 := hF170.put eI174 ka0 rfl
                    exact r_vret hC hQ hlk hr (by decide) (by decide) dX7_next_180 ⟨_, _, rfl, rfl, ⟨hs174, hF174, hFJ118⟩⟩
                  · refine r_iconst hC (v := (3)) dX7_next_162 (by decide) (by decide) (fun x175_ e175 t175 => ?_)
                    refine r_goto hC (tgt := 167) dX7_next_163 (by decide) ?_
                    refine r_puti hC 3 (ci := 7) rfl u7_in tyX7_ok nmX7 (by decide) mT_1_62 rfl rfl rfl dX7_next_167 ka0 rfl rfl (fun I176 eI176 => ?_)
                    have hs176 := hs116.put0 eI176 ka0 rfl rfl rfl (by decide)
                    have hF176 := hF116.put eI176 ka0 rfl
                    refine r_aload_n hC dX7_next_170 1 rfl ?_
                    refine r_aload_n hC dX7_next_171 1 rfl ?_
                    refine r_geti hC 4 (ci := 7) rfl u7_in (by decide) mT_1_63 dX7_next_172 ka0 rfl rfl (fun x177_ e177 => ?_)
                    have r177 := hs176.rng ka0 rfl e177
                    have f177 : x177_.toInt = (I176 a0 4).toInt := by rw [e177]
                    have w177 : x177_ = x144_ := by rw [e177]; exact (Eq.trans (up2_at (Or.inr (by decide)) eI176) e144.symm)
                    have wt177 : x177_.toInt = x144_.toInt := by rw [w177]
                    refine r_iconst hC (v := (1)) dX7_next_175 (by decide) (by decide) (fun x178_ e178 t178 => ?_)
                    refine r_iadd hC dX7_next_176 (fun x179_ e179 => ?_)
                    try have t179 : x179_.toInt = x177_.toInt + x178_.toInt := by rw [e179]; exact ti_add (by omega) (by omega)
                    refine r_puti hC 2 (ci := 7) rfl u7_in tyX7_ok nmX7 (by decide) mT_1_61 rfl rfl rfl dX7_next_177 ka0 rfl rfl (fun I180 eI180 => ?_)
                    have hs180 := hs176.put1 eI180 ka0 rfl (by omega) (by omega) rfl rfl (by decide)
                    have hF180 := hF176.put eI180 ka0 rfl
                    exact r_vret hC hQ hlk hr (by decide) (by decide) dX7_next_180 ⟨_, _, rfl, rfl, ⟨hs180, hF180, hFJ118⟩⟩
                · refine r_aload_n hC dX7_next_148 1 rfl ?_
                  refine r_callV hC (As := []) (rest := []) (ci := 7) (c_X7_takeDigits g (xL X) K len I116 J118 R hs116 a0 ka0) mT_2_167 mT_1_4 mT_2_164 mT_2_166 mP_2 okX7_takeDigits ⟨by decide, by decide⟩ rfl (by show kO (K a0) = _; rw [ka0]; rfl) rfl rfl (Nat.le_of_ble_eq_true rfl) ⟨by decide, by decide⟩ dX7_next_149 (aV2 (F := fun st M => P g X 2 152 [(1, .int x143_), (0, .ref a0)] st _ _ M) (M := (K, len, I116, J118, R)) fun I181 J181 h181 => ?_)
                  obtain ⟨hs181, hf181, hfj181⟩ := h181
                  show P g X 2 152 [(1, .int x143_), (0, .ref a0)] [] _ _ (K, len, I181, J181, R)
                  have hF181 : Fr K [(8, 2), (8, 3), (8, 4)] I I181 := hF116.trans hf181 rfl rfl
                  have hFJ181 : Fr K [(8, 5)] J J181 := hFJ118.trans hfj181 rfl rfl
                  refine r_goto hC (tgt := 180) dX7_next_152 (by decide) ?_
                  exact r_vret hC hQ hlk hr (by decide) (by decide) dX7_next_180 ⟨_, _, rfl, rfl, ⟨hs181, hF181, hFJ181⟩⟩
            · refine r_iload_n hC dX7_next_123 0 rfl ?_
              refine r_bipush hC (v := (122)) dX7_next_124 (by decide) (by decide) (fun x182_ e182 t182 => ?_)
              refine r_icmp_gt hC (tgt := 136) dX7_next_126 (by decide) (fun c183 => ?_) (fun c183 => ?_)
              · refine r_iload_n hC dX7_next_136 0 rfl ?_
                refine r_bipush hC (v := (48)) dX7_next_137 (by decide) (by decide) (fun x184_ e184 t184 => ?_)
                refine r_icmp_lt hC (tgt := 155) dX7_next_139 (by decide) (fun c185 => ?_) (fun c185 => ?_)
                · refine r_aload_n hC dX7_next_155 1 rfl ?_
                  refine r_iload_n hC dX7_next_156 0 rfl ?_
                  refine r_bipush hC (v := (59)) dX7_next_157 (by decide) (by decide) (fun x186_ e186 t186 => ?_)
                  refine r_icmp_ne hC (tgt := 166) dX7_next_159 (by decide) (fun c187 => ?_) (fun c187 => ?_)
                  · refine r_iconst hC (v := (4)) dX7_next_166 (by decide) (by decide) (fun x188_ e188 t188 => ?_)
                    refine r_puti hC 3 (ci := 7) rfl u7_in tyX7_ok nmX7 (by decide) mT_1_62 rfl rfl rfl dX7_next_167 ka0 rfl rfl (fun I189 eI189 => ?_)
                    have hs189 := hs116.put0 eI189 ka0 rfl rfl rfl (by decide)
                    have hF189 := hF116.put eI189 ka0 rfl
                    refine r_aload_n hC dX7_next_170 1 rfl ?_
                    refine r_aload_n hC dX7_next_171 1 rfl ?_
                    refine r_geti hC 4 (ci := 7) rfl u7_in (by decide) mT_1_63 dX7_next_172 ka0 rfl rfl (fun x190_ e190 => ?_)
                    have r190 := hs189.rng ka0 rfl e190
                    have f190 : x190_.toInt = (I189 a0 4).toInt := by rw [e190]
                    have w190 : x190_ = x144_ := by rw [e190]; exact (Eq.trans (up2_at (Or.inr (by decide)) eI189) e144.symm)
                    have wt190 : x190_.toInt = x144_.toInt := by rw [w190]
                    refine r_iconst hC (v := (1)) dX7_next_175 (by decide) (by decide) (fun x191_ e191 t191 => ?_)
                    refine r_iadd hC dX7_next_176 (fun x192_ e192 => ?_)
                    try have t192 : x192_.toInt = x190_.toInt + x191_.toInt := by rw [e192]; exact ti_add (by omega) (by omega)
                    refine r_puti hC 2 (ci := 7) rfl u7_in tyX7_ok nmX7 (by decide) mT_1_61 rfl rfl rfl dX7_next_177 ka0 rfl rfl (fun I193 eI193 => ?_)
                    have hs193 := hs189.put1 eI193 ka0 rfl (by omega) (by omega) rfl rfl (by decide)
                    have hF193 := hF189.put eI193 ka0 rfl
                    exact r_vret hC hQ hlk hr (by decide) (by decide) dX7_next_180 ⟨_, _, rfl, rfl, ⟨hs193, hF193, hFJ118⟩⟩
                  · refine r_iconst hC (v := (3)) dX7_next_162 (by decide) (by decide) (fun x194_ e194 t194 => ?_)
                    refine r_goto hC (tgt := 167) dX7_next_163 (by decide) ?_
                    refine r_puti hC 3 (ci := 7) rfl u7_in tyX7_ok nmX7 (by decide) mT_1_62 rfl rfl rfl dX7_next_167 ka0 rfl rfl (fun I195 eI195 => ?_)
                    have hs195 := hs116.put0 eI195 ka0 rfl rfl rfl (by decide)
                    have hF195 := hF116.put eI195 ka0 rfl
                    refine r_aload_n hC dX7_next_170 1 rfl ?_
                    refine r_aload_n hC dX7_next_171 1 rfl ?_
                    refine r_geti hC 4 (ci := 7) rfl u7_in (by decide) mT_1_63 dX7_next_172 ka0 rfl rfl (fun x196_ e196 => ?_)
                    have r196 := hs195.rng ka0 rfl e196
                    have f196 : x196_.toInt = (I195 a0 4).toInt := by rw [e196]
                    have w196 : x196_ = x144_ := by rw [e196]; exact (Eq.trans (up2_at (Or.inr (by decide)) eI195) e144.symm)
                    have wt196 : x196_.toInt = x144_.toInt := by rw [w196]
                    refine r_iconst hC (v := (1)) dX7_next_175 (by decide) (by decide) (fun x197_ e197 t197 => ?_)
                    refine r_iadd hC dX7_next_176 (fun x198_ e198 => ?_)
                    try have t198 : x198_.toInt = x196_.toInt + x197_.toInt := by rw [e198]; exact ti_add (by omega) (by omega)
                    refine r_puti hC 2 (ci := 7) rfl u7_in tyX7_ok nmX7 (by decide) mT_1_61 rfl rfl rfl dX7_next_177 ka0 rfl rfl (fun I199 eI199 => ?_)
                    have hs199 := hs195.put1 eI199 ka0 rfl (by omega) (by omega) rfl rfl (by decide)
                    have hF199 := hF195.put eI199 ka0 rfl
                    exact r_vret hC hQ hlk hr (by decide) (by decide) dX7_next_180 ⟨_, _, rfl, rfl, ⟨hs199, hF199, hFJ118⟩⟩
                · refine r_iload_n hC dX7_next_142 0 rfl ?_
                  refine r_bipush hC (v := (57)) dX7_next_143 (by decide) (by decide) (fun x200_ e200 t200 => ?_)
                  refine r_icmp_gt hC (tgt := 155) dX7_next_145 (by decide) (fun c201 => ?_) (fun c201 => ?_)
                  · refine r_aload_n hC dX7_next_155 1 rfl ?_
                    refine r_iload_n hC dX7_next_156 0 rfl ?_
                    refine r_bipush hC (v := (59)) dX7_next_157 (by decide) (by decide) (fun x202_ e202 t202 => ?_)
                    refine r_icmp_ne hC (tgt := 166) dX7_next_159 (by decide) (fun c203 => ?_) (fun c203 => ?_)
                    · refine r_iconst hC (v := (4)) dX7_next_166 (by decide) (by decide) (fun x204_ e204 t204 => ?_)
                      refine r_puti hC 3 (ci := 7) rfl u7_in tyX7_ok nmX7 (by decide) mT_1_62 rfl rfl rfl dX7_next_167 ka0 rfl rfl (fun I205 eI205 => ?_)
                      have hs205 := hs116.put0 eI205 ka0 rfl rfl rfl (by decide)
                      have hF205 := hF116.put eI205 ka0 rfl
                      refine r_aload_n hC dX7_next_170 1 rfl ?_
                      refine r_aload_n hC dX7_next_171 1 rfl ?_
                      refine r_geti hC 4 (ci := 7) rfl u7_in (by decide) mT_1_63 dX7_next_172 ka0 rfl rfl (fun x206_ e206 => ?_)
                      have r206 := hs205.rng ka0 rfl e206
                      have f206 : x206_.toInt = (I205 a0 4).toInt := by rw [e206]
                      have w206 : x206_ = x144_ := by rw [e206]; exact (Eq.trans (up2_at (Or.inr (by decide)) eI205) e144.symm)
                      have wt206 : x206_.toInt = x144_.toInt := by rw [w206]
                      refine r_iconst hC (v := (1)) dX7_next_175 (by decide) (by decide) (fun x207_ e207 t207 => ?_)
                      refine r_iadd hC dX7_next_176 (fun x208_ e208 => ?_)
                      try have t208 : x208_.toInt = x206_.toInt + x207_.toInt := by rw [e208]; exact ti_add (by omega) (by omega)
                      refine r_puti hC 2 (ci := 7) rfl u7_in tyX7_ok nmX7 (by decide) mT_1_61 rfl rfl rfl dX7_next_177 ka0 rfl rfl (fun I209 eI209 => ?_)
                      have hs209 := hs205.put1 eI209 ka0 rfl (by omega) (by omega) rfl rfl (by decide)
                      have hF209 := hF205.put eI209 ka0 rfl
                      exact r_vret hC hQ hlk hr (by decide) (by decide) dX7_next_180 ⟨_, _, rfl, rfl, ⟨hs209, hF209, hFJ118⟩⟩
                    · refine r_iconst hC (v := (3)) dX7_next_162 (by decide) (by decide) (fun x210_ e210 t210 => ?_)
                      refine r_goto hC (tgt := 167) dX7_next_163 (by decide) ?_
                      refine r_puti hC 3 (ci := 7) rfl u7_in tyX7_ok nmX7 (by decide) mT_1_62 rfl rfl rfl dX7_next_167 ka0 rfl rfl (fun I211 eI211 => ?_)
                      have hs211 := hs116.put0 eI211 ka0 rfl rfl rfl (by decide)
                      have hF211 := hF116.put eI211 ka0 rfl
                      refine r_aload_n hC dX7_next_170 1 rfl ?_
                      refine r_aload_n hC dX7_next_171 1 rfl ?_
                      refine r_geti hC 4 (ci := 7) rfl u7_in (by decide) mT_1_63 dX7_next_172 ka0 rfl rfl (fun x212_ e212 => ?_)
                      have r212 := hs211.rng ka0 rfl e212
                      have f212 : x212_.toInt = (I211 a0 4).toInt := by rw [e212]
                      have w212 : x212_ = x144_ := by rw [e212]; exact (Eq.trans (up2_at (Or.inr (by decide)) eI211) e144.symm)
                      have wt212 : x212_.toInt = x144_.toInt := by rw [w212]
                      refine r_iconst hC (v := (1)) dX7_next_175 (by decide) (by decide) (fun x213_ e213 t213 => ?_)
                      refine r_iadd hC dX7_next_176 (fun x214_ e214 => ?_)
                      try have t214 : x214_.toInt = x212_.toInt + x213_.toInt := by rw [e214]; exact ti_add (by omega) (by omega)
                      refine r_puti hC 2 (ci := 7) rfl u7_in tyX7_ok nmX7 (by decide) mT_1_61 rfl rfl rfl dX7_next_177 ka0 rfl rfl (fun I215 eI215 => ?_)
                      have hs215 := hs211.put1 eI215 ka0 rfl (by omega) (by omega) rfl rfl (by decide)
                      have hF215 := hF211.put eI215 ka0 rfl
                      exact r_vret hC hQ hlk hr (by decide) (by decide) dX7_next_180 ⟨_, _, rfl, rfl, ⟨hs215, hF215, hFJ118⟩⟩
                  · refine r_aload_n hC dX7_next_148 1 rfl ?_
                    refine r_callV hC (As := []) (rest := []) (ci := 7) (c_X7_takeDigits g (xL X) K len I116 J118 R hs116 a0 ka0) mT_2_167 mT_1_4 mT_2_164 mT_2_166 mP_2 okX7_takeDigits ⟨by decide, by decide⟩ rfl (by show kO (K a0) = _; rw [ka0]; rfl) rfl rfl (Nat.le_of_ble_eq_true rfl) ⟨by decide, by decide⟩ dX7_next_149 (aV2 (F := fun st M => P g X 2 152 [(1, .int x143_), (0, .ref a0)] st _ _ M) (M := (K, len, I116, J118, R)) fun I216 J216 h216 => ?_)
                    obtain ⟨hs216, hf216, hfj216⟩ := h216
                    show P g X 2 152 [(1, .int x143_), (0, .ref a0)] [] _ _ (K, len, I216, J216, R)
                    have hF216 : Fr K [(8, 2), (8, 3), (8, 4)] I I216 := hF116.trans hf216 rfl rfl
                    have hFJ216 : Fr K [(8, 5)] J J216 := hFJ118.trans hfj216 rfl rfl
                    refine r_goto hC (tgt := 180) dX7_next_152 (by decide) ?_
                    exact r_vret hC hQ hlk hr (by decide) (by decide) dX7_next_180 ⟨_, _, rfl, rfl, ⟨hs216, hF216, hFJ216⟩⟩
              · refine r_aload_n hC dX7_next_129 1 rfl ?_
                refine r_callV hC (As := []) (rest := []) (ci := 7) (c_X7_takeLetters g (xL X) K len I116 J118 R hs116 a0 ka0) mT_2_163 mT_1_4 mT_2_160 mT_2_162 mP_1 okX7_takeLetters ⟨by decide, by decide⟩ rfl (by show kO (K a0) = _; rw [ka0]; rfl) rfl rfl (Nat.le_of_ble_eq_true rfl) ⟨by decide, by decide⟩ dX7_next_130 (aV2 (F := fun st M => P g X 2 133 [(1, .int x143_), (0, .ref a0)] st _ _ M) (M := (K, len, I116, J118, R)) fun I217 J217 h217 => ?_)
                obtain ⟨hs217, hf217, hfj217⟩ := h217
                show P g X 2 133 [(1, .int x143_), (0, .ref a0)] [] _ _ (K, len, I217, J217, R)
                have hF217 : Fr K [(8, 2), (8, 3), (8, 4)] I I217 := hF116.trans hf217 rfl rfl
                have hFJ217 : Fr K [(8, 5)] J J217 := hFJ118.trans hfj217 rfl rfl
                refine r_goto hC (tgt := 180) dX7_next_133 (by decide) ?_
                exact r_vret hC hQ hlk hr (by decide) (by decide) dX7_next_180 ⟨_, _, rfl, rfl, ⟨hs217, hF217, hFJ217⟩⟩
          · refine r_aload_n hC dX7_next_109 1 rfl ?_
            refine r_iconst hC (v := (0)) dX7_next_110 (by decide) (by decide) (fun x218_ e218 t218 => ?_)
            refine r_puti hC 3 (ci := 7) rfl u7_in tyX7_ok nmX7 (by decide) mT_1_62 rfl rfl rfl dX7_next_111 ka0 rfl rfl (fun I219 eI219 => ?_)
            have hs219 := hs116.put0 eI219 ka0 rfl rfl rfl (by decide)
            have hF219 := hF116.put eI219 ka0 rfl
            refine r_goto hC (tgt := 180) dX7_next_114 (by decide) ?_
            exact r_vret hC hQ hlk hr (by decide) (by decide) dX7_next_180 ⟨_, _, rfl, rfl, ⟨hs219, hF219, hFJ118⟩⟩
      · refine r_aload_n hC dX7_next_32 0 rfl ?_
        obtain ⟨a220_, hb220, hk220⟩ := hs4.obj ka0 0 6 (by decide)
        refine r_getr hC 0 (ci := 7) rfl u7_in (by decide) mT_1_59 dX7_next_33 ka0 rfl rfl hb220 ?_
        obtain ⟨a221_, hb221, hk221, hn221⟩ := hs4.row hk220 0 40 900 (by decide) (by decide)
        refine r_getr hC 0 (ci := 5) rfl u5_in (by decide) mT_1_37 dX7_next_36 hk220 rfl rfl hb221 ?_
        refine r_iload_n hC dX7_next_39 1 rfl ?_
        refine x_baload hC hk221 hn221 (by decide) rfl rfl dX7_next_40 (by omega) (by omega) (fun x222_ e222 => ?_)
        refine r_bipush hC (v := (32)) dX7_next_41 (by decide) (by decide) (fun x223_ e223 t223 => ?_)
        refine r_icmp_eq hC (tgt := 51) dX7_next_43 (by decide) (fun c224 => ?_) (fun c224 => ?_)
        · obtain ⟨x225_, e225⟩ : ∃ z : Int32, z = x4_1 + Int32.ofInt (1) := ⟨_, rfl⟩
          refine r_iinc hC (j := 1) (v := x225_) (lv' := [(1, .int x225_), (0, .ref a0)]) dX7_next_51 rfl (by rw [e225]) (by decide) rfl ?_
          try have t225 : x225_.toInt = x4_1.toInt + (1) := by rw [e225]; exact (ti_add (b := Int32.ofInt (1)) (by show _ ≤ _ + (1 : Int); omega) (by show _ + (1 : Int) ≤ _; omega))
          refine r_goto hC (tgt := 13) dX7_next_54 (by decide) ?_
          refine r_sub [1, 0] rfl ?_
          exact ih4 ((900 - x225_.toInt).toNat) (by omega) x225_ I4 hs4 hF4 (by omega) (by omega) rfl
        · refine r_aload_n hC dX7_next_46 0 rfl ?_
          refine r_iload_n hC dX7_next_47 1 rfl ?_
          refine r_puti hC 4 (ci := 7) rfl u7_in tyX7_ok nmX7 (by decide) mT_1_63 rfl rfl rfl dX7_next_48 ka0 rfl rfl (fun I226 eI226 => ?_)
          have hs226 := hs4.put1 eI226 ka0 rfl (by omega) (by omega) rfl rfl (by decide)
          have hF226 := hF4.put eI226 ka0 rfl
          obtain ⟨x227_, e227⟩ : ∃ z : Int32, z = x4_1 + Int32.ofInt (1) := ⟨_, rfl⟩
          refine r_iinc hC (j := 1) (v := x227_) (lv' := [(1, .int x227_), (0, .ref a0)]) dX7_next_51 rfl (by rw [e227]) (by decide) rfl ?_
          try have t227 : x227_.toInt = x4_1.toInt + (1) := by rw [e227]; exact (ti_add (b := Int32.ofInt (1)) (by show _ ≤ _ + (1 : Int); omega) (by show _ + (1 : Int) ≤ _; omega))
          refine r_goto hC (tgt := 13) dX7_next_54 (by decide) ?_
          refine r_sub [1, 0] rfl ?_
          exact ih4 ((900 - x227_.toInt).toNat) (by omega) x227_ I226 hs226 hF226 (by omega) (by omega) rfl
  refine r_sub [1, 0] rfl ?_
  exact LP4 _ x3_ I2 hs2 hF2 (by omega) (by omega) rfl
set_option maxHeartbeats 4000000 in
set_option maxRecDepth 100000 in
theorem c_X7_begin (g : GG) (l : Launch) (K len : Nat → Nat) (I : Nat → Nat → Int32) (J : Nat → Nat → Int64) (R : Nat → Nat → Option Nat) (hs : Sf K len I R) (a0 : Nat) (ka0 : K a0 = 8) (x1 : Int32) (p0 : 0 ≤ x1.toInt) : Ct g l yX7_begin cX7_begin 2 (Option.none : Option Jvm.ClassFile.FieldType) rmX7_begin [.ref a0, .int x1] (K, len, I, J, R) (pV2 (K, len, I, J, R) (fun I' J' => Sf K len I' R ∧ Fr K [(8, 1), (8, 2), (8, 3), (8, 4)] I I' ∧ Fr K [(8, 5)] J J')) := by
  refine Ct_intro (by decide +kernel) (Nat.le_of_ble_eq_true rfl) (fun X hC hL hKK hNm hr hlk hQ => ?_)
  subst hL
  have hC : Cx g X cX7_begin "HillTap$Tokens" 2 rmX7_begin := hC
  show P g X 2 0 [(0, .ref a0), (1, .int x1)] [] 0 0 (K, len, I, J, R)
  have hF : Fr K [(8, 1), (8, 2), (8, 3), (8, 4)] I I := Fr.refl
  have hFJ : Fr K [(8, 5)] J J := Fr.refl
  have b_x1 := ti_rng x1
  refine r_aload_n hC dX7_begin_0 0 rfl ?_
  refine r_iload_n hC dX7_begin_1 1 rfl ?_
  refine r_aload_n hC dX7_begin_2 0 rfl ?_
  obtain ⟨a1_, hb1, hk1⟩ := hs.obj ka0 0 6 (by decide)
  refine r_getr hC 0 (ci := 7) rfl u7_in (by decide) mT_1_59 dX7_begin_3 ka0 rfl rfl hb1 ?_
  refine r_geti hC 1 (ci := 5) rfl u5_in (by decide) mT_1_39 dX7_begin_6 hk1 rfl rfl (fun x2_ e2 => ?_)
  have r2 := hs.rng hk1 rfl e2
  have f2 : x2_.toInt = (I a1_ 1).toInt := by rw [e2]
  refine r_mmin hC mT_2_153 mT_2_154 mT_1_12 mT_2_155 (by decide) (Nat.le_of_ble_eq_true rfl) (Nat.zero_le _) (Nat.zero_le _) dX7_begin_9 (fun x3_ e3 t3a t3b t3c => ?_)
  refine r_puti hC 1 (ci := 7) rfl u7_in tyX7_ok nmX7 (by decide) mT_1_60 rfl rfl rfl dX7_begin_12 ka0 rfl rfl (fun I4 eI4 => ?_)
  have hs4 := hs.put1 eI4 ka0 rfl (by omega) (by omega) rfl rfl (by decide)
  have hF4 := hF.put eI4 ka0 rfl
  refine r_aload_n hC dX7_begin_15 0 rfl ?_
  refine r_iconst hC (v := (0)) dX7_begin_16 (by decide) (by decide) (fun x5_ e5 t5 => ?_)
  refine r_puti hC 2 (ci := 7) rfl u7_in tyX7_ok nmX7 (by decide) mT_1_61 rfl rfl rfl dX7_begin_17 ka0 rfl rfl (fun I6 eI6 => ?_)
  have hs6 := hs4.put1 eI6 ka0 rfl (by omega) (by omega) rfl rfl (by decide)
  have hF6 := hF4.put eI6 ka0 rfl
  refine r_aload_n hC dX7_begin_20 0 rfl ?_
  refine r_callV hC (As := []) (rest := []) (ci := 7) (c_X7_next g (xL X) K len I6 J R hs6 a0 ka0) mT_2_159 mT_1_4 mT_2_156 mT_2_157 mT_2_158 okX7_next ⟨by decide, by decide⟩ rfl (by show kO (K a0) = _; rw [ka0]; rfl) rfl rfl (Nat.le_of_ble_eq_true rfl) ⟨by decide, by decide⟩ dX7_begin_21 (aV2 (F := fun st M => P g X 2 24 [(0, .ref a0), (1, .int x1)] st _ _ M) (M := (K, len, I6, J, R)) fun I7 J7 h7 => ?_)
  obtain ⟨hs7, hf7, hfj7⟩ := h7
  show P g X 2 24 [(0, .ref a0), (1, .int x1)] [] _ _ (K, len, I7, J7, R)
  have hF7 : Fr K [(8, 1), (8, 2), (8, 3), (8, 4)] I I7 := hF6.trans hf7 rfl rfl
  have hFJ7 : Fr K [(8, 5)] J J7 := hFJ.trans hfj7 rfl rfl
  exact r_vret hC hQ hlk hr (by decide) (by decide) dX7_begin_24 ⟨_, _, rfl, rfl, ⟨hs7, hF7, hFJ7⟩⟩
set_option maxHeartbeats 4000000 in
set_option maxRecDepth 100000 in
theorem c_X7_isWord (g : GG) (l : Launch) (K len : Nat → Nat) (I : Nat → Nat → Int32) (J : Nat → Nat → Int64) (R : Nat → Nat → Option Nat) (hs : Sf K len I R) (a0 : Nat) (ka0 : K a0 = 8) (i1 : Nat) (pi1 : i1 < 60) : Ct g l yX7_isWord cX7_isWord 4 (Option.some Jvm.ClassFile.FieldType.boolean) rmX7_isWord [.ref a0, .ref (g.2.2.1 i1)] (K, len, I, J, R) (pI0 (K, len, I, J, R) (fun r => (0 ≤ r.toInt) ∧ (r.toInt ≤ 1))) := by
  refine Ct_intro (by decide +kernel) (Nat.le_of_ble_eq_true rfl) (fun X hC hL hKK hNm hr hlk hQ => ?_)
  subst hL
  have hC : Cx g X cX7_isWord "HillTap$Tokens" 4 rmX7_isWord := hC
  show P g X 4 0 [(0, .ref a0), (1, .ref (g.2.2.1 i1))] [] 0 0 (K, len, I, J, R)
  have hF : Fr K [] I I := Fr.refl
  refine r_aload_n hC dX7_isWord_0 1 rfl ?_
  refine r_callT hC (As := []) (rest := []) (i := i1) pi1 (c_J0_length_8abf5 g (xL X) K len I J R hs i1 pi1) mT_2_181 mT_1_13 mT_2_178 mT_2_179 mT_2_180 okJ0_length_8abf5 ⟨by decide, by decide⟩ rfl rfl (Nat.le_of_ble_eq_true rfl) ⟨by decide, by decide⟩ dX7_isWord_1 (aI0 (F := fun st M => P g X 4 4 [(0, .ref a0), (1, .ref (g.2.2.1 i1))] st _ _ M) (M := (K, len, I, J, R)) fun x1_ h1 => ?_)
  obtain ⟨k1_0, k1_1, k1_2⟩ := h1
  show P g X 4 4 [(0, .ref a0), (1, .ref (g.2.2.1 i1))] [.int x1_] _ _ (K, len, I, J, R)
  refine r_istore_n hC (lv' := [(2, .int x1_), (0, .ref a0), (1, .ref (g.2.2.1 i1))]) dX7_isWord_4 (by decide) rfl ?_
  refine r_aload_n hC dX7_isWord_5 1 rfl ?_
  refine r_geti hC 3 (ci := 7) rfl u7_in (by decide) mT_1_62 dX7_isWord_6 ka0 rfl rfl (fun x2_ e2 => ?_)
  refine r_iconst hC (v := (1)) dX7_isWord_9 (by decide) (by decide) (fun x3_ e3 t3 => ?_)
  refine r_icmp_ne hC (tgt := 26) dX7_isWord_10 (by decide) (fun c4 => ?_) (fun c4 => ?_)
  · refine r_iconst hC (v := (0)) dX7_isWord_26 (by decide) (by decide) (fun x5_ e5 t5 => ?_)
    exact r_iret hC hQ hlk hr (by rw [e5]; rfl) (by decide) (by decide) dX7_isWord_27 ⟨_, rfl, rfl, ⟨(by omega), (by omega)⟩⟩
  · refine r_aload_n hC dX7_isWord_13 1 rfl ?_
    refine r_geti hC 2 (ci := 7) rfl u7_in (by decide) mT_1_61 dX7_isWord_14 ka0 rfl rfl (fun x6_ e6 => ?_)
    have r6 := hs.rng ka0 rfl e6
    have f6 : x6_.toInt = (I a0 2).toInt := by rw [e6]
    refine r_aload_n hC dX7_isWord_17 1 rfl ?_
    refine r_geti hC 4 (ci := 7) rfl u7_in (by decide) mT_1_63 dX7_isWord_18 ka0 rfl rfl (fun x7_ e7 => ?_)
    have r7 := hs.rng ka0 rfl e7
    have f7 : x7_.toInt = (I a0 4).toInt := by rw [e7]
    refine r_isub hC dX7_isWord_21 (fun x8_ e8 => ?_)
    try have t8 : x8_.toInt = x6_.toInt - x7_.toInt := by rw [e8]; exact ti_sub (by omega) (by omega)
    refine r_iload_n hC dX7_isWord_22 0 rfl ?_
    refine r_icmp_eq hC (tgt := 28) dX7_isWord_23 (by decide) (fun c9 => ?_) (fun c9 => ?_)
    · refine r_iconst hC (v := (0)) dX7_isWord_28 (by decide) (by decide) (fun x10_ e10 t10 => ?_)
      refine r_istore_n hC (lv' := [(3, .int x10_), (2, .int x1_), (0, .ref a0), (1, .ref (g.2.2.1 i1))]) dX7_isWord_29 (by decide) rfl ?_
      have LP11 : ∀ (mu : Nat) (x11_3 : Int32) (v11_0 : 0 ≤ x11_3.toInt) (v11_1 : x11_3.toInt ≤ x1_.toInt), (x1_.toInt - x11_3.toInt).toNat = mu → P g X 4 30 [(0, .ref a0), (1, .ref (g.2.2.1 i1)), (2, .int x1_), (3, .int x11_3)] [] 0 0 (K, len, I, J, R) := by
        intro mu; induction mu using Nat.strongRecOn with | ind mu ih => ?_
        intro x11_3 v11_0 v11_1 hmu
        have ih11 := ih
        clear ih
        have hmu11 := hmu
        clear hmu
        refine r_iload_n hC dX7_isWord_30 3 rfl ?_
        refine r_iload_n hC dX7_isWord_31 2 rfl ?_
        refine r_icmp_ge hC (tgt := 78) dX7_isWord_32 (by decide) (fun c12 => ?_) (fun c12 => ?_)
        · refine r_iconst hC (v := (1)) dX7_isWord_78 (by decide) (by decide) (fun x13_ e13 t13 => ?_)
          exact r_iret hC hQ hlk hr (by rw [e13]; rfl) (by decide) (by decide) dX7_isWord_79 ⟨_, rfl, rfl, ⟨(by omega), (by omega)⟩⟩
        · refine r_aload_n hC dX7_isWord_35 0 rfl ?_
          refine r_geti hC 4 (ci := 7) rfl u7_in (by decide) mT_1_63 dX7_isWord_36 ka0 rfl rfl (fun x14_ e14 => ?_)
          have r14 := hs.rng ka0 rfl e14
          have f14 : x14_.toInt = (I a0 4).toInt := by rw [e14]
          have w14 : x14_ = x7_ := by rw [e14]; exact e7.symm
          have wt14 : x14_.toInt = x7_.toInt := by rw [w14]
          refine r_iload_n hC dX7_isWord_39 3 rfl ?_
          refine r_iadd hC dX7_isWord_40 (fun x15_ e15 => ?_)
          try have t15 : x15_.toInt = x14_.toInt + x11_3.toInt := by rw [e15]; exact ti_add (by omega) (by omega)
          refine r_aload_n hC dX7_isWord_41 0 rfl ?_
          refine r_geti hC 1 (ci := 7) rfl u7_in (by decide) mT_1_60 dX7_isWord_42 ka0 rfl rfl (fun x16_ e16 => ?_)
          have r16 := hs.rng ka0 rfl e16
          have f16 : x16_.toInt = (I a0 1).toInt := by rw [e16]
          refine r_icmp_ge hC (tgt := 78) dX7_isWord_45 (by decide) (fun c17 => ?_) (fun c17 => ?_)
          · refine r_iconst hC (v := (1)) dX7_isWord_78 (by decide) (by decide) (fun x18_ e18 t18 => ?_)
            exact r_iret hC hQ hlk hr (by rw [e18]; rfl) (by decide) (by decide) dX7_isWord_79 ⟨_, rfl, rfl, ⟨(by omega), (by omega)⟩⟩
          · refine r_aload_n hC dX7_isWord_48 0 rfl ?_
            obtain ⟨a19_, hb19, hk19⟩ := hs.obj ka0 0 6 (by decide)
            refine r_getr hC 0 (ci := 7) rfl u7_in (by decide) mT_1_59 dX7_isWord_49 ka0 rfl rfl hb19 ?_
            obtain ⟨a20_, hb20, hk20, hn20⟩ := hs.row hk19 0 40 900 (by decide) (by decide)
            refine r_getr hC 0 (ci := 5) rfl u5_in (by decide) mT_1_37 dX7_isWord_52 hk19 rfl rfl hb20 ?_
            refine r_aload_n hC dX7_isWord_55 0 rfl ?_
            refine r_geti hC 4 (ci := 7) rfl u7_in (by decide) mT_1_63 dX7_isWord_56 ka0 rfl rfl (fun x21_ e21 => ?_)
            have r21 := hs.rng ka0 rfl e21
            have f21 : x21_.toInt = (I a0 4).toInt := by rw [e21]
            have w21 : x21_ = x14_ := by rw [e21]; exact e14.symm
            have wt21 : x21_.toInt = x14_.toInt := by rw [w21]
            refine r_iload_n hC dX7_isWord_59 3 rfl ?_
            refine r_iadd hC dX7_isWord_60 (fun x22_ e22 => ?_)
            try have t22 : x22_.toInt = x21_.toInt + x11_3.toInt := by rw [e22]; exact ti_add (by omega) (by omega)
            refine x_baload hC hk20 hn20 (by decide) rfl rfl dX7_isWord_61 (by omega) (by omega) (fun x23_ e23 => ?_)
            refine r_aload_n hC dX7_isWord_62 1 rfl ?_
            refine r_iload_n hC dX7_isWord_63 3 rfl ?_
            refine r_callT hC (As := [.int x11_3]) (rest := [.int x23_]) (i := i1) pi1 (c_J0_charAt_5068e g (xL X) K len I J R hs i1 pi1 x11_3 (by omega) (by omega)) mT_2_191 mT_1_13 mT_2_188 mT_2_189 mT_2_190 okJ0_charAt_5068e ⟨by decide, by decide⟩ rfl rfl (Nat.le_of_ble_eq_true rfl) ⟨by decide, by decide⟩ dX7_isWord_64 (aI0 (F := fun st M => P g X 4 67 [(0, .ref a0), (1, .ref (g.2.2.1 i1)), (2, .int x1_), (3, .int x11_3)] st _ _ M) (M := (K, len, I, J, R)) fun x24_ h24 => ?_)
            have k24_0 := h24
            show P g X 4 67 [(0, .ref a0), (1, .ref (g.2.2.1 i1)), (2, .int x1_), (3, .int x11_3)] [.int x24_, .int x23_] _ _ (K, len, I, J, R)
            refine r_icmp_eq hC (tgt := 72) dX7_isWord_67 (by decide) (fun c25 => ?_) (fun c25 => ?_)
            · obtain ⟨x26_, e26⟩ : ∃ z : Int32, z = x11_3 + Int32.ofInt (1) := ⟨_, rfl⟩
              refine r_iinc hC (j := 3) (v := x26_) (lv' := [(3, .int x26_), (0, .ref a0), (1, .ref (g.2.2.1 i1)), (2, .int x1_)]) dX7_isWord_72 rfl (by rw [e26]) (by decide) rfl ?_
              try have t26 : x26_.toInt = x11_3.toInt + (1) := by rw [e26]; exact (ti_add (b := Int32.ofInt (1)) (by show _ ≤ _ + (1 : Int); omega) (by show _ + (1 : Int) ≤ _; omega))
              refine r_goto hC (tgt := 30) dX7_isWord_75 (by decide) ?_
              refine r_sub [1, 2, 3, 0] rfl ?_
              exact ih11 ((x1_.toInt - x26_.toInt).toNat) (by omega) x26_ (by omega) (by omega) rfl
            · refine r_iconst hC (v := (0)) dX7_isWord_70 (by decide) (by decide) (fun x27_ e27 t27 => ?_)
              exact r_iret hC hQ hlk hr (by rw [e27]; rfl) (by decide) (by decide) dX7_isWord_71 ⟨_, rfl, rfl, ⟨(by omega), (by omega)⟩⟩
      refine r_sub [2, 3, 1, 0] rfl ?_
      exact LP11 _ x10_ (by omega) (by omega) rfl
    · refine r_iconst hC (v := (0)) dX7_isWord_26 (by decide) (by decide) (fun x28_ e28 t28 => ?_)
      exact r_iret hC hQ hlk hr (by rw [e28]; rfl) (by decide) (by decide) dX7_isWord_27 ⟨_, rfl, rfl, ⟨(by omega), (by omega)⟩⟩
