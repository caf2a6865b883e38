set_option maxHeartbeats 4000000 in
set_option maxRecDepth 100000 in
theorem f_X8_isStory (g : GG) (l : Launch) (K len : Nat → Nat) (I : Nat → Nat → Int32) (J : Nat → Nat → Int64) (R : Nat → Nat → Option Nat) (hs : Sf K len I R) (a0 : Nat) (ka0 : K a0 = 9) (x1 : Int32) (h : Nat) (hh : R a0 2 = some h) (kh : K h = 2) : Ct g l yX8_isStory cX8_isStory 2 (Option.some Jvm.ClassFile.FieldType.boolean) rmX8_isStory [.ref a0, .int x1] (K, len, I, J, R) (pI0 (K, len, I, J, R) (fun r => (r.toInt = 1 ∧ (0 ≤ x1.toInt ∧ x1.toInt < (I h 6).toInt) ∨ r.toInt = 0 ∧ ¬ (0 ≤ x1.toInt ∧ x1.toInt < (I h 6).toInt)))) := by
  refine Ct_intro (by decide +kernel) (Nat.le_of_ble_eq_true rfl) (fun X hC hL hKK hNm hr hlk hQ => ?_)
  subst hL
  have hC : Cx g X cX8_isStory "HillTap" 2 rmX8_isStory := hC
  show P g X 2 0 [(0, .ref a0), (1, .int x1)] [] 0 0 (K, len, I, J, R)
  have hF : Fr K [] I I := Fr.refl
  have b_x1 := ti_rng x1
  refine r_iload_n hC dX8_isStory_0 1 rfl ?_
  refine r_if_lt hC (tgt := 19) dX8_isStory_1 (by decide) (fun c1 => ?_) (fun c1 => ?_)
  · refine r_iconst hC (v := (0)) dX8_isStory_19 (by decide) (by decide) (fun x2_ e2 t2 => ?_)
    exact r_iret hC hQ hlk hr (by rw [e2]; rfl) (by decide) (by decide) dX8_isStory_20 ⟨_, rfl, rfl, (by omega)⟩
  · refine r_iload_n hC dX8_isStory_4 1 rfl ?_
    refine r_aload_n hC dX8_isStory_5 0 rfl ?_
    refine r_getr hC 2 (ci := 8) rfl u8_in (by decide) mT_2_80 dX8_isStory_6 ka0 rfl rfl hh ?_
    refine r_geti hC 6 (ci := 1) rfl u1_in (by decide) mT_1_202 dX8_isStory_9 kh rfl rfl (fun x3_ e3 => ?_)
    have r3 := hs.rng kh rfl e3
    have f3 : x3_.toInt = (I h 6).toInt := by rw [e3]
    refine r_icmp_ge hC (tgt := 19) dX8_isStory_12 (by decide) (fun c4 => ?_) (fun c4 => ?_)
    · refine r_iconst hC (v := (0)) dX8_isStory_19 (by decide) (by decide) (fun x5_ e5 t5 => ?_)
      exact r_iret hC hQ hlk hr (by rw [e5]; rfl) (by decide) (by decide) dX8_isStory_20 ⟨_, rfl, rfl, (by omega)⟩
    · refine r_iconst hC (v := (1)) dX8_isStory_15 (by decide) (by decide) (fun x6_ e6 t6 => ?_)
      refine r_goto hC (tgt := 20) dX8_isStory_16 (by decide) ?_
      exact r_iret hC hQ hlk hr (by rw [e6]; rfl) (by decide) (by decide) dX8_isStory_20 ⟨_, rfl, rfl, (by omega)⟩
set_option maxHeartbeats 4000000 in
set_option maxRecDepth 100000 in
theorem f_X4_findsAt (g : GG) (l : Launch) (K len : Nat → Nat) (I : Nat → Nat → Int32) (J : Nat → Nat → Int64) (R : Nat → Nat → Option Nat) (hs : Sf K len I R) (a0 : Nat) (ka0 : K a0 = 5) (x1 : Int32) : Ct g l yX4_findsAt cX4_findsAt 2 (Option.some Jvm.ClassFile.FieldType.int) rmX4_findsAt [.ref a0, .int x1] (K, len, I, J, R) (pI0 (K, len, I, J, R) (fun r => (r.toInt = fnd (I a0 1).toInt (I a0 2).toInt x1.toInt))) := by
  refine Ct_intro (by decide +kernel) (Nat.le_of_ble_eq_true rfl) (fun X hC hL hKK hNm hr hlk hQ => ?_)
  subst hL
  have hC : Cx g X cX4_findsAt "HillTap$Story" 2 rmX4_findsAt := hC
  show P g X 2 0 [(0, .ref a0), (1, .int x1)] [] 0 0 (K, len, I, J, R)
  have hF : Fr K [] I I := Fr.refl
  have b_x1 := ti_rng x1
  refine r_aload_n hC dX4_findsAt_0 0 rfl ?_
  refine r_geti hC 1 (ci := 4) rfl u4_in (by decide) mT_1_162 dX4_findsAt_1 ka0 rfl rfl (fun x1_ e1 => ?_)
  have f1 : x1_.toInt = (I a0 1).toInt := by rw [e1]
  by_cases o2 : x1_.toInt < 1 ∨ 5 < x1_.toInt
  · refine r_tabOut hC (tgt := 89) dX4_findsAt_4 o2 (by decide) ?_
    refine r_iconst hC (v := (0)) dX4_findsAt_89 (by decide) (by decide) (fun x3_ e3 t3 => ?_)
    exact r_iret hC hQ hlk hr rfl (by decide) (by decide) dX4_findsAt_90 ⟨_, rfl, rfl, (by first | exact fnd_1 (by omega) (by omega) (by omega) | exact fnd_1n (by omega) (by omega) (by omega) | exact fnd_3 (by omega) (by omega) (by omega) | exact fnd_3n (by omega) (by omega) (by omega) | exact fnd_5 (by omega) (by omega) (by omega) | exact fnd_5n (by omega) (by omega) (by omega) | exact fnd_d (by omega) (by omega) | exact fnd_2 (by omega) (by omega) (by omega) NOfdm NOfdr (by omega))⟩
  · rcases (show x1_.toInt = 1 ∨ x1_.toInt = 2 ∨ x1_.toInt = 3 ∨ x1_.toInt = 4 ∨ x1_.toInt = 5 by omega) with o2 | o2 | o2 | o2 | o2
    · refine r_tabIn hC (tgt := 40) (off := 36) dX4_findsAt_4 (by omega) (by omega) (by rw [o2]; decide) (by decide) ?_
      refine r_iload_n hC dX4_findsAt_40 1 rfl ?_
      refine r_aload_n hC dX4_findsAt_41 0 rfl ?_
      refine r_geti hC 2 (ci := 4) rfl u4_in (by decide) mT_1_166 dX4_findsAt_42 ka0 rfl rfl (fun x4_ e4 => ?_)
      have f4 : x4_.toInt = (I a0 2).toInt := by rw [e4]
      refine r_icmp_gt hC (tgt := 52) dX4_findsAt_45 (by decide) (fun c5 => ?_) (fun c5 => ?_)
      · refine r_iconst hC (v := (0)) dX4_findsAt_52 (by decide) (by decide) (fun x6_ e6 t6 => ?_)
        exact r_iret hC hQ hlk hr rfl (by decide) (by decide) dX4_findsAt_53 ⟨_, rfl, rfl, (by first | exact fnd_1 (by omega) (by omega) (by omega) | exact fnd_1n (by omega) (by omega) (by omega) | exact fnd_3 (by omega) (by omega) (by omega) | exact fnd_3n (by omega) (by omega) (by omega) | exact fnd_5 (by omega) (by omega) (by omega) | exact fnd_5n (by omega) (by omega) (by omega) | exact fnd_d (by omega) (by omega) | exact fnd_2 (by omega) (by omega) (by omega) NOfdm NOfdr (by omega))⟩
      · refine r_iconst hC (v := (1)) dX4_findsAt_48 (by decide) (by decide) (fun x7_ e7 t7 => ?_)
        refine r_goto hC (tgt := 53) dX4_findsAt_49 (by decide) ?_
        exact r_iret hC hQ hlk hr rfl (by decide) (by decide) dX4_findsAt_53 ⟨_, rfl, rfl, (by first | exact fnd_1 (by omega) (by omega) (by omega) | exact fnd_1n (by omega) (by omega) (by omega) | exact fnd_3 (by omega) (by omega) (by omega) | exact fnd_3n (by omega) (by omega) (by omega) | exact fnd_5 (by omega) (by omega) (by omega) | exact fnd_5n (by omega) (by omega) (by omega) | exact fnd_d (by omega) (by omega) | exact fnd_2 (by omega) (by omega) (by omega) NOfdm NOfdr (by omega))⟩
    · refine r_tabIn hC (tgt := 54) (off := 50) dX4_findsAt_4 (by omega) (by omega) (by rw [o2]; decide) (by decide) ?_
      refine r_aload_n hC dX4_findsAt_54 0 rfl ?_
      refine r_geti hC 2 (ci := 4) rfl u4_in (by decide) mT_1_166 dX4_findsAt_55 ka0 rfl rfl (fun x8_ e8 => ?_)
      have f8 : x8_.toInt = (I a0 2).toInt := by rw [e8]
      refine r_iload_n hC dX4_findsAt_58 1 rfl ?_
      refine r_imul hC dX4_findsAt_59 (fun x9_ e9 => ?_)
      refine r_bipush hC (v := (10)) dX4_findsAt_60 (by decide) (by decide) (fun x10_ e10 t10 => ?_)
      refine r_idiv hC dX4_findsAt_62 (ne_0 (by omega)) (fun x11_ e11 => ?_)
      exact r_iret hC hQ hlk hr rfl (by decide) (by decide) dX4_findsAt_63 ⟨_, rfl, rfl, (by first | exact fnd_1 (by omega) (by omega) (by omega) | exact fnd_1n (by omega) (by omega) (by omega) | exact fnd_3 (by omega) (by omega) (by omega) | exact fnd_3n (by omega) (by omega) (by omega) | exact fnd_5 (by omega) (by omega) (by omega) | exact fnd_5n (by omega) (by omega) (by omega) | exact fnd_d (by omega) (by omega) | exact fnd_2 (by omega) (by omega) (by omega) e9 e11 (by omega))⟩
    · refine r_tabIn hC (tgt := 64) (off := 60) dX4_findsAt_4 (by omega) (by omega) (by rw [o2]; decide) (by decide) ?_
      refine r_iload_n hC dX4_findsAt_64 1 rfl ?_
      refine r_aload_n hC dX4_findsAt_65 0 rfl ?_
      refine r_geti hC 2 (ci := 4) rfl u4_in (by decide) mT_1_166 dX4_findsAt_66 ka0 rfl rfl (fun x12_ e12 => ?_)
      have f12 : x12_.toInt = (I a0 2).toInt := by rw [e12]
      refine r_icmp_ne hC (tgt := 76) dX4_findsAt_69 (by decide) (fun c13 => ?_) (fun c13 => ?_)
      · refine r_iconst hC (v := (0)) dX4_findsAt_76 (by decide) (by decide) (fun x14_ e14 t14 => ?_)
        exact r_iret hC hQ hlk hr rfl (by decide) (by decide) dX4_findsAt_77 ⟨_, rfl, rfl, (by first | exact fnd_1 (by omega) (by omega) (by omega) | exact fnd_1n (by omega) (by omega) (by omega) | exact fnd_3 (by omega) (by omega) (by omega) | exact fnd_3n (by omega) (by omega) (by omega) | exact fnd_5 (by omega) (by omega) (by omega) | exact fnd_5n (by omega) (by omega) (by omega) | exact fnd_d (by omega) (by omega) | exact fnd_2 (by omega) (by omega) (by omega) NOfdm NOfdr (by omega))⟩
      · refine r_iconst hC (v := (2)) dX4_findsAt_72 (by decide) (by decide) (fun x15_ e15 t15 => ?_)
        refine r_goto hC (tgt := 77) dX4_findsAt_73 (by decide) ?_
        exact r_iret hC hQ hlk hr rfl (by decide) (by decide) dX4_findsAt_77 ⟨_, rfl, rfl, (by first | exact fnd_1 (by omega) (by omega) (by omega) | exact fnd_1n (by omega) (by omega) (by omega) | exact fnd_3 (by omega) (by omega) (by omega) | exact fnd_3n (by omega) (by omega) (by omega) | exact fnd_5 (by omega) (by omega) (by omega) | exact fnd_5n (by omega) (by omega) (by omega) | exact fnd_d (by omega) (by omega) | exact fnd_2 (by omega) (by omega) (by omega) NOfdm NOfdr (by omega))⟩
    · refine r_tabIn hC (tgt := 89) (off := 85) dX4_findsAt_4 (by omega) (by omega) (by rw [o2]; decide) (by decide) ?_
      refine r_iconst hC (v := (0)) dX4_findsAt_89 (by decide) (by decide) (fun x16_ e16 t16 => ?_)
      exact r_iret hC hQ hlk hr rfl (by decide) (by decide) dX4_findsAt_90 ⟨_, rfl, rfl, (by first | exact fnd_1 (by omega) (by omega) (by omega) | exact fnd_1n (by omega) (by omega) (by omega) | exact fnd_3 (by omega) (by omega) (by omega) | exact fnd_3n (by omega) (by omega) (by omega) | exact fnd_5 (by omega) (by omega) (by omega) | exact fnd_5n (by omega) (by omega) (by omega) | exact fnd_d (by omega) (by omega) | exact fnd_2 (by omega) (by omega) (by omega) NOfdm NOfdr (by omega))⟩
    · refine r_tabIn hC (tgt := 78) (off := 74) dX4_findsAt_4 (by omega) (by omega) (by rw [o2]; decide) (by decide) ?_
      refine r_iload_n hC dX4_findsAt_78 1 rfl ?_
      refine r_iconst hC (v := (5)) dX4_findsAt_79 (by decide) (by decide) (fun x17_ e17 t17 => ?_)
      refine r_icmp_gt hC (tgt := 87) dX4_findsAt_80 (by decide) (fun c18 => ?_) (fun c18 => ?_)
      · refine r_iconst hC (v := (0)) dX4_findsAt_87 (by decide) (by decide) (fun x19_ e19 t19 => ?_)
        exact r_iret hC hQ hlk hr rfl (by decide) (by decide) dX4_findsAt_88 ⟨_, rfl, rfl, (by first | exact fnd_1 (by omega) (by omega) (by omega) | exact fnd_1n (by omega) (by omega) (by omega) | exact fnd_3 (by omega) (by omega) (by omega) | exact fnd_3n (by omega) (by omega) (by omega) | exact fnd_5 (by omega) (by omega) (by omega) | exact fnd_5n (by omega) (by omega) (by omega) | exact fnd_d (by omega) (by omega) | exact fnd_2 (by omega) (by omega) (by omega) NOfdm NOfdr (by omega))⟩
      · refine r_iconst hC (v := (1)) dX4_findsAt_83 (by decide) (by decide) (fun x20_ e20 t20 => ?_)
        refine r_goto hC (tgt := 88) dX4_findsAt_84 (by decide) ?_
        exact r_iret hC hQ hlk hr rfl (by decide) (by decide) dX4_findsAt_88 ⟨_, rfl, rfl, (by first | exact fnd_1 (by omega) (by omega) (by omega) | exact fnd_1n (by omega) (by omega) (by omega) | exact fnd_3 (by omega) (by omega) (by omega) | exact fnd_3n (by omega) (by omega) (by omega) | exact fnd_5 (by omega) (by omega) (by omega) | exact fnd_5n (by omega) (by omega) (by omega) | exact fnd_d (by omega) (by omega) | exact fnd_2 (by omega) (by omega) (by omega) NOfdm NOfdr (by omega))⟩
set_option maxHeartbeats 4000000 in
set_option maxRecDepth 100000 in
theorem f_X8_found (g : GG) (l : Launch) (K len : Nat → Nat) (I : Nat → Nat → Int32) (J : Nat → Nat → Int64) (R : Nat → Nat → Option Nat) (hs : Sf K len I R) (a0 : Nat) (ka0 : K a0 = 9) (x1 : Int32) (x2 : Int32) (h : Nat) (hh : R a0 2 = some h) (kh : K h = 2) (lk : Nat) (hlk2 : R h 0 = some lk) (klk : K lk = 3) (D : DD) (rwd : RW (CC h lk R) (cntN D) D I) (hd7 : (I h 6).toInt = D 0 7) : Ct g l yX8_found cX8_found 3 (Option.some Jvm.ClassFile.FieldType.int) rmX8_found [.ref a0, .int x1, .int x2] (K, len, I, J, R) (pI1 (K, len, I, J, R) (fun r I' => Sf K len I' R ∧ Fr K [(9, 12)] I I' ∧ (((0 ≤ x1.toInt ∧ x1.toInt < D 0 7 ∧ 0 ≤ x2.toInt ∧ x2.toInt ≤ 99) ∧ r.toInt = fnd (D 7 x1.toInt.toNat) (D 8 x1.toInt.toNat) x2.toInt) ∨ (¬ (0 ≤ x1.toInt ∧ x1.toInt < D 0 7 ∧ 0 ≤ x2.toInt ∧ x2.toInt ≤ 99) ∧ r.toInt = -1)) ∧ ((I' a0 12).toInt ≠ 4))) := by
  refine Ct_intro (by decide +kernel) (Nat.le_of_ble_eq_true rfl) (fun X hC hL hKK hNm hr hlk hQ => ?_)
  subst hL
  have hC : Cx g X cX8_found "HillTap" 3 rmX8_found := hC
  show P g X 3 0 [(0, .ref a0), (1, .int x1), (2, .int x2)] [] 0 0 (K, len, I, J, R)
  have hF : Fr K [(9, 12)] I I := Fr.refl
  have b_x1 := ti_rng x1
  have b_x2 := ti_rng x2
  obtain ⟨S6, eS6⟩ : ∃ z : Int32, z = I h 6 := ⟨_, rfl⟩
  have fS6 : S6.toInt = (I h 6).toInt := by rw [eS6]
  have rS6 := hs.rng kh rfl eS6
  refine r_aload_n hC dX8_found_0 0 rfl ?_
  refine r_iload_n hC dX8_found_1 1 rfl ?_
  refine r_callV hC (As := [.int x1]) (rest := []) (ci := 8) (f_X8_isStory g (xL X) K len I J R hs a0 ka0 x1 h hh kh) mT_3_155 mT_1_1 mT_3_152 mT_3_154 mP_24 okX8_isStory ⟨by decide, by decide⟩ rfl (by show kO (K a0) = _; rw [ka0]; rfl) rfl rfl (Nat.le_of_ble_eq_true rfl) ⟨by decide, by decide⟩ dX8_found_2 (aI0 (F := fun st M => P g X 3 5 [(0, .ref a0), (1, .int x1), (2, .int x2)] st _ _ M) (M := (K, len, I, J, R)) fun x1_ h1 => ?_)
  have k1_0 := h1
  clear h1
  show P g X 3 5 [(0, .ref a0), (1, .int x1), (2, .int x2)] [.int x1_] _ _ (K, len, I, J, R)
  rcases k1_0 with ⟨hr1, hw1⟩ | ⟨hr1, hw1⟩
  · refine r_if_ne hC (tgt := 14) dX8_found_5 (by decide) (fun c2 => ?_) (fun c2 => ?_)
    rotate_left
    · exfalso; omega
    refine r_iload_n hC dX8_found_14 2 rfl ?_
    refine r_if_lt hC (tgt := 24) dX8_found_15 (by decide) (fun c3 => ?_) (fun c3 => ?_)
    · refine r_aload_n hC dX8_found_24 0 rfl ?_
      refine r_iconst hC (v := (2)) dX8_found_25 (by decide) (by decide) (fun x4_ e4 t4 => ?_)
      refine r_callV hC (As := [.int x4_]) (rest := []) (ci := 8) (c_X8_refuse g (xL X) K len I J R hs a0 ka0 x4_) mT_2_133 mT_1_1 mT_2_130 mT_2_132 mP_0 okX8_refuse ⟨by decide, by decide⟩ rfl (by show kO (K a0) = _; rw [ka0]; rfl) rfl rfl (Nat.le_of_ble_eq_true rfl) ⟨by decide, by decide⟩ dX8_found_26 (aI1 (F := fun st M => P g X 3 29 [(0, .ref a0), (1, .int x1), (2, .int x2)] st _ _ M) (M := (K, len, I, J, R)) fun x5_ I5 h5 => ?_)
      obtain ⟨hs5, hf5, k5_0, k5_1⟩ := h5
      show P g X 3 29 [(0, .ref a0), (1, .int x1), (2, .int x2)] [.int x5_] _ _ (K, len, I5, J, R)
      have hF5 : Fr K [(9, 12)] I I5 := hF.trans hf5 rfl rfl
      exact r_iret hC hQ hlk hr rfl (by decide) (by decide) dX8_found_29 ⟨_, _, rfl, rfl, ⟨hs5, hF5, (by first | exact Or.inr ⟨by omega, by omega⟩ | exact Or.inl ⟨by omega, (congrArg Int32.toInt k5_0).trans fq⟩), (by omega)⟩⟩
    · refine r_iload_n hC dX8_found_18 2 rfl ?_
      refine r_bipush hC (v := (99)) dX8_found_19 (by decide) (by decide) (fun x6_ e6 t6 => ?_)
      refine r_icmp_le hC (tgt := 30) dX8_found_21 (by decide) (fun c7 => ?_) (fun c7 => ?_)
      · refine r_aload_n hC dX8_found_30 0 rfl ?_
        refine r_aload_n hC dX8_found_31 0 rfl ?_
        refine r_getr hC 2 (ci := 8) rfl u8_in (by decide) mT_2_80 dX8_found_32 ka0 rfl rfl hh ?_
        obtain ⟨a8_, hb8, hk8, hn8⟩ := hs.row kh 7 45 6 (by decide) (by decide)
        refine r_getr hC 7 (ci := 1) rfl u1_in (by decide) mT_1_205 dX8_found_35 kh rfl rfl hb8 ?_
        refine r_iload_n hC dX8_found_38 1 rfl ?_
        obtain ⟨a9_, hb9, hk9⟩ := hs.sto hk8 (i := x1) (by omega) (by omega)
        refine x_aaload (C := "HillTap$Story") hC hk8 hn8 (by decide) rfl (by decide) dX8_found_39 (by omega) (by omega) hb9 ?_
        refine r_iload_n hC dX8_found_40 2 rfl ?_
        have q7 : (I a9_ 1).toInt = D 7 x1.toInt.toNat := rwd 7 _ _ _ (cCs (k := 1) (by decide) (by omega) hb8 (by rw [← clx (i := x1) rfl (by omega)]; exact hb9)) (by rw [cnt_7]; omega) (fun h9 => absurd h9 (by decide))
        have q8 : (I a9_ 2).toInt = D 8 x1.toInt.toNat := rwd 8 _ _ _ (cCs (k := 2) (by decide) (by omega) hb8 (by rw [← clx (i := x1) rfl (by omega)]; exact hb9)) (by rw [cnt_8]; omega) (fun h9 => absurd h9 (by decide))
        refine r_callV hC (As := [.int x2]) (rest := [.ref a0]) (ci := 4) (f_X4_findsAt g (xL X) K len I J R hs a9_ hk9 x2) mT_4_98 mT_1_7 mT_4_95 mT_4_96 mT_4_97 okX4_findsAt ⟨by decide, by decide⟩ rfl (by show kO (K a9_) = _; rw [hk9]; rfl) rfl rfl (Nat.le_of_ble_eq_true rfl) ⟨by decide, by decide⟩ dX8_found_41 (aI0 (F := fun st M => P g X 3 44 [(0, .ref a0), (1, .int x1), (2, .int x2)] st _ _ M) (M := (K, len, I, J, R)) fun x10_ h10 => ?_)
        have k10_0 := h10
        clear h10
        show P g X 3 44 [(0, .ref a0), (1, .int x1), (2, .int x2)] [.int x10_, .ref a0] _ _ (K, len, I, J, R)
        have fq : x10_.toInt = fnd (D 7 x1.toInt.toNat) (D 8 x1.toInt.toNat) x2.toInt := by rw [k10_0, q7, q8]
        refine r_callV hC (As := [.int x10_]) (rest := []) (ci := 8) (c_X8_answer g (xL X) K len I J R hs a0 ka0 x10_) mT_3_115 mT_1_1 mT_3_112 mT_3_114 mP_21 okX8_answer ⟨by decide, by decide⟩ rfl (by show kO (K a0) = _; rw [ka0]; rfl) rfl rfl (Nat.le_of_ble_eq_true rfl) ⟨by decide, by decide⟩ dX8_found_44 (aI1 (F := fun st M => P g X 3 47 [(0, .ref a0), (1, .int x1), (2, .int x2)] st _ _ M) (M := (K, len, I, J, R)) fun x11_ I11 h11 => ?_)
        obtain ⟨hs11, hf11, k11_0, k11_1⟩ := h11
        show P g X 3 47 [(0, .ref a0), (1, .int x1), (2, .int x2)] [.int x11_] _ _ (K, len, I11, J, R)
        have hF11 : Fr K [(9, 12)] I I11 := hF.trans hf11 rfl rfl
        exact r_iret hC hQ hlk hr rfl (by decide) (by decide) dX8_found_47 ⟨_, _, rfl, rfl, ⟨hs11, hF11, (by first | exact Or.inr ⟨by omega, by omega⟩ | exact Or.inl ⟨by omega, (congrArg Int32.toInt k11_0).trans fq⟩), (by omega)⟩⟩
      · refine r_aload_n hC dX8_found_24 0 rfl ?_
        refine r_iconst hC (v := (2)) dX8_found_25 (by decide) (by decide) (fun x12_ e12 t12 => ?_)
        refine r_callV hC (As := [.int x12_]) (rest := []) (ci := 8) (c_X8_refuse g (xL X) K len I J R hs a0 ka0 x12_) mT_2_133 mT_1_1 mT_2_130 mT_2_132 mP_0 okX8_refuse ⟨by decide, by decide⟩ rfl (by show kO (K a0) = _; rw [ka0]; rfl) rfl rfl (Nat.le_of_ble_eq_true rfl) ⟨by decide, by decide⟩ dX8_found_26 (aI1 (F := fun st M => P g X 3 29 [(0, .ref a0), (1, .int x1), (2, .int x2)] st _ _ M) (M := (K, len, I, J, R)) fun x13_ I13 h13 => ?_)
        obtain ⟨hs13, hf13, k13_0, k13_1⟩ := h13
        show P g X 3 29 [(0, .ref a0), (1, .int x1), (2, .int x2)] [.int x13_] _ _ (K, len, I13, J, R)
        have hF13 : Fr K [(9, 12)] I I13 := hF.trans hf13 rfl rfl
        exact r_iret hC hQ hlk hr rfl (by decide) (by decide) dX8_found_29 ⟨_, _, rfl, rfl, ⟨hs13, hF13, (by first | exact Or.inr ⟨by omega, by omega⟩ | exact Or.inl ⟨by omega, (congrArg Int32.toInt k13_0).trans fq⟩), (by omega)⟩⟩
  · refine r_if_ne hC (tgt := 14) dX8_found_5 (by decide) (fun c14 => ?_) (fun c14 => ?_)
    · exfalso; omega
    refine r_aload_n hC dX8_found_8 0 rfl ?_
    refine r_iconst hC (v := (1)) dX8_found_9 (by decide) (by decide) (fun x15_ e15 t15 => ?_)
    refine r_callV hC (As := [.int x15_]) (rest := []) (ci := 8) (c_X8_refuse g (xL X) K len I J R hs a0 ka0 x15_) mT_2_133 mT_1_1 mT_2_130 mT_2_132 mP_0 okX8_refuse ⟨by decide, by decide⟩ rfl (by show kO (K a0) = _; rw [ka0]; rfl) rfl rfl (Nat.le_of_ble_eq_true rfl) ⟨by decide, by decide⟩ dX8_found_10 (aI1 (F := fun st M => P g X 3 13 [(0, .ref a0), (1, .int x1), (2, .int x2)] st _ _ M) (M := (K, len, I, J, R)) fun x16_ I16 h16 => ?_)
    obtain ⟨hs16, hf16, k16_0, k16_1⟩ := h16
    show P g X 3 13 [(0, .ref a0), (1, .int x1), (2, .int x2)] [.int x16_] _ _ (K, len, I16, J, R)
    have hF16 : Fr K [(9, 12)] I I16 := hF.trans hf16 rfl rfl
    exact r_iret hC hQ hlk hr rfl (by decide) (by decide) dX8_found_13 ⟨_, _, rfl, rfl, ⟨hs16, hF16, (by first | exact Or.inr ⟨by omega, by omega⟩ | exact Or.inl ⟨by omega, (congrArg Int32.toInt k16_0).trans fq⟩), (by omega)⟩⟩
set_option maxHeartbeats 4000000 in
set_option maxRecDepth 100000 in
theorem f_X10_isStory (g : GG) (l : Launch) (K len : Nat → Nat) (I : Nat → Nat → Int32) (J : Nat → Nat → Int64) (R : Nat → Nat → Option Nat) (hs : Sf K len I R) (a0 : Nat) (ka0 : K a0 = 11) (x1 : Int32) : Ct g l yX10_isStory cX10_isStory 2 (Option.some Jvm.ClassFile.FieldType.boolean) rmX10_isStory [.ref a0, .int x1] (K, len, I, J, R) (pI0 (K, len, I, J, R) (fun r => ((R a0 3 = none ∧ r.toInt = 0) ∨ (∃ hm, R a0 3 = some hm ∧ (r.toInt = 1 ∧ (0 ≤ x1.toInt ∧ x1.toInt < (I hm 7).toInt) ∨ r.toInt = 0 ∧ ¬ (0 ≤ x1.toInt ∧ x1.toInt < (I hm 7).toInt)))))) := by
  refine Ct_intro (by decide +kernel) (Nat.le_of_ble_eq_true rfl) (fun X hC hL hKK hNm hr hlk hQ => ?_)
  subst hL
  have hC : Cx g X cX10_isStory "HillTapModel" 2 rmX10_isStory := hC
  show P g X 2 0 [(0, .ref a0), (1, .int x1)] [] 0 0 (K, len, I, J, R)
  have hF : Fr K [] I I := Fr.refl
  have b_x1 := ti_rng x1
  refine r_aload_n hC dX10_isStory_0 0 rfl ?_
  rcases hs.2.1.2.2.1 a0 ka0 with hz1 | ⟨a1_, hb1, hk1⟩
  · refine r_getz hC 3 (ci := 10) rfl u10_in (by decide) mT_4_238 dX10_isStory_1 ka0 rfl rfl hz1 ?_
    refine r_ifnullN hC (tgt := 26) dX10_isStory_4 (by decide) ?_
    refine r_iconst hC (v := (0)) dX10_isStory_26 (by decide) (by decide) (fun x2_ e2 t2 => ?_)
    exact r_iret hC hQ hlk hr (by rw [e2]; rfl) (by decide) (by decide) dX10_isStory_27 ⟨_, rfl, rfl, (by first | exact Or.inl ⟨hz1, by omega⟩ | exact Or.inr ⟨_, hz1, by omega⟩)⟩
  · refine r_getr hC 3 (ci := 10) rfl u10_in (by decide) mT_4_238 dX10_isStory_1 ka0 rfl rfl hb1 ?_
    refine r_ifnull hC dX10_isStory_4 ?_
    refine r_iload_n hC dX10_isStory_7 1 rfl ?_
    refine r_if_lt hC (tgt := 26) dX10_isStory_8 (by decide) (fun c3 => ?_) (fun c3 => ?_)
    · refine r_iconst hC (v := (0)) dX10_isStory_26 (by decide) (by decide) (fun x4_ e4 t4 => ?_)
      exact r_iret hC hQ hlk hr (by rw [e4]; rfl) (by decide) (by decide) dX10_isStory_27 ⟨_, rfl, rfl, (by first | exact Or.inl ⟨hb1, by omega⟩ | exact Or.inr ⟨_, hb1, by omega⟩)⟩
    · refine r_iload_n hC dX10_isStory_11 1 rfl ?_
      refine r_aload_n hC dX10_isStory_12 0 rfl ?_
      refine r_getr hC 3 (ci := 10) rfl u10_in (by decide) mT_4_238 dX10_isStory_13 ka0 rfl rfl hb1 ?_
      refine r_getiN hC 7 (ci := 9) rfl u9_in (by decide) nF_7 dX10_isStory_16 hk1 rfl rfl (fun x5_ e5 => ?_)
      have r5 := hs.rng hk1 rfl e5
      have f5 : x5_.toInt = (I a1_ 7).toInt := by rw [e5]
      refine r_icmp_ge hC (tgt := 26) dX10_isStory_19 (by decide) (fun c6 => ?_) (fun c6 => ?_)
      · refine r_iconst hC (v := (0)) dX10_isStory_26 (by decide) (by decide) (fun x7_ e7 t7 => ?_)
        exact r_iret hC hQ hlk hr (by rw [e7]; rfl) (by decide) (by decide) dX10_isStory_27 ⟨_, rfl, rfl, (by first | exact Or.inl ⟨hb1, by omega⟩ | exact Or.inr ⟨_, hb1, by omega⟩)⟩
      · refine r_iconst hC (v := (1)) dX10_isStory_22 (by decide) (by decide) (fun x8_ e8 t8 => ?_)
        refine r_goto hC (tgt := 27) dX10_isStory_23 (by decide) ?_
        exact r_iret hC hQ hlk hr (by rw [e8]; rfl) (by decide) (by decide) dX10_isStory_27 ⟨_, rfl, rfl, (by first | exact Or.inl ⟨hb1, by omega⟩ | exact Or.inr ⟨_, hb1, by omega⟩)⟩
set_option maxHeartbeats 4000000 in
set_option maxRecDepth 100000 in
theorem f_X10_foundBy (g : GG) (l : Launch) (K len : Nat → Nat) (I : Nat → Nat → Int32) (J : Nat → Nat → Int64) (R : Nat → Nat → Option Nat) (hs : Sf K len I R) (a0 : Nat) (ka0 : K a0 = 11) (x1 : Int32) (x2 : Int32) (hm : Nat) (hbm : R a0 3 = some hm) (khm : K hm = 10) (D : DD) (rwm : RW (CM hm R) (cntN D) D I) (hd7 : (I hm 7).toInt = D 0 7) (p0 : 0 ≤ x1.toInt) (p1 : x1.toInt < D 0 7) : Ct g l yX10_foundBy cX10_foundBy 4 (Option.some Jvm.ClassFile.FieldType.int) rmX10_foundBy [.ref a0, .int x1, .int x2] (K, len, I, J, R) (pI0 (K, len, I, J, R) (fun r => (r.toInt = fnd (D 7 x1.toInt.toNat) (D 8 x1.toInt.toNat) x2.toInt))) := by
  refine Ct_intro (by decide +kernel) (Nat.le_of_ble_eq_true rfl) (fun X hC hL hKK hNm hr hlk hQ => ?_)
  subst hL
  have hC : Cx g X cX10_foundBy "HillTapModel" 4 rmX10_foundBy := hC
  show P g X 4 0 [(0, .ref a0), (1, .int x1), (2, .int x2)] [] 0 0 (K, len, I, J, R)
  have hF : Fr K [] I I := Fr.refl
  have b_x1 := ti_rng x1
  have b_x2 := ti_rng x2
  obtain ⟨S7, eS7⟩ : ∃ z : Int32, z = I hm 7 := ⟨_, rfl⟩
  have fS7 : S7.toInt = (I hm 7).toInt := by rw [eS7]
  have rS7 := hs.rng khm rfl eS7
  refine r_aload_n hC dX10_foundBy_0 0 rfl ?_
  refine r_getr hC 3 (ci := 10) rfl u10_in (by decide) mT_4_238 dX10_foundBy_1 ka0 rfl rfl hbm ?_
  obtain ⟨a1_, hb1, hk1, hn1⟩ := hs.row khm 18 76 6 (by decide) (by decide)
  refine r_getrN hC 18 (ci := 9) rfl u9_in (by decide) nF_18 dX10_foundBy_4 khm rfl rfl hb1 ?_
  refine r_iload_n hC dX10_foundBy_7 1 rfl ?_
  refine x_iaload hC hk1 hn1 (by decide) rfl rfl dX10_foundBy_8 (by omega) (by omega) (fun x2_ e2 => ?_)
  have m8 : x2_.toInt = D 8 x1.toInt.toNat := by rw [e2, clx (i := x1) rfl (by omega)]; exact rwm 8 _ _ _ (cM (r := 8) (by decide) (by decide) hb1) (by rw [cnt_8]; omega) (fun h9 => absurd h9 (by decide))
  refine r_istore_n hC (lv' := [(3, .int x2_), (0, .ref a0), (1, .int x1), (2, .int x2)]) dX10_foundBy_9 (by decide) rfl ?_
  refine r_aload_n hC dX10_foundBy_10 1 rfl ?_
  refine r_getr hC 3 (ci := 10) rfl u10_in (by decide) mT_4_238 dX10_foundBy_11 ka0 rfl rfl hbm ?_
  obtain ⟨kd3, mo3, hb3, hk3, hn3, hB3, hK3, hN3⟩ := hs.2.2.1 hm khm
  refine r_getrN hC 17 (ci := 9) rfl u9_in (by decide) nF_17 dX10_foundBy_14 khm rfl rfl hb3 ?_
  refine r_iload_n hC dX10_foundBy_17 2 rfl ?_
  refine x_iaload hC hk3 hn3 (by omega) (kOb (by omega)) (kAb (by omega)) dX10_foundBy_18 (by omega) (by omega) (fun x4_ e4 => ?_)
  have m7 : x4_.toInt = D 7 x1.toInt.toNat := by rw [e4, clx (i := x1) rfl (by omega)]; exact rwm 7 _ _ _ (cM (r := 7) (by decide) (by decide) hb3) (by rw [cnt_7]; omega) (fun h9 => absurd h9 (by decide))
  by_cases o5 : x4_.toInt < 1 ∨ 5 < x4_.toInt
  · refine r_tabOut hC (tgt := 92) dX10_foundBy_19 o5 (by decide) ?_
    refine r_iconst hC (v := (0)) dX10_foundBy_92 (by decide) (by decide) (fun x6_ e6 t6 => ?_)
    exact r_iret hC hQ hlk hr rfl (by decide) (by decide) dX10_foundBy_93 ⟨_, rfl, rfl, (by first | exact fnd_1 (by omega) (by omega) (by omega) | exact fnd_1n (by omega) (by omega) (by omega) | exact fnd_3 (by omega) (by omega) (by omega) | exact fnd_3n (by omega) (by omega) (by omega) | exact fnd_5 (by omega) (by omega) (by omega) | exact fnd_5n (by omega) (by omega) (by omega) | exact fnd_d (by omega) (by omega) | exact fnd_2 (by omega) (by omega) (by omega) NOfdm NOfdr (by omega))⟩
  · rcases (show x4_.toInt = 1 ∨ x4_.toInt = 2 ∨ x4_.toInt = 3 ∨ x4_.toInt = 4 ∨ x4_.toInt = 5 by omega) with o5 | o5 | o5 | o5 | o5
    · refine r_tabIn hC (tgt := 52) (off := 33) dX10_foundBy_19 (by omega) (by omega) (by rw [o5]; decide) (by decide) ?_
      refine r_iload_n hC dX10_foundBy_52 3 rfl ?_
      refine r_iload_n hC dX10_foundBy_53 0 rfl ?_
      refine r_icmp_gt hC (tgt := 61) dX10_foundBy_54 (by decide) (fun c7 => ?_) (fun c7 => ?_)
      · refine r_iconst hC (v := (0)) dX10_foundBy_61 (by decide) (by decide) (fun x8_ e8 t8 => ?_)
        exact r_iret hC hQ hlk hr rfl (by decide) (by decide) dX10_foundBy_62 ⟨_, rfl, rfl, (by first | exact fnd_1 (by omega) (by omega) (by omega) | exact fnd_1n (by omega) (by omega) (by omega) | exact fnd_3 (by omega) (by omega) (by omega) | exact fnd_3n (by omega) (by omega) (by omega) | exact fnd_5 (by omega) (by omega) (by omega) | exact fnd_5n (by omega) (by omega) (by omega) | exact fnd_d (by omega) (by omega) | exact fnd_2 (by omega) (by omega) (by omega) NOfdm NOfdr (by omega))⟩
      · refine r_iconst hC (v := (1)) dX10_foundBy_57 (by decide) (by decide) (fun x9_ e9 t9 => ?_)
        refine r_goto hC (tgt := 62) dX10_foundBy_58 (by decide) ?_
        exact r_iret hC hQ hlk hr rfl (by decide) (by decide) dX10_foundBy_62 ⟨_, rfl, rfl, (by first | exact fnd_1 (by omega) (by omega) (by omega) | exact fnd_1n (by omega) (by omega) (by omega) | exact fnd_3 (by omega) (by omega) (by omega) | exact fnd_3n (by omega) (by omega) (by omega) | exact fnd_5 (by omega) (by omega) (by omega) | exact fnd_5n (by omega) (by omega) (by omega) | exact fnd_d (by omega) (by omega) | exact fnd_2 (by omega) (by omega) (by omega) NOfdm NOfdr (by omega))⟩
    · refine r_tabIn hC (tgt := 63) (off := 44) dX10_foundBy_19 (by omega) (by omega) (by rw [o5]; decide) (by decide) ?_
      refine r_iload_n hC dX10_foundBy_63 0 rfl ?_
      refine r_iload_n hC dX10_foundBy_64 3 rfl ?_
      refine r_imul hC dX10_foundBy_65 (fun x10_ e10 => ?_)
      refine r_bipush hC (v := (10)) dX10_foundBy_66 (by decide) (by decide) (fun x11_ e11 t11 => ?_)
      refine r_idiv hC dX10_foundBy_68 (ne_0 (by omega)) (fun x12_ e12 => ?_)
      exact r_iret hC hQ hlk hr rfl (by decide) (by decide) dX10_foundBy_69 ⟨_, rfl, rfl, (by first | exact fnd_1 (by omega) (by omega) (by omega) | exact fnd_1n (by omega) (by omega) (by omega) | exact fnd_3 (by omega) (by omega) (by omega) | exact fnd_3n (by omega) (by omega) (by omega) | exact fnd_5 (by omega) (by omega) (by omega) | exact fnd_5n (by omega) (by omega) (by omega) | exact fnd_d (by omega) (by omega) | exact fnd_2 (by omega) (by omega) (by omega) e10 e12 (by omega))⟩
    · refine r_tabIn hC (tgt := 70) (off := 51) dX10_foundBy_19 (by omega) (by omega) (by rw [o5]; decide) (by decide) ?_
      refine r_iload_n hC dX10_foundBy_70 3 rfl ?_
      refine r_iload_n hC dX10_foundBy_71 0 rfl ?_
      refine r_icmp_ne hC (tgt := 79) dX10_foundBy_72 (by decide) (fun c13 => ?_) (fun c13 => ?_)
      · refine r_iconst hC (v := (0)) dX10_foundBy_79 (by decide) (by decide) (fun x14_ e14 t14 => ?_)
        exact r_iret hC hQ hlk hr rfl (by decide) (by decide) dX10_foundBy_80 ⟨_, rfl, rfl, (by first | exact fnd_1 (by omega) (by omega) (by omega) | exact fnd_1n (by omega) (by omega) (by omega) | exact fnd_3 (by omega) (by omega) (by omega) | exact fnd_3n (by omega) (by omega) (by omega) | exact fnd_5 (by omega) (by omega) (by omega) | exact fnd_5n (by omega) (by omega) (by omega) | exact fnd_d (by omega) (by omega) | exact fnd_2 (by omega) (by omega) (by omega) NOfdm NOfdr (by omega))⟩
      · refine r_iconst hC (v := (2)) dX10_foundBy_75 (by decide) (by decide) (fun x15_ e15 t15 => ?_)
        refine r_goto hC (tgt := 80) dX10_foundBy_76 (by decide) ?_
        exact r_iret hC hQ hlk hr rfl (by decide) (by decide) dX10_foundBy_80 ⟨_, rfl, rfl, (by first | exact fnd_1 (by omega) (by omega) (by omega) | exact fnd_1n (by omega) (by omega) (by omega) | exact fnd_3 (by omega) (by omega) (by omega) | exact fnd_3n (by omega) (by omega) (by omega) | exact fnd_5 (by omega) (by omega) (by omega) | exact fnd_5n (by omega) (by omega) (by omega) | exact fnd_d (by omega) (by omega) | exact fnd_2 (by omega) (by omega) (by omega) NOfdm NOfdr (by omega))⟩
    · refine r_tabIn hC (tgt := 92) (off := 73) dX10_foundBy_19 (by omega) (by omega) (by rw [o5]; decide) (by decide) ?_
      refine r_iconst hC (v := (0)) dX10_foundBy_92 (by decide) (by decide) (fun x16_ e16 t16 => ?_)
      exact r_iret hC hQ hlk hr rfl (by decide) (by decide) dX10_foundBy_93 ⟨_, rfl, rfl, (by first | exact fnd_1 (by omega) (by omega) (by omega) | exact fnd_1n (by omega) (by omega) (by omega) | exact fnd_3 (by omega) (by omega) (by omega) | exact fnd_3n (by omega) (by omega) (by omega) | exact fnd_5 (by omega) (by omega) (by omega) | exact fnd_5n (by omega) (by omega) (by omega) | exact fnd_d (by omega) (by omega) | exact fnd_2 (by omega) (by omega) (by omega) NOfdm NOfdr (by omega))⟩
    · refine r_tabIn hC (tgt := 81) (off := 62) dX10_foundBy_19 (by omega) (by omega) (by rw [o5]; decide) (by decide) ?_
      refine r_iload_n hC dX10_foundBy_81 3 rfl ?_
      refine r_iconst hC (v := (5)) dX10_foundBy_82 (by decide) (by decide) (fun x17_ e17 t17 => ?_)
      refine r_icmp_gt hC (tgt := 90) dX10_foundBy_83 (by decide) (fun c18 => ?_) (fun c18 => ?_)
      · refine r_iconst hC (v := (0)) dX10_foundBy_90 (by decide) (by decide) (fun x19_ e19 t19 => ?_)
        exact r_iret hC hQ hlk hr rfl (by decide) (by decide) dX10_foundBy_91 ⟨_, rfl, rfl, (by first | exact fnd_1 (by omega) (by omega) (by omega) | exact fnd_1n (by omega) (by omega) (by omega) | exact fnd_3 (by omega) (by omega) (by omega) | exact fnd_3n (by omega) (by omega) (by omega) | exact fnd_5 (by omega) (by omega) (by omega) | exact fnd_5n (by omega) (by omega) (by omega) | exact fnd_d (by omega) (by omega) | exact fnd_2 (by omega) (by omega) (by omega) NOfdm NOfdr (by omega))⟩
      · refine r_iconst hC (v := (1)) dX10_foundBy_86 (by decide) (by decide) (fun x20_ e20 t20 => ?_)
        refine r_goto hC (tgt := 91) dX10_foundBy_87 (by decide) ?_
        exact r_iret hC hQ hlk hr rfl (by decide) (by decide) dX10_foundBy_91 ⟨_, rfl, rfl, (by first | exact fnd_1 (by omega) (by omega) (by omega) | exact fnd_1n (by omega) (by omega) (by omega) | exact fnd_3 (by omega) (by omega) (by omega) | exact fnd_3n (by omega) (by omega) (by omega) | exact fnd_5 (by omega) (by omega) (by omega) | exact fnd_5n (by omega) (by omega) (by omega) | exact fnd_d (by omega) (by omega) | exact fnd_2 (by omega) (by omega) (by omega) NOfdm NOfdr (by omega))⟩
set_option maxHeartbeats 4000000 in
set_option maxRecDepth 100000 in
theorem f_X10_found (g : GG) (l : Launch) (K len : Nat → Nat) (I : Nat → Nat → Int32) (J : Nat → Nat → Int64) (R : Nat → Nat → Option Nat) (hs : Sf K len I R) (a0 : Nat) (ka0 : K a0 = 11) (x1 : Int32) (x2 : Int32) (D : DD) (hmx : ∀ hm, R a0 3 = some hm → RW (CM hm R) (cntN D) D I ∧ (I hm 7).toInt = D 0 7) : Ct g l yX10_found cX10_found 3 (Option.some Jvm.ClassFile.FieldType.int) rmX10_found [.ref a0, .int x1, .int x2] (K, len, I, J, R) (pI1 (K, len, I, J, R) (fun r I' => Sf K len I' R ∧ Fr K [(11, 0), (11, 1), (11, 2)] I I' ∧ ((R a0 3 = none ∧ r.toInt = -1) ∨ (∃ hm, R a0 3 = some hm ∧ (((0 ≤ x1.toInt ∧ x1.toInt < D 0 7 ∧ 0 ≤ x2.toInt ∧ x2.toInt ≤ 99) ∧ r.toInt = fnd (D 7 x1.toInt.toNat) (D 8 x1.toInt.toNat) x2.toInt) ∨ (¬ (0 ≤ x1.toInt ∧ x1.toInt < D 0 7 ∧ 0 ≤ x2.toInt ∧ x2.toInt ≤ 99) ∧ r.toInt = -1)))) ∧ ((I' a0 2).toInt = -1))) := by
  refine Ct_intro (by decide +kernel) (Nat.le_of_ble_eq_true rfl) (fun X hC hL hKK hNm hr hlk hQ => ?_)
  subst hL
  have hC : Cx g X cX10_found "HillTapModel" 3 rmX10_found := hC
  show P g X 3 0 [(0, .ref a0), (1, .int x1), (2, .int x2)] [] 0 0 (K, len, I, J, R)
  have hF : Fr K [(11, 0), (11, 1), (11, 2)] I I := Fr.refl
  have b_x1 := ti_rng x1
  have b_x2 := ti_rng x2
  rcases hs.2.1.2.2.1 a0 ka0 with hz | ⟨hm, hbm, khm⟩
  · refine r_aload_n hC dX10_found_0 0 rfl ?_
    refine r_iconst hC (v := (0)) dX10_found_1 (by decide) (by decide) (fun x1_ e1 t1 => ?_)
    refine r_puti hC 0 (ci := 10) rfl u10_in tyX10_ok nmX10 (by decide) mT_4_235 rfl rfl rfl dX10_found_2 ka0 rfl rfl (fun I2 eI2 => ?_)
    have hs2 := hs.put0 eI2 ka0 rfl rfl rfl (by decide)
    have hF2 := hF.put eI2 ka0 rfl
    refine r_aload_n hC dX10_found_5 0 rfl ?_
    refine r_iload_n hC dX10_found_6 1 rfl ?_
    refine r_callV hC (As := [.int x1]) (rest := []) (ci := 10) (f_X10_isStory g (xL X) K len I2 J R hs2 a0 ka0 x1) mT_6_119 mT_1_10 mT_6_116 mT_6_118 mP_71 okX10_isStory ⟨by decide, by decide⟩ rfl (by show kO (K a0) = _; rw [ka0]; rfl) rfl rfl (Nat.le_of_ble_eq_true rfl) ⟨by decide, by decide⟩ dX10_found_7 (aI0 (F := fun st M => P g X 3 10 [(0, .ref a0), (1, .int x1), (2, .int x2)] st _ _ M) (M := (K, len, I2, J, R)) fun x3_ h3 => ?_)
    have k3_0 := h3
    clear h3
    show P g X 3 10 [(0, .ref a0), (1, .int x1), (2, .int x2)] [.int x3_] _ _ (K, len, I2, J, R)
    have kq3 : x3_.toInt = 0 := by rcases k3_0 with ⟨z, y⟩ | ⟨hm9, z, y⟩; exact y; rw [hz] at z; cases z
    clear k3_0
    refine r_if_ne hC (tgt := 19) dX10_found_10 (by decide) (fun c4 => ?_) (fun c4 => ?_)
    · exfalso; omega
    refine r_aload_n hC dX10_found_13 0 rfl ?_
    refine r_iconst hC (v := (1)) dX10_found_14 (by decide) (by decide) (fun x5_ e5 t5 => ?_)
    refine r_callV hC (As := [.int x5_]) (rest := []) (ci := 10) (c_X10_refused g (xL X) K len I2 J R hs2 a0 ka0 x5_) mT_5_85 mT_1_10 mT_5_82 mT_5_84 mP_48 okX10_refused ⟨by decide, by decide⟩ rfl (by show kO (K a0) = _; rw [ka0]; rfl) rfl rfl (Nat.le_of_ble_eq_true rfl) ⟨by decide, by decide⟩ dX10_found_15 (aI1 (F := fun st M => P g X 3 18 [(0, .ref a0), (1, .int x1), (2, .int x2)] st _ _ M) (M := (K, len, I2, J, R)) fun x6_ I6 h6 => ?_)
    obtain ⟨hs6, hf6, k6_0, k6_1, k6_2⟩ := h6
    show P g X 3 18 [(0, .ref a0), (1, .int x1), (2, .int x2)] [.int x6_] _ _ (K, len, I6, J, R)
    have hF6 : Fr K [(11, 0), (11, 1), (11, 2)] I I6 := hF2.trans hf6 rfl rfl
    exact r_iret hC hQ hlk hr rfl (by decide) (by decide) dX10_found_18 ⟨_, _, rfl, rfl, ⟨hs6, hF6, (by first | exact Or.inl ⟨hz, by omega⟩ | exact Or.inr ⟨hm, hbm, Or.inr ⟨by omega, by omega⟩⟩ | exact Or.inr ⟨hm, hbm, Or.inl ⟨by omega, (congrArg Int32.toInt k6_0).trans fq⟩⟩), (by omega)⟩⟩
  · obtain ⟨S0, eS0⟩ : ∃ z : Int32, z = I hm 7 := ⟨_, rfl⟩
    have fS0 : S0.toInt = (I hm 7).toInt := by rw [eS0]
    have rS0 := hs.rng khm rfl eS0
    obtain ⟨S7, eS7⟩ : ∃ z : Int32, z = I hm 7 := ⟨_, rfl⟩
    have fS7 : S7.toInt = (I hm 7).toInt := by rw [eS7]
    have rS7 := hs.rng khm rfl eS7
    obtain ⟨rwd, hdx⟩ := hmx hm hbm
    have hcx := CM_x hs khm
    refine r_aload_n hC dX10_found_0 0 rfl ?_
    refine r_iconst hC (v := (0)) dX10_found_1 (by decide) (by decide) (fun x7_ e7 t7 => ?_)
    refine r_puti hC 0 (ci := 10) rfl u10_in tyX10_ok nmX10 (by decide) mT_4_235 rfl rfl rfl dX10_found_2 ka0 rfl rfl (fun I8 eI8 => ?_)
    have hs8 := hs.put0 eI8 ka0 rfl rfl rfl (by decide)
    have hF8 := hF.put eI8 ka0 rfl
    have rw8 := rwd.putO hcx eI8 ka0 rfl
    refine r_aload_n hC dX10_found_5 0 rfl ?_
    refine r_iload_n hC dX10_found_6 1 rfl ?_
    refine r_callV hC (As := [.int x1]) (rest := []) (ci := 10) (f_X10_isStory g (xL X) K len I8 J R hs8 a0 ka0 x1) mT_6_119 mT_1_10 mT_6_116 mT_6_118 mP_71 okX10_isStory ⟨by decide, by decide⟩ rfl (by show kO (K a0) = _; rw [ka0]; rfl) rfl rfl (Nat.le_of_ble_eq_true rfl) ⟨by decide, by decide⟩ dX10_found_7 (aI0 (F := fun st M => P g X 3 10 [(0, .ref a0), (1, .int x1), (2, .int x2)] st _ _ M) (M := (K, len, I8, J, R)) fun x9_ h9 => ?_)
    have k9_0 := h9
    clear h9
    show P g X 3 10 [(0, .ref a0), (1, .int x1), (2, .int x2)] [.int x9_] _ _ (K, len, I8, J, R)
    have kq9 : x9_.toInt = 1 ∧ (0 ≤ x1.toInt ∧ x1.toInt < (I8 hm 7).toInt) ∨ x9_.toInt = 0 ∧ ¬ (0 ≤ x1.toInt ∧ x1.toInt < (I8 hm 7).toInt) := by rcases k9_0 with ⟨z, -⟩ | ⟨hm9, z, y⟩ <;> rw [hbm] at z <;> cases z; exact y
    have rq7_ : I8 hm 7 = S7 := (Eq.trans (up2_kk eI8 ka0 khm (by decide)) eS7.symm)
    have rq7_t : (I8 hm 7).toInt = S7.toInt := congrArg Int32.toInt rq7_
    clear k9_0
    refine r_if_ne hC (tgt := 19) dX10_found_10 (by decide) (fun c10 => ?_) (fun c10 => ?_)
    · refine r_iload_n hC dX10_found_19 2 rfl ?_
      refine r_iconst hC (v := (0)) dX10_found_20 (by decide) (by decide) (fun x11_ e11 t11 => ?_)
      refine r_bipush hC (v := (99)) dX10_found_21 (by decide) (by decide) (fun x12_ e12 t12 => ?_)
      refine r_callS hC (As := [.int x2, .int x11_, .int x12_]) (rest := []) (f_X10_in g (xL X) K len I8 J R hs8 x2 x11_ x12_) mT_6_8 mT_1_10 mT_6_6 mT_6_7 okX10_in ⟨by decide, by decide⟩ rfl rfl (Nat.le_of_ble_eq_true rfl) ⟨by decide, by decide⟩ dX10_found_23 (aI0 (F := fun st M => P g X 3 26 [(0, .ref a0), (1, .int x1), (2, .int x2)] st _ _ M) (M := (K, len, I8, J, R)) fun x13_ h13 => ?_)
      have k13_0 := h13
      clear h13
      show P g X 3 26 [(0, .ref a0), (1, .int x1), (2, .int x2)] [.int x13_] _ _ (K, len, I8, J, R)
      rcases k13_0 with ⟨hr13, hw13⟩ | ⟨hr13, hw13⟩
      · refine r_if_eq hC (tgt := 42) dX10_found_26 (by decide) (fun c14 => ?_) (fun c14 => ?_)
        · exfalso; omega
        refine r_aload_n hC dX10_found_29 0 rfl ?_
        refine r_aload_n hC dX10_found_30 0 rfl ?_
        refine r_iload_n hC dX10_found_31 1 rfl ?_
        refine r_iload_n hC dX10_found_32 2 rfl ?_
        have hv7b : I8 hm 7 = S7 := (Eq.trans (up2_kk eI8 ka0 khm (by decide)) eS7.symm)
        have hv7bt : (I8 hm 7).toInt = S7.toInt := congrArg Int32.toInt hv7b
        refine r_callV hC (As := [.int x1, .int x2]) (rest := [.ref a0]) (ci := 10) (f_X10_foundBy g (xL X) K len I8 J R hs8 a0 ka0 x1 x2 hm hbm khm D rw8 (by omega) (by omega) (by omega)) mT_7_35 mT_1_10 mT_7_32 mT_7_34 mP_92 okX10_foundBy ⟨by decide, by decide⟩ rfl (by show kO (K a0) = _; rw [ka0]; rfl) rfl rfl (Nat.le_of_ble_eq_true rfl) ⟨by decide, by decide⟩ dX10_found_33 (aI0 (F := fun st M => P g X 3 36 [(0, .ref a0), (1, .int x1), (2, .int x2)] st _ _ M) (M := (K, len, I8, J, R)) fun x15_ h15 => ?_)
        have k15_0 := h15
        clear h15
        show P g X 3 36 [(0, .ref a0), (1, .int x1), (2, .int x2)] [.int x15_, .ref a0] _ _ (K, len, I8, J, R)
        have fq := k15_0
        refine r_callV hC (As := [.int x15_]) (rest := []) (ci := 10) (c_X10_done g (xL X) K len I8 J R hs8 a0 ka0 x15_) mT_6_79 mT_1_10 mT_6_76 mT_6_78 mP_67 okX10_done ⟨by decide, by decide⟩ rfl (by show kO (K a0) = _; rw [ka0]; rfl) rfl rfl (Nat.le_of_ble_eq_true rfl) ⟨by decide, by decide⟩ dX10_found_36 (aI1 (F := fun st M => P g X 3 39 [(0, .ref a0), (1, .int x1), (2, .int x2)] st _ _ M) (M := (K, len, I8, J, R)) fun x16_ I16 h16 => ?_)
        obtain ⟨hs16, hf16, k16_0, k16_1, k16_2⟩ := h16
        show P g X 3 39 [(0, .ref a0), (1, .int x1), (2, .int x2)] [.int x16_] _ _ (K, len, I16, J, R)
        have hF16 : Fr K [(11, 0), (11, 1), (11, 2)] I I16 := hF8.trans hf16 rfl rfl
        have rw16 := rw8.mv hcx qM_big hf16 rfl
        refine r_goto hC (tgt := 47) dX10_found_39 (by decide) ?_
        have hv7 : I16 hm 7 = S7 := (Eq.trans (hf16.get khm rfl) (Eq.trans (up2_kk eI8 ka0 khm (by decide)) eS7.symm))
        have hv7t : (I16 hm 7).toInt = S7.toInt := congrArg Int32.toInt hv7
        exact r_iret hC hQ hlk hr rfl (by decide) (by decide) dX10_found_47 ⟨_, _, rfl, rfl, ⟨hs16, hF16, (by first | exact Or.inl ⟨hz, by omega⟩ | exact Or.inr ⟨hm, hbm, Or.inr ⟨by omega, by omega⟩⟩ | exact Or.inr ⟨hm, hbm, Or.inl ⟨by omega, (congrArg Int32.toInt k16_0).trans fq⟩⟩), (by omega)⟩⟩
      · refine r_if_eq hC (tgt := 42) dX10_found_26 (by decide) (fun c17 => ?_) (fun c17 => ?_)
        rotate_left
        · exfalso; omega
        refine r_aload_n hC dX10_found_42 0 rfl ?_
        refine r_iconst hC (v := (2)) dX10_found_43 (by decide) (by decide) (fun x18_ e18 t18 => ?_)
        refine r_callV hC (As := [.int x18_]) (rest := []) (ci := 10) (c_X10_refused g (xL X) K len I8 J R hs8 a0 ka0 x18_) mT_5_85 mT_1_10 mT_5_82 mT_5_84 mP_48 okX10_refused ⟨by decide, by decide⟩ rfl (by show kO (K a0) = _; rw [ka0]; rfl) rfl rfl (Nat.le_of_ble_eq_true rfl) ⟨by decide, by decide⟩ dX10_found_44 (aI1 (F := fun st M => P g X 3 47 [(0, .ref a0), (1, .int x1), (2, .int x2)] st _ _ M) (M := (K, len, I8, J, R)) fun x19_ I19 h19 => ?_)
        obtain ⟨hs19, hf19, k19_0, k19_1, k19_2⟩ := h19
        show P g X 3 47 [(0, .ref a0), (1, .int x1), (2, .int x2)] [.int x19_] _ _ (K, len, I19, J, R)
        have hF19 : Fr K [(11, 0), (11, 1), (11, 2)] I I19 := hF8.trans hf19 rfl rfl
        have rw19 := rw8.mv hcx qM_big hf19 rfl
        have hv7 : I19 hm 7 = S7 := (Eq.trans (hf19.get khm rfl) (Eq.trans (up2_kk eI8 ka0 khm (by decide)) eS7.symm))
        have hv7t : (I19 hm 7).toInt = S7.toInt := congrArg Int32.toInt hv7
        exact r_iret hC hQ hlk hr rfl (by decide) (by decide) dX10_found_47 ⟨_, _, rfl, rfl, ⟨hs19, hF19, (by first | exact Or.inl ⟨hz, by omega⟩ | exact Or.inr ⟨hm, hbm, Or.inr ⟨by omega, by omega⟩⟩ | exact Or.inr ⟨hm, hbm, Or.inl ⟨by omega, (congrArg Int32.toInt k19_0).trans fq⟩⟩), (by omega)⟩⟩
    · refine r_aload_n hC dX10_found_13 0 rfl ?_
      refine r_iconst hC (v := (1)) dX10_found_14 (by decide) (by decide) (fun x20_ e20 t20 => ?_)
      refine r_callV hC (As := [.int x20_]) (rest := []) (ci := 10) (c_X10_refused g (xL X) K len I8 J R hs8 a0 ka0 x20_) mT_5_85 mT_1_10 mT_5_82 mT_5_84 mP_48 okX10_refused ⟨by decide, by decide⟩ rfl (by show kO (K a0) = _; rw [ka0]; rfl) rfl rfl (Nat.le_of_ble_eq_true rfl) ⟨by decide, by decide⟩ dX10_found_15 (aI1 (F := fun st M => P g X 3 18 [(0, .ref a0), (1, .int x1), (2, .int x2)] st _ _ M) (M := (K, len, I8, J, R)) fun x21_ I21 h21 => ?_)
      obtain ⟨hs21, hf21, k21_0, k21_1, k21_2⟩ := h21
      show P g X 3 18 [(0, .ref a0), (1, .int x1), (2, .int x2)] [.int x21_] _ _ (K, len, I21, J, R)
      have hF21 : Fr K [(11, 0), (11, 1), (11, 2)] I I21 := hF8.trans hf21 rfl rfl
      have rw21 := rw8.mv hcx qM_big hf21 rfl
      have hv7 : I21 hm 7 = S7 := (Eq.trans (hf21.get khm rfl) (Eq.trans (up2_kk eI8 ka0 khm (by decide)) eS7.symm))
      have hv7t : (I21 hm 7).toInt = S7.toInt := congrArg Int32.toInt hv7
      exact r_iret hC hQ hlk hr rfl (by decide) (by decide) dX10_found_18 ⟨_, _, rfl, rfl, ⟨hs21, hF21, (by first | exact Or.inl ⟨hz, by omega⟩ | exact Or.inr ⟨hm, hbm, Or.inr ⟨by omega, by omega⟩⟩ | exact Or.inr ⟨hm, hbm, Or.inl ⟨by omega, (congrArg Int32.toInt k21_0).trans fq⟩⟩), (by omega)⟩⟩

