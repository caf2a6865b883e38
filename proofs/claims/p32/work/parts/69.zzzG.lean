set_option maxHeartbeats 4000000 in
set_option maxRecDepth 100000 in
theorem f_X8_led (g : GG) (l : Launch) (hl : l.stackTraces = false) (K len : Nat → Nat) (I : Nat → Nat → Int32) (J : Nat → Nat → Int64) (R : Nat → Nat → Option Nat) (hs : Sf K len I R) (a0 : Nat) (ka0 : K a0 = 9) (x1 : Int32) (x2 : Int32) (h : Nat) (hh : R a0 2 = some h) (kh : K h = 2) (lk : Nat) (hlk2 : R h 0 = some lk) (klk : K lk = 3) (rd : Nat) (hrd : R a0 9 = some rd) (krd : K rd = 4) (lv : Nat) (hlv : R a0 4 = some lv) (klv : K lv = 41) (llv : len lv = 60) (kn : Nat) (hkn : R a0 6 = some kn) (kkn : K kn = 43) (lkn : len kn = 6) (cr : Nat) (hcr : R a0 5 = some cr) (kcr1 : K cr = 44) (lcr : len cr = 6) (hu : UU K R) (D : DD) (E : Nat → Nat → Int) (hc : KC D E a0 h lk rd I R) : CtX g l yX8_led cX8_led 6 (Option.some Jvm.ClassFile.FieldType.int) rmX8_led [.ref a0, .int x1, .int x2] (K, len, I, J, R) (pI1 (K, len, I, J, R) (fun r I' => Sf K len I' R ∧ Fr K [(1, 5), (1, 6), (43, 999), (50, 999), (51, 999), (52, 999), (53, 999), (54, 999)] I I' ∧ (KC D E a0 h lk rd I' R))) (fun M' => ∃ I', M' = (K, len, I', J, R) ∧ Sf K len I' R ∧ Fr K [(1, 5), (1, 6), (43, 999), (50, 999), (51, 999), (52, 999), (53, 999), (54, 999)] I I' ∧ KC D E a0 h lk rd I' R) := by
  refine Ct_introX (by decide +kernel) (Nat.le_of_ble_eq_true rfl) (fun X hC hL hKK hNm hr hlk hcs hQ hT => ?_)
  subst hL
  have hC : Cx g X cX8_led "HillTap" 6 rmX8_led := hC
  show P g X 6 0 [(0, .ref a0), (1, .int x1), (2, .int x2)] [] 0 0 (K, len, I, J, R)
  have hF : Fr K [(1, 5), (1, 6), (43, 999), (50, 999), (51, 999), (52, 999), (53, 999), (54, 999)] I I := Fr.refl
  have ka : KA a0 h lk rd K len R := ⟨⟨_, hs⟩, hu, ka0, kh, klk, krd⟩
  obtain ⟨sd1, sd2, sd3, sd4, sd5, sd7, sd8, sd9⟩ := id hc.2.1
  have d7b := hs.rng kh (k := 6) rfl (x := I h 6) rfl
  have d5b := hs.rng kh (k := 1) rfl (x := I h 1) rfl
  have d8b := hs.rng kh (k := 8) rfl (x := I h 8) rfl
  have b_x1 := ti_rng x1
  have b_x2 := ti_rng x2
  refine r_aload_n hC dX8_led_0 0 rfl ?_
  refine r_iload_n hC dX8_led_1 1 rfl ?_
  refine r_callV hC (As := [.int x1]) (rest := []) (ci := 8) (f_X8_isStory g (xL X) K len I J R hs a0 ka0 x1 h hh kh) mT_3_155 mT_1_1 mT_3_152 mT_3_154 mP_24 okX8_isStory ⟨by decide, by decide⟩ rfl (by show kO (K a0) = _; rw [ka0]; rfl) rfl rfl (Nat.le_of_ble_eq_true rfl) ⟨by decide, by decide⟩ dX8_led_2 (aI0 (F := fun st M => P g X 6 5 [(0, .ref a0), (1, .int x1), (2, .int x2)] st _ _ M) (M := (K, len, I, J, R)) fun x1_ h1 => ?_)
  have k1_0 := h1
  clear h1
  show P g X 6 5 [(0, .ref a0), (1, .int x1), (2, .int x2)] [.int x1_] _ _ (K, len, I, J, R)
  rcases k1_0 with ⟨hr1, hw1⟩ | ⟨hr1, hw1⟩
  · refine r_if_ne hC (tgt := 19) dX8_led_5 (by decide) (fun c2 => ?_) (fun c2 => ?_)
    rotate_left
    · exfalso; omega
    refine r_aload_n hC dX8_led_19 0 rfl ?_
    refine r_iload_n hC dX8_led_20 1 rfl ?_
    refine r_callV hC (As := [.int x1]) (rest := []) (ci := 8) (f_X8_courseOf g (xL X) K len I J R hs a0 ka0 x1 h hh kh lk hlk2 klk rd hrd krd lv hlv klv llv kn hkn kkn lkn cr hcr kcr1 lcr hu D E hc (by omega) (by omega)) mT_3_163 mT_1_1 mT_3_160 mT_3_162 mP_26 okX8_courseOf ⟨by decide, by decide⟩ rfl (by show kO (K a0) = _; rw [ka0]; rfl) rfl rfl (Nat.le_of_ble_eq_true rfl) ⟨by decide, by decide⟩ dX8_led_21 (aR1 (F := fun st M => P g X 6 24 [(0, .ref a0), (1, .int x1), (2, .int x2)] st _ _ M) (M := (K, len, I, J, R)) fun a3_ I3 h3 => ?_)
    obtain ⟨hs3, hf3, k3_0, k3_1, k3_2, k3_3, k3_4⟩ := h3
    show P g X 6 24 [(0, .ref a0), (1, .int x1), (2, .int x2)] [.ref a3_] _ _ (K, len, I3, J, R)
    have hF3 : Fr K [(1, 5), (1, 6), (43, 999), (50, 999), (51, 999), (52, 999), (53, 999), (54, 999)] I I3 := hF.trans hf3 rfl rfl
    refine r_astore_n hC (lv' := [(3, .ref a3_), (0, .ref a0), (1, .int x1), (2, .int x2)]) dX8_led_24 (by decide) rfl ?_
    refine r_iconst hC (v := (0)) dX8_led_25 (by decide) (by decide) (fun x4_ e4 t4 => ?_)
    refine r_istore hC (lv' := [(4, .int x4_), (3, .ref a3_), (0, .ref a0), (1, .int x1), (2, .int x2)]) dX8_led_26 (by decide) rfl ?_
    refine r_iconst hC (v := (0)) dX8_led_28 (by decide) (by decide) (fun x5_ e5 t5 => ?_)
    refine r_istore hC (lv' := [(5, .int x5_), (4, .int x4_), (3, .ref a3_), (0, .ref a0), (1, .int x1), (2, .int x2)]) dX8_led_29 (by decide) rfl ?_
    have LP6 : ∀ (mu : Nat) (x6_5 : Int32) (x6_4 : Int32) (v6_0 : 0 ≤ x6_5.toInt) (v6_1 : x6_5.toInt ≤ 60), (60 - x6_5.toInt).toNat = mu → P g X 6 31 [(0, .ref a0), (1, .int x1), (2, .int x2), (3, .ref a3_), (4, .int x6_4), (5, .int x6_5)] [] 0 0 (K, len, I3, J, R) := by
      intro mu; induction mu using Nat.strongRecOn with | ind mu ih => ?_
      intro x6_5 x6_4 v6_0 v6_1 hmu
      have ih6 := ih
      clear ih
      have hmu6 := hmu
      clear hmu
      refine r_iload hC dX8_led_31 5 rfl ?_
      refine r_bipush hC (v := (60)) dX8_led_33 (by decide) (by decide) (fun x7_ e7 t7 => ?_)
      refine r_icmp_ge hC (tgt := 72) dX8_led_35 (by decide) (fun c8 => ?_) (fun c8 => ?_)
      · exact r_throw hC hcs hQ hlk hT hl (i := 30) (is := 272) (by decide) rfl dX8_led_72 dX8_led_75 dX8_led_76 dX8_led_79 dX8_led_82 (by decide) (by decide) (by decide) (by decide) ⟨_, rfl, hs3, hF3, k3_2⟩
      · refine r_aload_n hC dX8_led_38 3 rfl ?_
        obtain ⟨a9_, hb9, hk9, hn9⟩ := hs3.row k3_0 3 53 60 (by decide) (by decide)
        refine r_getr hC 3 (ci := 0) rfl u0_in (by decide) mT_2_33 dX8_led_39 k3_0 rfl rfl hb9 ?_
        refine r_iload hC dX8_led_42 5 rfl ?_
        refine x_iaload hC hk9 hn9 (by decide) rfl rfl dX8_led_44 (by omega) (by omega) (fun x10_ e10 => ?_)
        have q10 : x10_.toInt = Ps (SV D x1.toInt.toNat (Ad D x1.toInt.toNat (LP1 D) 1) x6_5.toInt.toNat) (D 0 5).toNat := by rw [e10, clx (i := x6_5) rfl (by omega)]; exact k3_3.tog hs k3_0 hb9 (by omega)
        refine r_aload_n hC dX8_led_45 3 rfl ?_
        refine r_iload hC dX8_led_46 5 rfl ?_
        refine r_callV hC (As := [.int x6_5]) (rest := [.int x10_]) (ci := 0) (c_X0_togetherAhead g (xL X) K len I3 J R hs3 a3_ k3_0 x6_5 (by omega)) mT_4_51 mT_1_8 mT_4_227 mT_4_49 mT_4_50 okX0_togetherAhead ⟨by decide, by decide⟩ rfl (by show kO (K a3_) = _; rw [k3_0]; rfl) rfl rfl (Nat.le_of_ble_eq_true rfl) ⟨by decide, by decide⟩ dX8_led_48 (aI0 (F := fun st M => P g X 6 51 [(0, .ref a0), (1, .int x1), (2, .int x2), (3, .ref a3_), (4, .int x6_4), (5, .int x6_5)] st _ _ M) (M := (K, len, I3, J, R)) fun x11_ h11 => ?_)
        skip
        show P g X 6 51 [(0, .ref a0), (1, .int x1), (2, .int x2), (3, .ref a3_), (4, .int x6_4), (5, .int x6_5)] [.int x11_, .int x10_] _ _ (K, len, I3, J, R)
        refine r_icmp_le hC (tgt := 66) dX8_led_51 (by decide) (fun c12 => ?_) (fun c12 => ?_)
        · obtain ⟨x13_, e13⟩ : ∃ z : Int32, z = x6_5 + Int32.ofInt (1) := ⟨_, rfl⟩
          refine r_iinc hC (j := 5) (v := x13_) (lv' := [(5, .int x13_), (0, .ref a0), (1, .int x1), (2, .int x2), (3, .ref a3_), (4, .int x6_4)]) dX8_led_66 rfl (by rw [e13]) (by decide) rfl ?_
          try have t13 : x13_.toInt = x6_5.toInt + (1) := by rw [e13]; exact (ti_add (b := Int32.ofInt (1)) (by show _ ≤ _ + (1 : Int); omega) (by show _ + (1 : Int) ≤ _; omega))
          refine r_goto hC (tgt := 31) dX8_led_69 (by decide) ?_
          refine r_sub [1, 2, 3, 4, 5, 0] rfl ?_
          exact ih6 ((60 - x13_.toInt).toNat) (by omega) x13_ x6_4 (by omega) (by omega) rfl
        · refine r_iload hC dX8_led_54 4 rfl ?_
          refine r_iload_n hC dX8_led_56 2 rfl ?_
          refine r_icmp_ne hC (tgt := 63) dX8_led_57 (by decide) (fun c14 => ?_) (fun c14 => ?_)
          · obtain ⟨x15_, e15⟩ : ∃ z : Int32, z = x6_4 + Int32.ofInt (1) := ⟨_, rfl⟩
            refine r_iinc hC (j := 4) (v := x15_) (lv' := [(4, .int x15_), (0, .ref a0), (1, .int x1), (2, .int x2), (3, .ref a3_), (5, .int x6_5)]) dX8_led_63 rfl (by rw [e15]) (by decide) rfl ?_
            try have t15 : x15_.toInt = x6_4.toInt + (1) := by rw [e15]; exact (ti_add (b := Int32.ofInt (1)) (by show _ ≤ _ + (1 : Int); omega) (by show _ + (1 : Int) ≤ _; omega))
            obtain ⟨x16_, e16⟩ : ∃ z : Int32, z = x6_5 + Int32.ofInt (1) := ⟨_, rfl⟩
            refine r_iinc hC (j := 5) (v := x16_) (lv' := [(5, .int x16_), (4, .int x15_), (0, .ref a0), (1, .int x1), (2, .int x2), (3, .ref a3_)]) dX8_led_66 rfl (by rw [e16]) (by decide) rfl ?_
            try have t16 : x16_.toInt = x6_5.toInt + (1) := by rw [e16]; exact (ti_add (b := Int32.ofInt (1)) (by show _ ≤ _ + (1 : Int); omega) (by show _ + (1 : Int) ≤ _; omega))
            refine r_goto hC (tgt := 31) dX8_led_69 (by decide) ?_
            refine r_sub [2, 3, 4, 5, 1, 0] rfl ?_
            exact ih6 ((60 - x16_.toInt).toNat) (by omega) x16_ x15_ (by omega) (by omega) rfl
          · refine r_iload hC dX8_led_60 5 rfl ?_
            exact r_iretX hC hQ hlk hr rfl (by decide) (by decide) dX8_led_62 ⟨_, _, rfl, rfl, ⟨hs3, hF3, (by exact k3_2)⟩⟩
    refine r_sub [3, 4, 5, 2, 1, 0] rfl ?_
    exact LP6 _ x5_ x4_ (by omega) (by omega) rfl
  · refine r_if_ne hC (tgt := 19) dX8_led_5 (by decide) (fun c17 => ?_) (fun c17 => ?_)
    · exfalso; omega
    exact r_throw hC hcs hQ hlk hT hl (i := 29) (is := 261) (by decide) rfl dX8_led_8 dX8_led_11 dX8_led_12 dX8_led_15 dX8_led_18 (by decide) (by decide) (by decide) (by decide) ⟨_, rfl, hs, hF, hc⟩
set_option maxHeartbeats 4000000 in
set_option maxRecDepth 100000 in
theorem f_L_led (g : GG) (l : Launch) (hl : l.stackTraces = false) (K len : Nat → Nat) (I : Nat → Nat → Int32) (J : Nat → Nat → Int64) (R : Nat → Nat → Option Nat) (hs : Sf K len I R) (a0 : Nat) (ka0 : K a0 = 9) (x1 : Int32) (x2 : Int32) (h : Nat) (hh : R a0 2 = some h) (kh : K h = 2) (lk : Nat) (hlk2 : R h 0 = some lk) (klk : K lk = 3) (rd : Nat) (hrd : R a0 9 = some rd) (krd : K rd = 4) (lv : Nat) (hlv : R a0 4 = some lv) (klv : K lv = 41) (llv : len lv = 60) (kn : Nat) (hkn : R a0 6 = some kn) (kkn : K kn = 43) (lkn : len kn = 6) (cr : Nat) (hcr : R a0 5 = some cr) (kcr1 : K cr = 44) (lcr : len cr = 6) (hu : UU K R) (D : DD) (E : Nat → Nat → Int) (hc : KC D E a0 h lk rd I R) (o : Nat) (ko : K o = 42) (no : len o = 1) : CtW g l yL_led cL_led 5 (some .int) hhLed rmL_led [.ref a0, .int x1, .int x2, .ref o] (K, len, I, J, R) (pI2 (K, len, I, J, R) (fun r I' J' => Sf K len I' R ∧ Fr K [(1, 5), (1, 6), (43, 999), (50, 999), (51, 999), (52, 999), (53, 999), (54, 999)] I I' ∧ (∀ b, b ≠ o → J' b = J b) ∧ KC D E a0 h lk rd I' R)) := by
  refine Ct_introW (by decide +kernel) (Nat.le_of_ble_eq_true rfl) (fun X hC hL hKK hNm hr hlk hcs hQ hT => ?_)
  subst hL
  have hC : Cx g X cL_led "HillTapLaw" 5 rmL_led := hC
  show P g X 5 0 [(0, .ref a0), (1, .int x1), (2, .int x2), (3, .ref o)] [] 0 0 (K, len, I, J, R)
  refine r_aload_n hC dL_led_0 3 rfl ?_
  refine r_iconst hC (v := (0)) dL_led_1 (by decide) (by decide) (fun z0 e0 t0 => ?_)
  refine r_aload_n hC dL_led_2 0 rfl ?_
  refine r_iload_n hC dL_led_3 1 rfl ?_
  refine r_iload_n hC dL_led_4 2 rfl ?_
  have hT' : (xC X).exceptionTable.toList = [(⟨0, 10, 13, 13⟩ : ExceptionTableEntry)] := hT
  refine r_callVX hC hcs hT' (by decide) (by decide) mW_cat (As := [.int x1, .int x2]) (rest := [.int z0, .ref o]) (ci := 8) (f_X8_led g (xL X) hl K len I J R hs a0 ka0 x1 x2 h hh kh lk hlk2 klk rd hrd krd lv hlv klv llv kn hkn kkn lkn cr hcr kcr1 lcr hu D E hc) mT_4_161 mT_1_1 mT_4_158 mT_4_159 mT_4_160 okX8_led ⟨by decide, by decide⟩ rfl (by show kO (K a0) = _; rw [ka0]; rfl) rfl rfl (Nat.le_of_ble_eq_true rfl) ⟨by decide, by decide⟩ dL_led_5 (aI1 (F := fun st M => P g X 5 8 [(0, .ref a0), (1, .int x1), (2, .int x2), (3, .ref o)] st _ _ M) (M := (K, len, I, J, R)) fun r I1 h1 => ?_) (fun q M' hq9 => ?_)
  · obtain ⟨hs1, hf1, kc1⟩ := h1
    show P g X 5 8 [(0, .ref a0), (1, .int x1), (2, .int x2), (3, .ref o)] [.int r, .int z0, .ref o] _ _ (K, len, I1, J, R)
    refine r_i2l hC dL_led_8 (fun y ey => ?_)
    refine x_lastore hC ko no (by decide) rfl rfl dL_led_9 (by omega) (by omega) (fun J1 eJ1 => ?_)
    refine r_goto hC (tgt := 17) dL_led_10 (by decide) ?_
    refine r_iconst hC (v := (0)) dL_led_17 (by decide) (by decide) (fun z1 e1 t1 => ?_)
    exact r_iret hC hQ hlk hr rfl (by decide) (by decide) dL_led_18 ⟨_, _, _, rfl, rfl, hs1, hf1, fun b hb => by rw [eJ1]; funext j; exact up2_ne _ _ (Or.inl hb), kc1⟩
  · obtain ⟨I1, rfl, hs1, hf1, kc1⟩ := hq9
    show P g X 5 13 [(0, .ref a0), (1, .int x1), (2, .int x2), (3, .ref o)] [.ref q] _ _ (K, len, I1, J, R)
    refine r_astore hC (lv' := [(4, .ref q), (0, .ref a0), (1, .int x1), (2, .int x2), (3, .ref o)]) dL_led_13 (by decide) rfl ?_
    refine r_iconst hC (v := (1)) dL_led_15 (by decide) (by decide) (fun z1 e1 t1 => ?_)
    exact r_iret hC hQ hlk hr rfl (by decide) (by decide) dL_led_16 ⟨_, _, _, rfl, rfl, hs1, hf1, fun _ _ => rfl, kc1⟩

