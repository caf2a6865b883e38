set_option maxHeartbeats 4000000 in
set_option maxRecDepth 100000 in
theorem a_X8_span (g : GG) (l : Launch) (K len : Nat → Nat) (I : Nat → Nat → Int32) (J : Nat → Nat → Int64) (R : Nat → Nat → Option Nat) (hs : Sf K len I R) (a0 : Nat) (ka0 : K a0 = 9) (x1 : Int32) (x2 : Int32) (x3 : Int32) (x4 : Int32) (x5 : Int32) (h : Nat) (hh : R a0 2 = some h) (kh : K h = 2) (lk : Nat) (hlk2 : R h 0 = some lk) (klk : K lk = 3) (rd : Nat) (hrd : R a0 9 = some rd) (krd : K rd = 4) (lv : Nat) (hlv : R a0 4 = some lv) (klv : K lv = 41) (llv : len lv = 60) (kn : Nat) (hkn : R a0 6 = some kn) (kkn : K kn = 43) (lkn : len kn = 6) (cr : Nat) (hcr : R a0 5 = some cr) (kcr1 : K cr = 44) (lcr : len cr = 6) (hu : UU K R) (D : DD) (E : Nat → Nat → Int) (hc : KC D E a0 h lk rd I R) : Ct g l yX8_span cX8_span 13 (Option.some Jvm.ClassFile.FieldType.int) rmX8_span [.ref a0, .int x1, .int x2, .int x3, .int x4, .int x5] (K, len, I, J, R) (pI1 (K, len, I, J, R) (fun r I' => Sf K len I' R ∧ Fr K [(1, 5), (1, 6), (9, 12), (43, 999), (50, 999), (51, 999), (52, 999), (53, 999), (54, 999)] I I' ∧ (KC D E a0 h lk rd I' R) ∧ ((((0 ≤ x1.toInt ∧ x1.toInt < D 0 7) ∧ (0 ≤ x2.toInt ∧ x2.toInt < D 0 5) ∧ 0 ≤ x3.toInt ∧ x3.toInt ≤ 58) ∧ 0 ≤ x4.toInt ∧ x4.toInt ≤ 20) ∧ r.toInt = So x3.toInt (SV D x1.toInt.toNat (Ad D x1.toInt.toNat (LP1 D) 1) x3.toInt.toNat x2.toInt.toNat) (SV D x1.toInt.toNat (Ad D x1.toInt.toNat (LP1 D) 1) (x3.toInt.toNat + 1) x2.toInt.toNat) x4.toInt x5.toInt 3 ∨ ¬ (((0 ≤ x1.toInt ∧ x1.toInt < D 0 7) ∧ (0 ≤ x2.toInt ∧ x2.toInt < D 0 5) ∧ 0 ≤ x3.toInt ∧ x3.toInt ≤ 58) ∧ 0 ≤ x4.toInt ∧ x4.toInt ≤ 20) ∧ r.toInt = -1) ∧ ((I' a0 12).toInt ≠ 4))) := by
  refine Ct_intro (by decide +kernel) (Nat.le_of_ble_eq_true rfl) (fun X hC hL hKK hNm hr hlk hQ => ?_)
  subst hL
  have hC : Cx g X cX8_span "HillTap" 13 rmX8_span := hC
  show P g X 13 0 [(0, .ref a0), (1, .int x1), (2, .int x2), (3, .int x3), (4, .int x4), (5, .int x5)] [] 0 0 (K, len, I, J, R)
  have hF : Fr K [(1, 5), (1, 6), (9, 12), (43, 999), (50, 999), (51, 999), (52, 999), (53, 999), (54, 999)] I I := Fr.refl
  have ka : KA a0 h lk rd K len R := ⟨⟨_, hs⟩, hu, ka0, kh, klk, krd⟩
  obtain ⟨sd1, sd2, sd3, sd4, sd5, sd7, sd8, sd9⟩ := id hc.2.1
  have d7b := hs.rng kh (k := 6) rfl (x := I h 6) rfl
  have d5b := hs.rng kh (k := 1) rfl (x := I h 1) rfl
  have d8b := hs.rng kh (k := 8) rfl (x := I h 8) rfl
  have b_x1 := ti_rng x1
  have b_x2 := ti_rng x2
  have b_x3 := ti_rng x3
  have b_x4 := ti_rng x4
  have b_x5 := ti_rng x5
  refine r_aload_n hC dX8_span_0 0 rfl ?_
  refine r_iload_n hC dX8_span_1 1 rfl ?_
  refine r_iload_n hC dX8_span_2 2 rfl ?_
  refine r_iload_n hC dX8_span_3 3 rfl ?_
  refine r_callV hC (As := [.int x1, .int x2, .int x3]) (rest := []) (ci := 8) (f_X8_isPegDay g (xL X) K len I J R hs a0 ka0 x1 x2 x3 h hh kh) mT_3_151 mT_1_1 mT_3_148 mT_3_150 mP_23 okX8_isPegDay ⟨by decide, by decide⟩ rfl (by show kO (K a0) = _; rw [ka0]; rfl) rfl rfl (Nat.le_of_ble_eq_true rfl) ⟨by decide, by decide⟩ dX8_span_4 (aI0 (F := fun st M => P g X 13 7 [(0, .ref a0), (1, .int x1), (2, .int x2), (3, .int x3), (4, .int x4), (5, .int x5)] st _ _ M) (M := (K, len, I, J, R)) fun x1_ h1 => ?_)
  have k1_0 := h1
  clear h1
  show P g X 13 7 [(0, .ref a0), (1, .int x1), (2, .int x2), (3, .int x3), (4, .int x4), (5, .int x5)] [.int x1_] _ _ (K, len, I, J, R)
  rcases k1_0 with ⟨hr1, hw1⟩ | ⟨hr1, hw1⟩
  · refine r_if_eq hC (tgt := 16) dX8_span_7 (by decide) (fun c2 => ?_) (fun c2 => ?_)
    · exfalso; omega
    refine r_iload_n hC dX8_span_10 3 rfl ?_
    refine r_bipush hC (v := (59)) dX8_span_11 (by decide) (by decide) (fun x3_ e3 t3 => ?_)
    refine r_icmp_lt hC (tgt := 22) dX8_span_13 (by decide) (fun c4 => ?_) (fun c4 => ?_)
    · refine r_iload hC dX8_span_22 4 rfl ?_
      refine r_if_lt hC (tgt := 34) dX8_span_24 (by decide) (fun c5 => ?_) (fun c5 => ?_)
      · refine r_aload_n hC dX8_span_34 0 rfl ?_
        refine r_iconst hC (v := (2)) dX8_span_35 (by decide) (by decide) (fun x6_ e6 t6 => ?_)
        refine r_callV hC (As := [.int x6_]) (rest := []) (ci := 8) (c_X8_refuse g (xL X) K len I J R hs a0 ka0 x6_) mT_2_133 mT_1_1 mT_2_130 mT_2_132 mP_0 okX8_refuse ⟨by decide, by decide⟩ rfl (by show kO (K a0) = _; rw [ka0]; rfl) rfl rfl (Nat.le_of_ble_eq_true rfl) ⟨by decide, by decide⟩ dX8_span_36 (aI1 (F := fun st M => P g X 13 39 [(0, .ref a0), (1, .int x1), (2, .int x2), (3, .int x3), (4, .int x4), (5, .int x5)] st _ _ M) (M := (K, len, I, J, R)) fun x7_ I7 h7 => ?_)
        obtain ⟨hs7, hf7, k7_0, k7_1⟩ := h7
        show P g X 13 39 [(0, .ref a0), (1, .int x1), (2, .int x2), (3, .int x3), (4, .int x4), (5, .int x5)] [.int x7_] _ _ (K, len, I7, J, R)
        have hF7 : Fr K [(1, 5), (1, 6), (9, 12), (43, 999), (50, 999), (51, 999), (52, 999), (53, 999), (54, 999)] I I7 := hF.trans hf7 rfl rfl
        have hc7 := hc.mv ka hf7 rfl
        exact r_iret hC hQ hlk hr rfl (by decide) (by decide) dX8_span_39 ⟨_, _, rfl, rfl, ⟨hs7, hF7, (by exact hc7), (by first | exact Or.inr ⟨by omega, by omega⟩ | exact Or.inl ⟨by omega, (congrArg Int32.toInt k7_0).trans NOlq⟩), (by omega)⟩⟩
      · refine r_iload hC dX8_span_27 4 rfl ?_
        refine r_bipush hC (v := (20)) dX8_span_29 (by decide) (by decide) (fun x8_ e8 t8 => ?_)
        refine r_icmp_le hC (tgt := 40) dX8_span_31 (by decide) (fun c9 => ?_) (fun c9 => ?_)
        · refine r_aload_n hC dX8_span_40 0 rfl ?_
          refine r_iload_n hC dX8_span_41 1 rfl ?_
          refine r_callV hC (As := [.int x1]) (rest := []) (ci := 8) (f_X8_courseOf g (xL X) K len I J R hs a0 ka0 x1 h hh kh lk hlk2 klk rd hrd krd lv hlv klv llv kn hkn kkn lkn cr hcr kcr1 lcr hu D E hc (by omega) (by omega)) mT_3_163 mT_1_1 mT_3_160 mT_3_162 mP_26 okX8_courseOf ⟨by decide, by decide⟩ rfl (by show kO (K a0) = _; rw [ka0]; rfl) rfl rfl (Nat.le_of_ble_eq_true rfl) ⟨by decide, by decide⟩ dX8_span_42 (aR1 (F := fun st M => P g X 13 45 [(0, .ref a0), (1, .int x1), (2, .int x2), (3, .int x3), (4, .int x4), (5, .int x5)] st _ _ M) (M := (K, len, I, J, R)) fun a10_ I10 h10 => ?_)
          obtain ⟨hs10, hf10, k10_0, k10_1, k10_2, k10_3, k10_4⟩ := h10
          show P g X 13 45 [(0, .ref a0), (1, .int x1), (2, .int x2), (3, .int x3), (4, .int x4), (5, .int x5)] [.ref a10_] _ _ (K, len, I10, J, R)
          have hF10 : Fr K [(1, 5), (1, 6), (9, 12), (43, 999), (50, 999), (51, 999), (52, 999), (53, 999), (54, 999)] I I10 := hF.trans hf10 rfl rfl
          refine r_astore hC (lv' := [(6, .ref a10_), (0, .ref a0), (1, .int x1), (2, .int x2), (3, .int x3), (4, .int x4), (5, .int x5)]) dX8_span_45 (by decide) rfl ?_
          refine r_aload hC dX8_span_47 0 rfl ?_
          obtain ⟨a11_, hb11, hk11, hn11⟩ := hs10.row k10_0 0 50 300 (by decide) (by decide)
          refine r_getr hC 0 (ci := 0) rfl u0_in (by decide) mT_2_26 dX8_span_49 k10_0 rfl rfl hb11 ?_
          refine r_iload_n hC dX8_span_52 3 rfl ?_
          refine r_iload_n hC dX8_span_53 4 rfl ?_
          refine r_callS hC (As := [.int x2, .int x3]) (rest := [.ref a11_]) (c_X8_row g (xL X) K len I10 J R hs10 x2 x3 (by omega) (by omega) (by omega) (by omega)) mT_3_192 mT_1_1 mT_3_197 mT_3_191 okX8_row ⟨by decide, by decide⟩ rfl rfl (Nat.le_of_ble_eq_true rfl) ⟨by decide, by decide⟩ dX8_span_54 (aI0 (F := fun st M => P g X 13 57 [(6, .ref a10_), (0, .ref a0), (1, .int x1), (2, .int x2), (3, .int x3), (4, .int x4), (5, .int x5)] st _ _ M) (M := (K, len, I10, J, R)) fun x12_ h12 => ?_)
          have k12_0 := h12
          clear h12
          show P g X 13 57 [(6, .ref a10_), (0, .ref a0), (1, .int x1), (2, .int x2), (3, .int x3), (4, .int x4), (5, .int x5)] [.int x12_, .ref a11_] _ _ (K, len, I10, J, R)
          refine x_iaload hC hk11 hn11 (by decide) rfl rfl dX8_span_57 (by omega) (by omega) (fun x13_ e13 => ?_)
          have q13 : x13_.toInt = SV D x1.toInt.toNat (Ad D x1.toInt.toNat (LP1 D) 1) x3.toInt.toNat x2.toInt.toNat := by rw [e13, clx (i := x12_) rfl (by omega), show x12_.toInt.toNat = 60 * x2.toInt.toNat + x3.toInt.toNat by omega]; exact k10_3.spd hs k10_0 hb11 (by omega) (by omega)
          have jb13 := k10_2.svb (s := x1.toInt.toNat) (by omega) (w2 := 1) x3.toInt.toNat x2.toInt.toNat
          refine r_istore hC (lv' := [(7, .int x13_), (6, .ref a10_), (0, .ref a0), (1, .int x1), (2, .int x2), (3, .int x3), (4, .int x4), (5, .int x5)]) dX8_span_58 (by decide) rfl ?_
          refine r_aload hC dX8_span_60 1 rfl ?_
          refine r_getr hC 0 (ci := 0) rfl u0_in (by decide) mT_2_26 dX8_span_62 k10_0 rfl rfl hb11 ?_
          refine r_iload_n hC dX8_span_65 4 rfl ?_
          refine r_iload_n hC dX8_span_66 5 rfl ?_
          refine r_iconst hC (v := (1)) dX8_span_67 (by decide) (by decide) (fun x14_ e14 t14 => ?_)
          refine r_iadd hC dX8_span_68 (fun x15_ e15 => ?_)
          try have t15 : x15_.toInt = x3.toInt + x14_.toInt := by rw [e15]; exact ti_add (by omega) (by omega)
          refine r_callS hC (As := [.int x2, .int x15_]) (rest := [.ref a11_]) (c_X8_row g (xL X) K len I10 J R hs10 x2 x15_ (by omega) (by omega) (by omega) (by omega)) mT_3_192 mT_1_1 mT_3_197 mT_3_191 okX8_row ⟨by decide, by decide⟩ rfl rfl (Nat.le_of_ble_eq_true rfl) ⟨by decide, by decide⟩ dX8_span_69 (aI0 (F := fun st M => P g X 13 72 [(7, .int x13_), (6, .ref a10_), (0, .ref a0), (1, .int x1), (2, .int x2), (3, .int x3), (4, .int x4), (5, .int x5)] st _ _ M) (M := (K, len, I10, J, R)) fun x16_ h16 => ?_)
          have k16_0 := h16
          clear h16
          show P g X 13 72 [(7, .int x13_), (6, .ref a10_), (0, .ref a0), (1, .int x1), (2, .int x2), (3, .int x3), (4, .int x4), (5, .int x5)] [.int x16_, .ref a11_] _ _ (K, len, I10, J, R)
          refine x_iaload hC hk11 hn11 (by decide) rfl rfl dX8_span_72 (by omega) (by omega) (fun x17_ e17 => ?_)
          have q17 : x17_.toInt = SV D x1.toInt.toNat (Ad D x1.toInt.toNat (LP1 D) 1) x15_.toInt.toNat x2.toInt.toNat := by rw [e17, clx (i := x16_) rfl (by omega), show x16_.toInt.toNat = 60 * x2.toInt.toNat + x15_.toInt.toNat by omega]; exact k10_3.spd hs k10_0 hb11 (by omega) (by omega)
          have jb17 := k10_2.svb (s := x1.toInt.toNat) (by omega) (w2 := 1) x15_.toInt.toNat x2.toInt.toNat
          have qbn : x17_.toInt = SV D x1.toInt.toNat (Ad D x1.toInt.toNat (LP1 D) 1) (x3.toInt.toNat + 1) x2.toInt.toNat := by rw [← show x15_.toInt.toNat = x3.toInt.toNat + 1 by omega]; exact q17
          refine r_istore hC (lv' := [(8, .int x17_), (7, .int x13_), (6, .ref a10_), (0, .ref a0), (1, .int x1), (2, .int x2), (3, .int x3), (4, .int x4), (5, .int x5)]) dX8_span_73 (by decide) rfl ?_
          refine r_bipush hC (v := (-2)) dX8_span_75 (by decide) (by decide) (fun x18_ e18 t18 => ?_)
          refine r_istore hC (lv' := [(9, .int x18_), (8, .int x17_), (7, .int x13_), (6, .ref a10_), (0, .ref a0), (1, .int x1), (2, .int x2), (3, .int x3), (4, .int x4), (5, .int x5)]) dX8_span_77 (by decide) rfl ?_
          refine r_iconst hC (v := (-1)) dX8_span_79 (by decide) (by decide) (fun x19_ e19 t19 => ?_)
          refine r_istore hC (lv' := [(10, .int x19_), (9, .int x18_), (8, .int x17_), (7, .int x13_), (6, .ref a10_), (0, .ref a0), (1, .int x1), (2, .int x2), (3, .int x3), (4, .int x4), (5, .int x5)]) dX8_span_80 (by decide) rfl ?_
          have LP20 : ∀ (mu : Nat) (x20_10 : Int32) (x20_9 : Int32) (v20_0 : -1 ≤ x20_10.toInt) (v20_1 : x20_10.toInt ≤ 2) (v20_2 : x20_9.toInt = So x3.toInt (SV D x1.toInt.toNat (Ad D x1.toInt.toNat (LP1 D) 1) x3.toInt.toNat x2.toInt.toNat) (SV D x1.toInt.toNat (Ad D x1.toInt.toNat (LP1 D) 1) (x3.toInt.toNat + 1) x2.toInt.toNat) x4.toInt x5.toInt (x20_10.toInt + 1).toNat) (v20_3 : -2 ≤ x20_9.toInt ∧ x20_9.toInt ≤ 32000), (2 - x20_10.toInt).toNat = mu → P g X 13 82 [(0, .ref a0), (1, .int x1), (2, .int x2), (3, .int x3), (4, .int x4), (5, .int x5), (6, .ref a10_), (7, .int x13_), (8, .int x17_), (9, .int x20_9), (10, .int x20_10)] [] 0 0 (K, len, I10, J, R) := by
            intro mu; induction mu using Nat.strongRecOn with | ind mu ih => ?_
            intro x20_10 x20_9 v20_0 v20_1 v20_2 v20_3 hmu
            have ih20 := ih
            clear ih
            have hmu20 := hmu
            clear hmu
            refine r_iload hC dX8_span_82 10 rfl ?_
            refine r_iconst hC (v := (1)) dX8_span_84 (by decide) (by decide) (fun x21_ e21 t21 => ?_)
            refine r_icmp_gt hC (tgt := 171) dX8_span_85 (by decide) (fun c22 => ?_) (fun c22 => ?_)
            · refine r_aload_n hC dX8_span_171 0 rfl ?_
              refine r_iload hC dX8_span_172 9 rfl ?_
              have lqs : x20_9.toInt = So x3.toInt (SV D x1.toInt.toNat (Ad D x1.toInt.toNat (LP1 D) 1) x3.toInt.toNat x2.toInt.toNat) (SV D x1.toInt.toNat (Ad D x1.toInt.toNat (LP1 D) 1) (x3.toInt.toNat + 1) x2.toInt.toNat) x4.toInt x5.toInt 3 := by have h9 := v20_2; rw [show (x20_10.toInt + 1).toNat = 3 by omega] at h9; exact h9
              refine r_callV hC (As := [.int x20_9]) (rest := []) (ci := 8) (c_X8_answer g (xL X) K len I10 J R hs10 a0 ka0 x20_9) mT_3_115 mT_1_1 mT_3_112 mT_3_114 mP_21 okX8_answer ⟨by decide, by decide⟩ rfl (by show kO (K a0) = _; rw [ka0]; rfl) rfl rfl (Nat.le_of_ble_eq_true rfl) ⟨by decide, by decide⟩ dX8_span_174 (aI1 (F := fun st M => P g X 13 177 [(0, .ref a0), (1, .int x1), (2, .int x2), (3, .int x3), (4, .int x4), (5, .int x5), (6, .ref a10_), (7, .int x13_), (8, .int x17_), (9, .int x20_9), (10, .int x20_10)] st _ _ M) (M := (K, len, I10, J, R)) fun x23_ I23 h23 => ?_)
              obtain ⟨hs23, hf23, k23_0, k23_1⟩ := h23
              show P g X 13 177 [(0, .ref a0), (1, .int x1), (2, .int x2), (3, .int x3), (4, .int x4), (5, .int x5), (6, .ref a10_), (7, .int x13_), (8, .int x17_), (9, .int x20_9), (10, .int x20_10)] [.int x23_] _ _ (K, len, I23, J, R)
              have hF23 : Fr K [(1, 5), (1, 6), (9, 12), (43, 999), (50, 999), (51, 999), (52, 999), (53, 999), (54, 999)] I I23 := hF10.trans hf23 rfl rfl
              have hc23 := k10_2.mv ka hf23 rfl
              have coa10__23 := k10_3.mv hs k10_0 hf23 rfl
              exact r_iret hC hQ hlk hr rfl (by decide) (by decide) dX8_span_177 ⟨_, _, rfl, rfl, ⟨hs23, hF23, (by exact hc23), (by first | exact Or.inr ⟨by omega, by omega⟩ | exact Or.inl ⟨by omega, (congrArg Int32.toInt k23_0).trans lqs⟩), (by omega)⟩⟩
            · refine r_iconst hC (v := (-1)) dX8_span_88 (by decide) (by decide) (fun x24_ e24 t24 => ?_)
              refine r_istore hC (lv' := [(11, .int x24_), (0, .ref a0), (1, .int x1), (2, .int x2), (3, .int x3), (4, .int x4), (5, .int x5), (6, .ref a10_), (7, .int x13_), (8, .int x17_), (9, .int x20_9), (10, .int x20_10)]) dX8_span_89 (by decide) rfl ?_
              have LP25 : ∀ (mu : Nat) (x25_11 : Int32) (x25_9 : Int32) (v25_0 : -1 ≤ x25_11.toInt) (v25_1 : x25_11.toInt ≤ 2) (v25_2 : x25_9.toInt = Sr x3.toInt (SV D x1.toInt.toNat (Ad D x1.toInt.toNat (LP1 D) 1) x3.toInt.toNat x2.toInt.toNat) (SV D x1.toInt.toNat (Ad D x1.toInt.toNat (LP1 D) 1) (x3.toInt.toNat + 1) x2.toInt.toNat) x4.toInt x5.toInt x20_10.toInt (So x3.toInt (SV D x1.toInt.toNat (Ad D x1.toInt.toNat (LP1 D) 1) x3.toInt.toNat x2.toInt.toNat) (SV D x1.toInt.toNat (Ad D x1.toInt.toNat (LP1 D) 1) (x3.toInt.toNat + 1) x2.toInt.toNat) x4.toInt x5.toInt (x20_10.toInt + 1).toNat) (x25_11.toInt + 1).toNat) (v25_3 : -2 ≤ x25_9.toInt ∧ x25_9.toInt ≤ 32000), (2 - x25_11.toInt).toNat = mu → P g X 13 91 [(0, .ref a0), (1, .int x1), (2, .int x2), (3, .int x3), (4, .int x4), (5, .int x5), (6, .ref a10_), (7, .int x13_), (8, .int x17_), (9, .int x25_9), (10, .int x20_10), (11, .int x25_11)] [] 0 0 (K, len, I10, J, R) := by
                intro mu; induction mu using Nat.strongRecOn with | ind mu ih => ?_
                intro x25_11 x25_9 v25_0 v25_1 v25_2 v25_3 hmu
                have ih25 := ih
                clear ih
                have hmu25 := hmu
                clear hmu
                refine r_iload hC dX8_span_91 11 rfl ?_
                refine r_iconst hC (v := (1)) dX8_span_93 (by decide) (by decide) (fun x26_ e26 t26 => ?_)
                refine r_icmp_gt hC (tgt := 165) dX8_span_94 (by decide) (fun c27 => ?_) (fun c27 => ?_)
                · obtain ⟨x28_, e28⟩ : ∃ z : Int32, z = x20_10 + Int32.ofInt (1) := ⟨_, rfl⟩
                  refine r_iinc hC (j := 10) (v := x28_) (lv' := [(10, .int x28_), (0, .ref a0), (1, .int x1), (2, .int x2), (3, .int x3), (4, .int x4), (5, .int x5), (6, .ref a10_), (7, .int x13_), (8, .int x17_), (9, .int x25_9), (11, .int x25_11)]) dX8_span_165 rfl (by rw [e28]) (by decide) rfl ?_
                  try have t28 : x28_.toInt = x20_10.toInt + (1) := by rw [e28]; exact (ti_add (b := Int32.ofInt (1)) (by show _ ≤ _ + (1 : Int); omega) (by show _ + (1 : Int) ≤ _; omega))
                  refine r_goto hC (tgt := 82) dX8_span_168 (by decide) ?_
                  refine r_sub [1, 2, 3, 4, 5, 6, 7, 8, 9, 10, 0] rfl ?_
                  exact ih20 ((2 - x28_.toInt).toNat) (by omega) x28_ x25_9 (by omega) (by omega) (by first | (rw [show (x28_.toInt + 1).toNat = 0 by omega]; show _ = (-2 : Int); omega) | (rw [show (x28_.toInt + 1).toNat = (x20_10.toInt + 1).toNat + 1 by omega, So_s (i := x20_10.toInt) (by omega)]; have h9 := v25_2; rw [show (x25_11.toInt + 1).toNat = 3 by omega] at h9; exact h9)) (by omega) rfl
                · refine r_iload_n hC dX8_span_97 3 rfl ?_
                  refine r_iload hC dX8_span_98 7 rfl ?_
                  refine r_iload hC dX8_span_100 10 rfl ?_
                  refine r_iload hC dX8_span_102 4 rfl ?_
                  refine r_imul hC dX8_span_104 (fun x29_ e29 => ?_)
                  obtain ⟨spi1, spi1l, spi1h⟩ := tmul3 e29 (by omega) (by omega)
                  refine r_iadd hC dX8_span_105 (fun x30_ e30 => ?_)
                  try have t30 : x30_.toInt = x13_.toInt + x29_.toInt := by rw [e30]; exact ti_add (by omega) (by omega)
                  refine r_iload hC dX8_span_106 8 rfl ?_
                  refine r_iload hC dX8_span_108 11 rfl ?_
                  refine r_iload hC dX8_span_110 4 rfl ?_
                  refine r_imul hC dX8_span_112 (fun x31_ e31 => ?_)
                  obtain ⟨spi2, spi2l, spi2h⟩ := tmul3 e31 (by omega) (by omega)
                  refine r_iadd hC dX8_span_113 (fun x32_ e32 => ?_)
                  try have t32 : x32_.toInt = x17_.toInt + x31_.toInt := by rw [e32]; exact ti_add (by omega) (by omega)
                  refine r_callS hC (As := [.int x3, .int x30_, .int x32_]) (rest := []) (f_X8_noughtBy g (xL X) K len I10 J R hs10 x3 x30_ x32_ (by omega) (by omega) (by omega)) mT_4_62 mT_1_1 mT_4_60 mT_4_61 okX8_noughtBy ⟨by decide, by decide⟩ rfl rfl (Nat.le_of_ble_eq_true rfl) ⟨by decide, by decide⟩ dX8_span_114 (aI0 (F := fun st M => P g X 13 117 [(0, .ref a0), (1, .int x1), (2, .int x2), (3, .int x3), (4, .int x4), (5, .int x5), (6, .ref a10_), (7, .int x13_), (8, .int x17_), (9, .int x25_9), (10, .int x20_10), (11, .int x25_11)] st _ _ M) (M := (K, len, I10, J, R)) fun x33_ h33 => ?_)
                  obtain ⟨k33_0, k33_1⟩ := h33
                  show P g X 13 117 [(0, .ref a0), (1, .int x1), (2, .int x2), (3, .int x3), (4, .int x4), (5, .int x5), (6, .ref a10_), (7, .int x13_), (8, .int x17_), (9, .int x25_9), (10, .int x20_10), (11, .int x25_11)] [.int x33_] _ _ (K, len, I10, J, R)
                  have nv : x33_.toInt = Ng x3.toInt ((SV D x1.toInt.toNat (Ad D x1.toInt.toNat (LP1 D) 1) x3.toInt.toNat x2.toInt.toNat) + x20_10.toInt * x4.toInt) ((SV D x1.toInt.toNat (Ad D x1.toInt.toNat (LP1 D) 1) (x3.toInt.toNat + 1) x2.toInt.toNat) + x25_11.toInt * x4.toInt) := by rw [k33_0, show x30_.toInt = (SV D x1.toInt.toNat (Ad D x1.toInt.toNat (LP1 D) 1) x3.toInt.toNat x2.toInt.toNat) + x20_10.toInt * x4.toInt by omega, show x32_.toInt = (SV D x1.toInt.toNat (Ad D x1.toInt.toNat (LP1 D) 1) (x3.toInt.toNat + 1) x2.toInt.toNat) + x25_11.toInt * x4.toInt by omega]
                  refine r_istore hC (lv' := [(12, .int x33_), (0, .ref a0), (1, .int x1), (2, .int x2), (3, .int x3), (4, .int x4), (5, .int x5), (6, .ref a10_), (7, .int x13_), (8, .int x17_), (9, .int x25_9), (10, .int x20_10), (11, .int x25_11)]) dX8_span_117 (by decide) rfl ?_
                  refine r_iload hC dX8_span_119 0 rfl ?_
                  refine r_bipush hC (v := (-2)) dX8_span_121 (by decide) (by decide) (fun x34_ e34 t34 => ?_)
                  refine r_icmp_eq hC (tgt := 159) dX8_span_123 (by decide) (fun c35 => ?_) (fun c35 => ?_)
                  · obtain ⟨x36_, e36⟩ : ∃ z : Int32, z = x25_11 + Int32.ofInt (1) := ⟨_, rfl⟩
                    refine r_iinc hC (j := 12) (v := x36_) (lv' := [(11, .int x36_), (12, .int x33_), (0, .ref a0), (1, .int x1), (2, .int x2), (3, .int x3), (4, .int x4), (5, .int x5), (6, .ref a10_), (7, .int x13_), (8, .int x17_), (9, .int x25_9), (10, .int x20_10)]) dX8_span_159 rfl (by rw [e36]) (by decide) rfl ?_
                    try have t36 : x36_.toInt = x25_11.toInt + (1) := by rw [e36]; exact (ti_add (b := Int32.ofInt (1)) (by show _ ≤ _ + (1 : Int); omega) (by show _ + (1 : Int) ≤ _; omega))
                    refine r_goto hC (tgt := 91) dX8_span_162 (by decide) ?_
                    refine r_sub [2, 3, 4, 5, 6, 7, 8, 9, 10, 11, 12, 0] rfl ?_
                    exact ih25 ((2 - x36_.toInt).toNat) (by omega) x36_ x25_9 (by omega) (by omega) (by first | (rw [show (x36_.toInt + 1).toNat = 0 by omega]; exact v20_2) | (rw [show (x36_.toInt + 1).toNat = (x25_11.toInt + 1).toNat + 1 by omega, Sr_s (j := x25_11.toInt) (by omega) nv v25_2]; first | (rw [Sb_t (by omega)]) | (rw [Sb_n (by omega)]))) (by omega) rfl
                  · refine r_iload hC dX8_span_126 10 rfl ?_
                    refine r_bipush hC (v := (-2)) dX8_span_128 (by decide) (by decide) (fun x37_ e37 t37 => ?_)
                    refine r_icmp_eq hC (tgt := 155) dX8_span_130 (by decide) (fun c38 => ?_) (fun c38 => ?_)
                    · refine r_iload hC dX8_span_155 0 rfl ?_
                      refine r_istore hC (lv' := [(9, .int x33_), (12, .int x33_), (0, .ref a0), (1, .int x1), (2, .int x2), (3, .int x3), (4, .int x4), (5, .int x5), (6, .ref a10_), (7, .int x13_), (8, .int x17_), (10, .int x20_10), (11, .int x25_11)]) dX8_span_157 (by decide) rfl ?_
                      obtain ⟨x39_, e39⟩ : ∃ z : Int32, z = x25_11 + Int32.ofInt (1) := ⟨_, rfl⟩
                      refine r_iinc hC (j := 12) (v := x39_) (lv' := [(11, .int x39_), (9, .int x33_), (12, .int x33_), (0, .ref a0), (1, .int x1), (2, .int x2), (3, .int x3), (4, .int x4), (5, .int x5), (6, .ref a10_), (7, .int x13_), (8, .int x17_), (10, .int x20_10)]) dX8_span_159 rfl (by rw [e39]) (by decide) rfl ?_
                      try have t39 : x39_.toInt = x25_11.toInt + (1) := by rw [e39]; exact (ti_add (b := Int32.ofInt (1)) (by show _ ≤ _ + (1 : Int); omega) (by show _ + (1 : Int) ≤ _; omega))
                      refine r_goto hC (tgt := 91) dX8_span_162 (by decide) ?_
                      refine r_sub [3, 4, 5, 6, 7, 8, 9, 10, 11, 1, 12, 0] rfl ?_
                      exact ih25 ((2 - x39_.toInt).toNat) (by omega) x39_ x33_ (by omega) (by omega) (by first | (rw [show (x39_.toInt + 1).toNat = 0 by omega]; exact v20_2) | (rw [show (x39_.toInt + 1).toNat = (x25_11.toInt + 1).toNat + 1 by omega, Sr_s (j := x25_11.toInt) (by omega) nv v25_2]; first | (rw [Sb_t (by omega)]) | (rw [Sb_n (by omega)]))) (by omega) rfl
                    · refine r_iload hC dX8_span_133 6 rfl ?_
                      refine r_if_eq hC (tgt := 148) dX8_span_135 (by decide) (fun c40 => ?_) (fun c40 => ?_)
                      · refine r_iload hC dX8_span_148 0 rfl ?_
                        refine r_iload hC dX8_span_150 10 rfl ?_
                        refine r_icmp_ge hC (tgt := 159) dX8_span_152 (by decide) (fun c41 => ?_) (fun c41 => ?_)
                        · obtain ⟨x42_, e42⟩ : ∃ z : Int32, z = x25_11 + Int32.ofInt (1) := ⟨_, rfl⟩
                          refine r_iinc hC (j := 12) (v := x42_) (lv' := [(11, .int x42_), (12, .int x33_), (0, .ref a0), (1, .int x1), (2, .int x2), (3, .int x3), (4, .int x4), (5, .int x5), (6, .ref a10_), (7, .int x13_), (8, .int x17_), (9, .int x25_9), (10, .int x20_10)]) dX8_span_159 rfl (by rw [e42]) (by decide) rfl ?_
                          try have t42 : x42_.toInt = x25_11.toInt + (1) := by rw [e42]; exact (ti_add (b := Int32.ofInt (1)) (by show _ ≤ _ + (1 : Int); omega) (by show _ + (1 : Int) ≤ _; omega))
                          refine r_goto hC (tgt := 91) dX8_span_162 (by decide) ?_
                          refine r_sub [2, 3, 4, 5, 6, 7, 8, 9, 10, 11, 12, 0] rfl ?_
                          exact ih25 ((2 - x42_.toInt).toNat) (by omega) x42_ x25_9 (by omega) (by omega) (by first | (rw [show (x42_.toInt + 1).toNat = 0 by omega]; exact v20_2) | (rw [show (x42_.toInt + 1).toNat = (x25_11.toInt + 1).toNat + 1 by omega, Sr_s (j := x25_11.toInt) (by omega) nv v25_2]; first | (rw [Sb_t (by omega)]) | (rw [Sb_n (by omega)]))) (by omega) rfl
                        · refine r_iload hC dX8_span_155 0 rfl ?_
                          refine r_istore hC (lv' := [(9, .int x33_), (12, .int x33_), (0, .ref a0), (1, .int x1), (2, .int x2), (3, .int x3), (4, .int x4), (5, .int x5), (6, .ref a10_), (7, .int x13_), (8, .int x17_), (10, .int x20_10), (11, .int x25_11)]) dX8_span_157 (by decide) rfl ?_
                          obtain ⟨x43_, e43⟩ : ∃ z : Int32, z = x25_11 + Int32.ofInt (1) := ⟨_, rfl⟩
                          refine r_iinc hC (j := 12) (v := x43_) (lv' := [(11, .int x43_), (9, .int x33_), (12, .int x33_), (0, .ref a0), (1, .int x1), (2, .int x2), (3, .int x3), (4, .int x4), (5, .int x5), (6, .ref a10_), (7, .int x13_), (8, .int x17_), (10, .int x20_10)]) dX8_span_159 rfl (by rw [e43]) (by decide) rfl ?_
                          try have t43 : x43_.toInt = x25_11.toInt + (1) := by rw [e43]; exact (ti_add (b := Int32.ofInt (1)) (by show _ ≤ _ + (1 : Int); omega) (by show _ + (1 : Int) ≤ _; omega))
                          refine r_goto hC (tgt := 91) dX8_span_162 (by decide) ?_
                          refine r_sub [3, 4, 5, 6, 7, 8, 9, 10, 11, 1, 12, 0] rfl ?_
                          exact ih25 ((2 - x43_.toInt).toNat) (by omega) x43_ x33_ (by omega) (by omega) (by first | (rw [show (x43_.toInt + 1).toNat = 0 by omega]; exact v20_2) | (rw [show (x43_.toInt + 1).toNat = (x25_11.toInt + 1).toNat + 1 by omega, Sr_s (j := x25_11.toInt) (by omega) nv v25_2]; first | (rw [Sb_t (by omega)]) | (rw [Sb_n (by omega)]))) (by omega) rfl
                      · refine r_iload hC dX8_span_138 0 rfl ?_
                        refine r_iload hC dX8_span_140 10 rfl ?_
                        refine r_icmp_le hC (tgt := 159) dX8_span_142 (by decide) (fun c44 => ?_) (fun c44 => ?_)
                        · obtain ⟨x45_, e45⟩ : ∃ z : Int32, z = x25_11 + Int32.ofInt (1) := ⟨_, rfl⟩
                          refine r_iinc hC (j := 12) (v := x45_) (lv' := [(11, .int x45_), (12, .int x33_), (0, .ref a0), (1, .int x1), (2, .int x2), (3, .int x3), (4, .int x4), (5, .int x5), (6, .ref a10_), (7, .int x13_), (8, .int x17_), (9, .int x25_9), (10, .int x20_10)]) dX8_span_159 rfl (by rw [e45]) (by decide) rfl ?_
                          try have t45 : x45_.toInt = x25_11.toInt + (1) := by rw [e45]; exact (ti_add (b := Int32.ofInt (1)) (by show _ ≤ _ + (1 : Int); omega) (by show _ + (1 : Int) ≤ _; omega))
                          refine r_goto hC (tgt := 91) dX8_span_162 (by decide) ?_
                          refine r_sub [2, 3, 4, 5, 6, 7, 8, 9, 10, 11, 12, 0] rfl ?_
                          exact ih25 ((2 - x45_.toInt).toNat) (by omega) x45_ x25_9 (by omega) (by omega) (by first | (rw [show (x45_.toInt + 1).toNat = 0 by omega]; exact v20_2) | (rw [show (x45_.toInt + 1).toNat = (x25_11.toInt + 1).toNat + 1 by omega, Sr_s (j := x25_11.toInt) (by omega) nv v25_2]; first | (rw [Sb_t (by omega)]) | (rw [Sb_n (by omega)]))) (by omega) rfl
                        · refine r_goto hC (tgt := 155) dX8_span_145 (by decide) ?_
                          refine r_iload hC dX8_span_155 0 rfl ?_
                          refine r_istore hC (lv' := [(9, .int x33_), (12, .int x33_), (0, .ref a0), (1, .int x1), (2, .int x2), (3, .int x3), (4, .int x4), (5, .int x5), (6, .ref a10_), (7, .int x13_), (8, .int x17_), (10, .int x20_10), (11, .int x25_11)]) dX8_span_157 (by decide) rfl ?_
                          obtain ⟨x46_, e46⟩ : ∃ z : Int32, z = x25_11 + Int32.ofInt (1) := ⟨_, rfl⟩
                          refine r_iinc hC (j := 12) (v := x46_) (lv' := [(11, .int x46_), (9, .int x33_), (12, .int x33_), (0, .ref a0), (1, .int x1), (2, .int x2), (3, .int x3), (4, .int x4), (5, .int x5), (6, .ref a10_), (7, .int x13_), (8, .int x17_), (10, .int x20_10)]) dX8_span_159 rfl (by rw [e46]) (by decide) rfl ?_
                          try have t46 : x46_.toInt = x25_11.toInt + (1) := by rw [e46]; exact (ti_add (b := Int32.ofInt (1)) (by show _ ≤ _ + (1 : Int); omega) (by show _ + (1 : Int) ≤ _; omega))
                          refine r_goto hC (tgt := 91) dX8_span_162 (by decide) ?_
                          refine r_sub [3, 4, 5, 6, 7, 8, 9, 10, 11, 1, 12, 0] rfl ?_
                          exact ih25 ((2 - x46_.toInt).toNat) (by omega) x46_ x33_ (by omega) (by omega) (by first | (rw [show (x46_.toInt + 1).toNat = 0 by omega]; exact v20_2) | (rw [show (x46_.toInt + 1).toNat = (x25_11.toInt + 1).toNat + 1 by omega, Sr_s (j := x25_11.toInt) (by omega) nv v25_2]; first | (rw [Sb_t (by omega)]) | (rw [Sb_n (by omega)]))) (by omega) rfl
              refine r_sub [1, 2, 3, 4, 5, 6, 7, 8, 9, 10, 11, 0] rfl ?_
              exact LP25 _ x24_ x20_9 (by omega) (by omega) (by first | (rw [show (x24_.toInt + 1).toNat = 0 by omega]; exact v20_2) | (rw [show (x24_.toInt + 1).toNat = (x25_11.toInt + 1).toNat + 1 by omega, Sr_s (j := x25_11.toInt) (by omega) nv v25_2]; first | (rw [Sb_t (by omega)]) | (rw [Sb_n (by omega)]))) (by omega) rfl
          refine r_sub [5, 6, 7, 8, 9, 10, 4, 3, 2, 1, 0] rfl ?_
          exact LP20 _ x19_ x18_ (by omega) (by omega) (by first | (rw [show (x19_.toInt + 1).toNat = 0 by omega]; show _ = (-2 : Int); omega) | (rw [show (x19_.toInt + 1).toNat = (x20_10.toInt + 1).toNat + 1 by omega, So_s (i := x20_10.toInt) (by omega)]; have h9 := NOx_vi2; rw [show (NOx_li.toInt + 1).toNat = 3 by omega] at h9; exact h9)) (by omega) rfl
        · refine r_aload_n hC dX8_span_34 0 rfl ?_
          refine r_iconst hC (v := (2)) dX8_span_35 (by decide) (by decide) (fun x47_ e47 t47 => ?_)
          refine r_callV hC (As := [.int x47_]) (rest := []) (ci := 8) (c_X8_refuse g (xL X) K len I J R hs a0 ka0 x47_) mT_2_133 mT_1_1 mT_2_130 mT_2_132 mP_0 okX8_refuse ⟨by decide, by decide⟩ rfl (by show kO (K a0) = _; rw [ka0]; rfl) rfl rfl (Nat.le_of_ble_eq_true rfl) ⟨by decide, by decide⟩ dX8_span_36 (aI1 (F := fun st M => P g X 13 39 [(0, .ref a0), (1, .int x1), (2, .int x2), (3, .int x3), (4, .int x4), (5, .int x5)] st _ _ M) (M := (K, len, I, J, R)) fun x48_ I48 h48 => ?_)
          obtain ⟨hs48, hf48, k48_0, k48_1⟩ := h48
          show P g X 13 39 [(0, .ref a0), (1, .int x1), (2, .int x2), (3, .int x3), (4, .int x4), (5, .int x5)] [.int x48_] _ _ (K, len, I48, J, R)
          have hF48 : Fr K [(1, 5), (1, 6), (9, 12), (43, 999), (50, 999), (51, 999), (52, 999), (53, 999), (54, 999)] I I48 := hF.trans hf48 rfl rfl
          have hc48 := hc.mv ka hf48 rfl
          exact r_iret hC hQ hlk hr rfl (by decide) (by decide) dX8_span_39 ⟨_, _, rfl, rfl, ⟨hs48, hF48, (by exact hc48), (by first | exact Or.inr ⟨by omega, by omega⟩ | exact Or.inl ⟨by omega, (congrArg Int32.toInt k48_0).trans NOlq⟩), (by omega)⟩⟩
    · refine r_aload_n hC dX8_span_16 0 rfl ?_
      refine r_iconst hC (v := (1)) dX8_span_17 (by decide) (by decide) (fun x49_ e49 t49 => ?_)
      refine r_callV hC (As := [.int x49_]) (rest := []) (ci := 8) (c_X8_refuse g (xL X) K len I J R hs a0 ka0 x49_) mT_2_133 mT_1_1 mT_2_130 mT_2_132 mP_0 okX8_refuse ⟨by decide, by decide⟩ rfl (by show kO (K a0) = _; rw [ka0]; rfl) rfl rfl (Nat.le_of_ble_eq_true rfl) ⟨by decide, by decide⟩ dX8_span_18 (aI1 (F := fun st M => P g X 13 21 [(0, .ref a0), (1, .int x1), (2, .int x2), (3, .int x3), (4, .int x4), (5, .int x5)] st _ _ M) (M := (K, len, I, J, R)) fun x50_ I50 h50 => ?_)
      obtain ⟨hs50, hf50, k50_0, k50_1⟩ := h50
      show P g X 13 21 [(0, .ref a0), (1, .int x1), (2, .int x2), (3, .int x3), (4, .int x4), (5, .int x5)] [.int x50_] _ _ (K, len, I50, J, R)
      have hF50 : Fr K [(1, 5), (1, 6), (9, 12), (43, 999), (50, 999), (51, 999), (52, 999), (53, 999), (54, 999)] I I50 := hF.trans hf50 rfl rfl
      have hc50 := hc.mv ka hf50 rfl
      exact r_iret hC hQ hlk hr rfl (by decide) (by decide) dX8_span_21 ⟨_, _, rfl, rfl, ⟨hs50, hF50, (by exact hc50), (by first | exact Or.inr ⟨by omega, by omega⟩ | exact Or.inl ⟨by omega, (congrArg Int32.toInt k50_0).trans NOlq⟩), (by omega)⟩⟩
  · refine r_if_eq hC (tgt := 16) dX8_span_7 (by decide) (fun c51 => ?_) (fun c51 => ?_)
    rotate_left
    · exfalso; omega
    refine r_aload_n hC dX8_span_16 0 rfl ?_
    refine r_iconst hC (v := (1)) dX8_span_17 (by decide) (by decide) (fun x52_ e52 t52 => ?_)
    refine r_callV hC (As := [.int x52_]) (rest := []) (ci := 8) (c_X8_refuse g (xL X) K len I J R hs a0 ka0 x52_) mT_2_133 mT_1_1 mT_2_130 mT_2_132 mP_0 okX8_refuse ⟨by decide, by decide⟩ rfl (by show kO (K a0) = _; rw [ka0]; rfl) rfl rfl (Nat.le_of_ble_eq_true rfl) ⟨by decide, by decide⟩ dX8_span_18 (aI1 (F := fun st M => P g X 13 21 [(0, .ref a0), (1, .int x1), (2, .int x2), (3, .int x3), (4, .int x4), (5, .int x5)] st _ _ M) (M := (K, len, I, J, R)) fun x53_ I53 h53 => ?_)
    obtain ⟨hs53, hf53, k53_0, k53_1⟩ := h53
    show P g X 13 21 [(0, .ref a0), (1, .int x1), (2, .int x2), (3, .int x3), (4, .int x4), (5, .int x5)] [.int x53_] _ _ (K, len, I53, J, R)
    have hF53 : Fr K [(1, 5), (1, 6), (9, 12), (43, 999), (50, 999), (51, 999), (52, 999), (53, 999), (54, 999)] I I53 := hF.trans hf53 rfl rfl
    have hc53 := hc.mv ka hf53 rfl
    exact r_iret hC hQ hlk hr rfl (by decide) (by decide) dX8_span_21 ⟨_, _, rfl, rfl, ⟨hs53, hF53, (by exact hc53), (by first | exact Or.inr ⟨by omega, by omega⟩ | exact Or.inl ⟨by omega, (congrArg Int32.toInt k53_0).trans NOlq⟩), (by omega)⟩⟩
set_option maxHeartbeats 4000000 in
set_option maxRecDepth 100000 in
theorem f_X10_span (g : GG) (l : Launch) (K len : Nat → Nat) (I : Nat → Nat → Int32) (J : Nat → Nat → Int64) (R : Nat → Nat → Option Nat) (hs : Sf K len I R) (a0 : Nat) (ka0 : K a0 = 11) (x1 : Int32) (x2 : Int32) (x3 : Int32) (x4 : Int32) (x5 : Int32) (D : DD) (E : Nat → Nat → Int) (hmx : ∀ hm, R a0 3 = some hm → MC D E a0 hm I R) : Ct g l yX10_span cX10_span 11 (Option.some Jvm.ClassFile.FieldType.int) rmX10_span [.ref a0, .int x1, .int x2, .int x3, .int x4, .int x5] (K, len, I, J, R) (pI1 (K, len, I, J, R) (fun r I' => Sf K len I' R ∧ Fr K [(11, 0), (11, 1), (11, 2), (11, 19), (85, 999), (86, 999), (87, 999), (88, 999)] I I' ∧ ((R a0 3 = none ∧ r.toInt = -1) ∨ (∃ hm, R a0 3 = some hm ∧ ((((0 ≤ x1.toInt ∧ x1.toInt < D 0 7) ∧ (0 ≤ x2.toInt ∧ x2.toInt < D 0 5) ∧ 0 ≤ x3.toInt ∧ x3.toInt ≤ 58) ∧ 0 ≤ x4.toInt ∧ x4.toInt ≤ 20) ∧ r.toInt = So x3.toInt (SV D x1.toInt.toNat (Ad D x1.toInt.toNat (LP1 D) 1) x3.toInt.toNat x2.toInt.toNat) (SV D x1.toInt.toNat (Ad D x1.toInt.toNat (LP1 D) 1) (x3.toInt.toNat + 1) x2.toInt.toNat) x4.toInt x5.toInt 3 ∨ ¬ (((0 ≤ x1.toInt ∧ x1.toInt < D 0 7) ∧ (0 ≤ x2.toInt ∧ x2.toInt < D 0 5) ∧ 0 ≤ x3.toInt ∧ x3.toInt ≤ 58) ∧ 0 ≤ x4.toInt ∧ x4.toInt ≤ 20) ∧ r.toInt = -1))) ∧ ((I' a0 2).toInt = -1))) := by
  refine Ct_intro (by decide +kernel) (Nat.le_of_ble_eq_true rfl) (fun X hC hL hKK hNm hr hlk hQ => ?_)
  subst hL
  have hC : Cx g X cX10_span "HillTapModel" 11 rmX10_span := hC
  show P g X 11 0 [(0, .ref a0), (1, .int x1), (2, .int x2), (3, .int x3), (4, .int x4), (5, .int x5)] [] 0 0 (K, len, I, J, R)
  have hF : Fr K [(11, 0), (11, 1), (11, 2), (11, 19), (85, 999), (86, 999), (87, 999), (88, 999)] I I := Fr.refl
  obtain ⟨lr, hlr, klr, llr⟩ := hs.row ka0 15 85 60 (by decide) (by decide)
  obtain ⟨sr, hsr, ksr, lsr⟩ := hs.row ka0 16 86 300 (by decide) (by decide)
  obtain ⟨ir, hir, kir, lir⟩ := hs.row ka0 17 87 300 (by decide) (by decide)
  obtain ⟨wr, hwr, kwr, lwr⟩ := hs.row ka0 18 88 300 (by decide) (by decide)
  have b_x1 := ti_rng x1
  have b_x2 := ti_rng x2
  have b_x3 := ti_rng x3
  have b_x4 := ti_rng x4
  have b_x5 := ti_rng x5
  rcases hs.2.1.2.2.1 a0 ka0 with hz | ⟨hm, hbm, khm⟩
  · refine r_aload_n hC dX10_span_0 0 rfl ?_
    refine r_iconst hC (v := (0)) dX10_span_1 (by decide) (by decide) (fun x1_ e1 t1 => ?_)
    refine r_puti hC 0 (ci := 10) rfl u10_in tyX10_ok nmX10 (by decide) mT_4_235 rfl rfl rfl dX10_span_2 ka0 rfl rfl (fun I2 eI2 => ?_)
    have hs2 := hs.put0 eI2 ka0 rfl rfl rfl (by decide)
    have hF2 := hF.put eI2 ka0 rfl
    refine r_aload_n hC dX10_span_5 0 rfl ?_
    refine r_iload_n hC dX10_span_6 1 rfl ?_
    refine r_iload_n hC dX10_span_7 2 rfl ?_
    refine r_iload_n hC dX10_span_8 3 rfl ?_
    refine r_callV hC (As := [.int x1, .int x2, .int x3]) (rest := []) (ci := 10) (f_X10_isLine g (xL X) K len I2 J R hs2 a0 ka0 x1 x2 x3 D E (fun hm9 z9 => by rw [hz] at z9; cases z9)) mT_7_4 mT_1_10 mT_7_1 mT_7_3 mP_90 okX10_isLine ⟨by decide, by decide⟩ rfl (by show kO (K a0) = _; rw [ka0]; rfl) rfl rfl (Nat.le_of_ble_eq_true rfl) ⟨by decide, by decide⟩ dX10_span_9 (aI0 (F := fun st M => P g X 11 12 [(0, .ref a0), (1, .int x1), (2, .int x2), (3, .int x3), (4, .int x4), (5, .int x5)] st _ _ M) (M := (K, len, I2, J, R)) fun x3_ h3 => ?_)
    have k3_0 := h3
    clear h3
    show P g X 11 12 [(0, .ref a0), (1, .int x1), (2, .int x2), (3, .int x3), (4, .int x4), (5, .int x5)] [.int x3_] _ _ (K, len, I2, J, R)
    have kq3 : x3_.toInt = 0 := by rcases k3_0 with ⟨z, y⟩ | ⟨hm9, z, y⟩; exact y; rw [hz] at z; cases z
    clear k3_0
    refine r_if_ne hC (tgt := 21) dX10_span_12 (by decide) (fun c4 => ?_) (fun c4 => ?_)
    · exfalso; omega
    refine r_aload_n hC dX10_span_15 0 rfl ?_
    refine r_iconst hC (v := (1)) dX10_span_16 (by decide) (by decide) (fun x5_ e5 t5 => ?_)
    refine r_callV hC (As := [.int x5_]) (rest := []) (ci := 10) (c_X10_refused g (xL X) K len I2 J R hs2 a0 ka0 x5_) mT_5_85 mT_1_10 mT_5_82 mT_5_84 mP_48 okX10_refused ⟨by decide, by decide⟩ rfl (by show kO (K a0) = _; rw [ka0]; rfl) rfl rfl (Nat.le_of_ble_eq_true rfl) ⟨by decide, by decide⟩ dX10_span_17 (aI1 (F := fun st M => P g X 11 20 [(0, .ref a0), (1, .int x1), (2, .int x2), (3, .int x3), (4, .int x4), (5, .int x5)] st _ _ M) (M := (K, len, I2, J, R)) fun x6_ I6 h6 => ?_)
    obtain ⟨hs6, hf6, k6_0, k6_1, k6_2⟩ := h6
    show P g X 11 20 [(0, .ref a0), (1, .int x1), (2, .int x2), (3, .int x3), (4, .int x4), (5, .int x5)] [.int x6_] _ _ (K, len, I6, J, R)
    have hF6 : Fr K [(11, 0), (11, 1), (11, 2), (11, 19), (85, 999), (86, 999), (87, 999), (88, 999)] I I6 := hF2.trans hf6 rfl rfl
    exact r_iret hC hQ hlk hr rfl (by decide) (by decide) dX10_span_20 ⟨_, _, rfl, rfl, ⟨hs6, hF6, (by first | exact Or.inl ⟨hz, by omega⟩ | exact Or.inr ⟨hm, hbm, Or.inr ⟨by omega, by omega⟩⟩ | exact Or.inr ⟨hm, hbm, Or.inl ⟨by omega, (congrArg Int32.toInt k6_0).trans NOlq⟩⟩), (by omega)⟩⟩
  · obtain ⟨S0, eS0⟩ : ∃ z : Int32, z = I hm 7 := ⟨_, rfl⟩
    have fS0 : S0.toInt = (I hm 7).toInt := by rw [eS0]
    have rS0 := hs.rng khm rfl eS0
    have mc := hmx hm hbm
    obtain ⟨⟨hJ, hR6, hD7⟩, rwm, ⟨hd1, hd2, hd3, hd4, hd5, hd7, hd8, hd9⟩, -⟩ := id mc
    have hcx := CM_x hs khm
    have b5 := hs.rng khm (k := 3) rfl (x := I hm 3) rfl
    have b7 := hs.rng khm (k := 7) rfl (x := I hm 7) rfl
    have b8 := hs.rng khm (k := 8) rfl (x := I hm 8) rfl
    have b20 := hs.rng ka0 (k := 20) rfl (x := I a0 20) rfl
    refine r_aload_n hC dX10_span_0 0 rfl ?_
    refine r_iconst hC (v := (0)) dX10_span_1 (by decide) (by decide) (fun x7_ e7 t7 => ?_)
    refine r_puti hC 0 (ci := 10) rfl u10_in tyX10_ok nmX10 (by decide) mT_4_235 rfl rfl rfl dX10_span_2 ka0 rfl rfl (fun I8 eI8 => ?_)
    have hs8 := hs.put0 eI8 ka0 rfl rfl rfl (by decide)
    have hF8 := hF.put eI8 ka0 rfl
    refine r_aload_n hC dX10_span_5 0 rfl ?_
    refine r_iload_n hC dX10_span_6 1 rfl ?_
    refine r_iload_n hC dX10_span_7 2 rfl ?_
    refine r_iload_n hC dX10_span_8 3 rfl ?_
    refine r_callV hC (As := [.int x1, .int x2, .int x3]) (rest := []) (ci := 10) (f_X10_isLine g (xL X) K len I8 J R hs8 a0 ka0 x1 x2 x3 D E (fun hm9 z9 => by rw [hbm] at z9; cases z9; exact (mc.mv hs ka0 khm hF8 rfl))) mT_7_4 mT_1_10 mT_7_1 mT_7_3 mP_90 okX10_isLine ⟨by decide, by decide⟩ rfl (by show kO (K a0) = _; rw [ka0]; rfl) rfl rfl (Nat.le_of_ble_eq_true rfl) ⟨by decide, by decide⟩ dX10_span_9 (aI0 (F := fun st M => P g X 11 12 [(0, .ref a0), (1, .int x1), (2, .int x2), (3, .int x3), (4, .int x4), (5, .int x5)] st _ _ M) (M := (K, len, I8, J, R)) fun x9_ h9 => ?_)
    have k9_0 := h9
    clear h9
    show P g X 11 12 [(0, .ref a0), (1, .int x1), (2, .int x2), (3, .int x3), (4, .int x4), (5, .int x5)] [.int x9_] _ _ (K, len, I8, J, R)
    have kq9 : x9_.toInt = 1 ∧ ((0 ≤ x1.toInt ∧ x1.toInt < D 0 7) ∧ (0 ≤ x2.toInt ∧ x2.toInt < D 0 5) ∧ 0 ≤ x3.toInt ∧ x3.toInt ≤ 58) ∨ x9_.toInt = 0 ∧ ¬ ((0 ≤ x1.toInt ∧ x1.toInt < D 0 7) ∧ (0 ≤ x2.toInt ∧ x2.toInt < D 0 5) ∧ 0 ≤ x3.toInt ∧ x3.toInt ≤ 58) := by rcases k9_0 with ⟨z, -⟩ | ⟨hm9, z, y⟩ <;> rw [hbm] at z <;> cases z; exact y
    clear k9_0
    refine r_if_ne hC (tgt := 21) dX10_span_12 (by decide) (fun c10 => ?_) (fun c10 => ?_)
    · refine r_iload hC dX10_span_21 4 rfl ?_
      refine r_iconst hC (v := (0)) dX10_span_23 (by decide) (by decide) (fun x11_ e11 t11 => ?_)
      refine r_bipush hC (v := (20)) dX10_span_24 (by decide) (by decide) (fun x12_ e12 t12 => ?_)
      refine r_callS hC (As := [.int x4, .int x11_, .int x12_]) (rest := []) (f_X10_in g (xL X) K len I8 J R hs8 x4 x11_ x12_) mT_6_8 mT_1_10 mT_6_6 mT_6_7 okX10_in ⟨by decide, by decide⟩ rfl rfl (Nat.le_of_ble_eq_true rfl) ⟨by decide, by decide⟩ dX10_span_26 (aI0 (F := fun st M => P g X 11 29 [(0, .ref a0), (1, .int x1), (2, .int x2), (3, .int x3), (4, .int x4), (5, .int x5)] st _ _ M) (M := (K, len, I8, J, R)) fun x13_ h13 => ?_)
      have k13_0 := h13
      clear h13
      show P g X 11 29 [(0, .ref a0), (1, .int x1), (2, .int x2), (3, .int x3), (4, .int x4), (5, .int x5)] [.int x13_] _ _ (K, len, I8, J, R)
      rcases k13_0 with ⟨hr13, hw13⟩ | ⟨hr13, hw13⟩
      · refine r_if_ne hC (tgt := 38) dX10_span_29 (by decide) (fun c14 => ?_) (fun c14 => ?_)
        rotate_left
        · exfalso; omega
        refine r_aload_n hC dX10_span_38 0 rfl ?_
        refine r_iload_n hC dX10_span_39 1 rfl ?_
        have hv15 : I8 hm 7 = S0 := (Eq.trans (up2_kk eI8 ka0 khm (by decide)) eS0.symm)
        refine r_callV hC (As := [.int x1]) (rest := []) (ci := 10) (f_X10_runsAsTold g (xL X) K len I8 J R hs8 a0 ka0 x1 hm hbm khm (by rw [hv15]; omega) lr hlr klr llr sr hsr ksr lsr ir hir kir lir wr hwr kwr lwr D E (mc.mv hs ka0 khm hF8 rfl) (by omega) (by omega)) mT_6_127 mT_1_10 mT_6_124 mT_6_126 mP_73 okX10_runsAsTold ⟨by decide, by decide⟩ rfl (by show kO (K a0) = _; rw [ka0]; rfl) rfl rfl (Nat.le_of_ble_eq_true rfl) ⟨by decide, by decide⟩ dX10_span_40 (aV1 (F := fun st M => P g X 11 43 [(0, .ref a0), (1, .int x1), (2, .int x2), (3, .int x3), (4, .int x4), (5, .int x5)] st _ _ M) (M := (K, len, I8, J, R)) fun I16 h16 => ?_)
        obtain ⟨hs16, hf16, k16_0⟩ := h16
        show P g X 11 43 [(0, .ref a0), (1, .int x1), (2, .int x2), (3, .int x3), (4, .int x4), (5, .int x5)] [] _ _ (K, len, I16, J, R)
        have hF16 : Fr K [(11, 0), (11, 1), (11, 2), (11, 19), (85, 999), (86, 999), (87, 999), (88, 999)] I I16 := hF8.trans hf16 rfl rfl
        refine r_bipush hC (v := (60)) dX10_span_43 (by decide) (by decide) (fun x17_ e17 t17 => ?_)
        refine r_iload_n hC dX10_span_45 2 rfl ?_
        refine r_imul hC dX10_span_46 (fun x18_ e18 => ?_)
        try have t18 : x18_.toInt = (60) * x2.toInt := by rw [e18]; exact ti_mul (by omega) rfl (by omega) (by omega)
        refine r_iload_n hC dX10_span_47 3 rfl ?_
        refine r_iadd hC dX10_span_48 (fun x19_ e19 => ?_)
        try have t19 : x19_.toInt = x18_.toInt + x3.toInt := by rw [e19]; exact ti_add (by omega) (by omega)
        refine r_istore hC (lv' := [(6, .int x19_), (0, .ref a0), (1, .int x1), (2, .int x2), (3, .int x3), (4, .int x4), (5, .int x5)]) dX10_span_49 (by decide) rfl ?_
        refine r_bipush hC (v := (-2)) dX10_span_51 (by decide) (by decide) (fun x20_ e20 t20 => ?_)
        refine r_istore hC (lv' := [(7, .int x20_), (6, .int x19_), (0, .ref a0), (1, .int x1), (2, .int x2), (3, .int x3), (4, .int x4), (5, .int x5)]) dX10_span_53 (by decide) rfl ?_
        refine r_iconst hC (v := (-1)) dX10_span_55 (by decide) (by decide) (fun x21_ e21 t21 => ?_)
        refine r_istore hC (lv' := [(8, .int x21_), (7, .int x20_), (6, .int x19_), (0, .ref a0), (1, .int x1), (2, .int x2), (3, .int x3), (4, .int x4), (5, .int x5)]) dX10_span_56 (by decide) rfl ?_
        have LP22 : ∀ (mu : Nat) (x22_8 : Int32) (x22_7 : Int32) (v22_0 : -1 ≤ x22_8.toInt) (v22_1 : x22_8.toInt ≤ 2) (v22_2 : x22_7.toInt = So x3.toInt (SV D x1.toInt.toNat (Ad D x1.toInt.toNat (LP1 D) 1) x3.toInt.toNat x2.toInt.toNat) (SV D x1.toInt.toNat (Ad D x1.toInt.toNat (LP1 D) 1) (x3.toInt.toNat + 1) x2.toInt.toNat) x4.toInt x5.toInt (x22_8.toInt + 1).toNat) (v22_3 : -2 ≤ x22_7.toInt ∧ x22_7.toInt ≤ 32000), (2 - x22_8.toInt).toNat = mu → P g X 11 58 [(0, .ref a0), (1, .int x1), (2, .int x2), (3, .int x3), (4, .int x4), (5, .int x5), (6, .int x19_), (7, .int x22_7), (8, .int x22_8)] [] 0 0 (K, len, I16, J, R) := by
          intro mu; induction mu using Nat.strongRecOn with | ind mu ih => ?_
          intro x22_8 x22_7 v22_0 v22_1 v22_2 v22_3 hmu
          have ih22 := ih
          clear ih
          have hmu22 := hmu
          clear hmu
          refine r_iload hC dX10_span_58 8 rfl ?_
          refine r_iconst hC (v := (1)) dX10_span_60 (by decide) (by decide) (fun x23_ e23 t23 => ?_)
          refine r_icmp_gt hC (tgt := 162) dX10_span_61 (by decide) (fun c24 => ?_) (fun c24 => ?_)
          · refine r_aload_n hC dX10_span_162 0 rfl ?_
            refine r_iload hC dX10_span_163 7 rfl ?_
            have lqs : x22_7.toInt = So x3.toInt (SV D x1.toInt.toNat (Ad D x1.toInt.toNat (LP1 D) 1) x3.toInt.toNat x2.toInt.toNat) (SV D x1.toInt.toNat (Ad D x1.toInt.toNat (LP1 D) 1) (x3.toInt.toNat + 1) x2.toInt.toNat) x4.toInt x5.toInt 3 := by have h9 := v22_2; rw [show (x22_8.toInt + 1).toNat = 3 by omega] at h9; exact h9
            refine r_callV hC (As := [.int x22_7]) (rest := []) (ci := 10) (c_X10_done g (xL X) K len I16 J R hs16 a0 ka0 x22_7) mT_6_79 mT_1_10 mT_6_76 mT_6_78 mP_67 okX10_done ⟨by decide, by decide⟩ rfl (by show kO (K a0) = _; rw [ka0]; rfl) rfl rfl (Nat.le_of_ble_eq_true rfl) ⟨by decide, by decide⟩ dX10_span_165 (aI1 (F := fun st M => P g X 11 168 [(0, .ref a0), (1, .int x1), (2, .int x2), (3, .int x3), (4, .int x4), (5, .int x5), (6, .int x19_), (7, .int x22_7), (8, .int x22_8)] st _ _ M) (M := (K, len, I16, J, R)) fun x25_ I25 h25 => ?_)
            obtain ⟨hs25, hf25, k25_0, k25_1, k25_2⟩ := h25
            show P g X 11 168 [(0, .ref a0), (1, .int x1), (2, .int x2), (3, .int x3), (4, .int x4), (5, .int x5), (6, .int x19_), (7, .int x22_7), (8, .int x22_8)] [.int x25_] _ _ (K, len, I25, J, R)
            have hF25 : Fr K [(11, 0), (11, 1), (11, 2), (11, 19), (85, 999), (86, 999), (87, 999), (88, 999)] I I25 := hF16.trans hf25 rfl rfl
            have mo25 := k16_0.mv ka0 klr ksr kir kwr hf25 rfl
            exact r_iret hC hQ hlk hr rfl (by decide) (by decide) dX10_span_168 ⟨_, _, rfl, rfl, ⟨hs25, hF25, (by first | exact Or.inl ⟨hz, by omega⟩ | exact Or.inr ⟨hm, hbm, Or.inr ⟨by omega, by omega⟩⟩ | exact Or.inr ⟨hm, hbm, Or.inl ⟨by omega, (congrArg Int32.toInt k25_0).trans lqs⟩⟩), (by omega)⟩⟩
          · refine r_iconst hC (v := (-1)) dX10_span_64 (by decide) (by decide) (fun x26_ e26 t26 => ?_)
            refine r_istore hC (lv' := [(9, .int x26_), (0, .ref a0), (1, .int x1), (2, .int x2), (3, .int x3), (4, .int x4), (5, .int x5), (6, .int x19_), (7, .int x22_7), (8, .int x22_8)]) dX10_span_65 (by decide) rfl ?_
            have LP27 : ∀ (mu : Nat) (x27_9 : Int32) (x27_7 : Int32) (v27_0 : -1 ≤ x27_9.toInt) (v27_1 : x27_9.toInt ≤ 2) (v27_2 : x27_7.toInt = Sr x3.toInt (SV D x1.toInt.toNat (Ad D x1.toInt.toNat (LP1 D) 1) x3.toInt.toNat x2.toInt.toNat) (SV D x1.toInt.toNat (Ad D x1.toInt.toNat (LP1 D) 1) (x3.toInt.toNat + 1) x2.toInt.toNat) x4.toInt x5.toInt x22_8.toInt (So x3.toInt (SV D x1.toInt.toNat (Ad D x1.toInt.toNat (LP1 D) 1) x3.toInt.toNat x2.toInt.toNat) (SV D x1.toInt.toNat (Ad D x1.toInt.toNat (LP1 D) 1) (x3.toInt.toNat + 1) x2.toInt.toNat) x4.toInt x5.toInt (x22_8.toInt + 1).toNat) (x27_9.toInt + 1).toNat) (v27_3 : -2 ≤ x27_7.toInt ∧ x27_7.toInt ≤ 32000), (2 - x27_9.toInt).toNat = mu → P g X 11 67 [(0, .ref a0), (1, .int x1), (2, .int x2), (3, .int x3), (4, .int x4), (5, .int x5), (6, .int x19_), (7, .int x27_7), (8, .int x22_8), (9, .int x27_9)] [] 0 0 (K, len, I16, J, R) := by
              intro mu; induction mu using Nat.strongRecOn with | ind mu ih => ?_
              intro x27_9 x27_7 v27_0 v27_1 v27_2 v27_3 hmu
              have ih27 := ih
              clear ih
              have hmu27 := hmu
              clear hmu
              refine r_iload hC dX10_span_67 9 rfl ?_
              refine r_iconst hC (v := (1)) dX10_span_69 (by decide) (by decide) (fun x28_ e28 t28 => ?_)
              refine r_icmp_gt hC (tgt := 156) dX10_span_70 (by decide) (fun c29 => ?_) (fun c29 => ?_)
              · obtain ⟨x30_, e30⟩ : ∃ z : Int32, z = x22_8 + Int32.ofInt (1) := ⟨_, rfl⟩
                refine r_iinc hC (j := 8) (v := x30_) (lv' := [(8, .int x30_), (0, .ref a0), (1, .int x1), (2, .int x2), (3, .int x3), (4, .int x4), (5, .int x5), (6, .int x19_), (7, .int x27_7), (9, .int x27_9)]) dX10_span_156 rfl (by rw [e30]) (by decide) rfl ?_
                try have t30 : x30_.toInt = x22_8.toInt + (1) := by rw [e30]; exact (ti_add (b := Int32.ofInt (1)) (by show _ ≤ _ + (1 : Int); omega) (by show _ + (1 : Int) ≤ _; omega))
                refine r_goto hC (tgt := 58) dX10_span_159 (by decide) ?_
                refine r_sub [1, 2, 3, 4, 5, 6, 7, 8, 0] rfl ?_
                exact ih22 ((2 - x30_.toInt).toNat) (by omega) x30_ x27_7 (by omega) (by omega) (by first | (rw [show (x30_.toInt + 1).toNat = 0 by omega]; show _ = (-2 : Int); omega) | (rw [show (x30_.toInt + 1).toNat = (x22_8.toInt + 1).toNat + 1 by omega, So_s (i := x22_8.toInt) (by omega)]; have h9 := v27_2; rw [show (x27_9.toInt + 1).toNat = 3 by omega] at h9; exact h9)) (by omega) rfl
              · refine r_iload_n hC dX10_span_73 3 rfl ?_
                refine r_aload_n hC dX10_span_74 0 rfl ?_
                refine r_getr hC 16 (ci := 10) rfl u10_in (by decide) mT_5_11 dX10_span_75 ka0 rfl rfl hsr ?_
                refine r_iload hC dX10_span_78 6 rfl ?_
                refine x_iaload hC ksr lsr (by decide) rfl rfl dX10_span_80 (by omega) (by omega) (fun x31_ e31 => ?_)
                have q31 : x31_.toInt = SV D x1.toInt.toNat (Ad D x1.toInt.toNat (LP1 D) 1) x3.toInt.toNat x2.toInt.toNat := by rw [e31, clx (i := x19_) rfl (by omega), show x19_.toInt.toNat = 60 * x2.toInt.toNat + x3.toInt.toNat by omega]; exact k16_0.spd (by omega) (by omega)
                have jb31 := mc.svb (s := x1.toInt.toNat) (show ((x1.toInt.toNat : Nat) : Int) < D 0 7 by omega) (w2 := 1) x3.toInt.toNat x2.toInt.toNat
                refine r_iload hC dX10_span_81 8 rfl ?_
                refine r_iload hC dX10_span_83 4 rfl ?_
                refine r_imul hC dX10_span_85 (fun x32_ e32 => ?_)
                obtain ⟨spi1, spi1l, spi1h⟩ := tmul3 e32 (by omega) (by omega)
                refine r_iadd hC dX10_span_86 (fun x33_ e33 => ?_)
                try have t33 : x33_.toInt = x31_.toInt + x32_.toInt := by rw [e33]; exact ti_add (by omega) (by omega)
                refine r_aload_n hC dX10_span_87 0 rfl ?_
                refine r_getr hC 16 (ci := 10) rfl u10_in (by decide) mT_5_11 dX10_span_88 ka0 rfl rfl hsr ?_
                refine r_iload hC dX10_span_91 6 rfl ?_
                refine r_iconst hC (v := (1)) dX10_span_93 (by decide) (by decide) (fun x34_ e34 t34 => ?_)
                refine r_iadd hC dX10_span_94 (fun x35_ e35 => ?_)
                try have t35 : x35_.toInt = x19_.toInt + x34_.toInt := by rw [e35]; exact ti_add (by omega) (by omega)
                refine x_iaload hC ksr lsr (by decide) rfl rfl dX10_span_95 (by omega) (by omega) (fun x36_ e36 => ?_)
                have q36 : x36_.toInt = SV D x1.toInt.toNat (Ad D x1.toInt.toNat (LP1 D) 1) (x3.toInt.toNat + 1) x2.toInt.toNat := by rw [e36, clx (i := x35_) rfl (by omega), show x35_.toInt.toNat = 60 * x2.toInt.toNat + (x3.toInt.toNat + 1) by omega]; exact k16_0.spd (by omega) (by omega)
                have jb36 := mc.svb (s := x1.toInt.toNat) (show ((x1.toInt.toNat : Nat) : Int) < D 0 7 by omega) (w2 := 1) (x3.toInt.toNat + 1) x2.toInt.toNat
                refine r_iload hC dX10_span_96 9 rfl ?_
                refine r_iload hC dX10_span_98 4 rfl ?_
                refine r_imul hC dX10_span_100 (fun x37_ e37 => ?_)
                obtain ⟨spi2, spi2l, spi2h⟩ := tmul3 e37 (by omega) (by omega)
                refine r_iadd hC dX10_span_101 (fun x38_ e38 => ?_)
                try have t38 : x38_.toInt = x36_.toInt + x37_.toInt := by rw [e38]; exact ti_add (by omega) (by omega)
                refine r_callS hC (As := [.int x3, .int x33_, .int x38_]) (rest := []) (f_X10_noughtBy g (xL X) K len I16 J R hs16 x3 x33_ x38_ (by omega) (by omega) (by omega)) mT_7_7 mT_1_10 mT_7_5 mT_7_6 okX10_noughtBy ⟨by decide, by decide⟩ rfl rfl (Nat.le_of_ble_eq_true rfl) ⟨by decide, by decide⟩ dX10_span_102 (aI0 (F := fun st M => P g X 11 105 [(0, .ref a0), (1, .int x1), (2, .int x2), (3, .int x3), (4, .int x4), (5, .int x5), (6, .int x19_), (7, .int x27_7), (8, .int x22_8), (9, .int x27_9)] st _ _ M) (M := (K, len, I16, J, R)) fun x39_ h39 => ?_)
                obtain ⟨k39_0, k39_1⟩ := h39
                show P g X 11 105 [(0, .ref a0), (1, .int x1), (2, .int x2), (3, .int x3), (4, .int x4), (5, .int x5), (6, .int x19_), (7, .int x27_7), (8, .int x22_8), (9, .int x27_9)] [.int x39_] _ _ (K, len, I16, J, R)
                have nv : x39_.toInt = Ng x3.toInt ((SV D x1.toInt.toNat (Ad D x1.toInt.toNat (LP1 D) 1) x3.toInt.toNat x2.toInt.toNat) + x22_8.toInt * x4.toInt) ((SV D x1.toInt.toNat (Ad D x1.toInt.toNat (LP1 D) 1) (x3.toInt.toNat + 1) x2.toInt.toNat) + x27_9.toInt * x4.toInt) := by rw [k39_0, show x33_.toInt = (SV D x1.toInt.toNat (Ad D x1.toInt.toNat (LP1 D) 1) x3.toInt.toNat x2.toInt.toNat) + x22_8.toInt * x4.toInt by omega, show x38_.toInt = (SV D x1.toInt.toNat (Ad D x1.toInt.toNat (LP1 D) 1) (x3.toInt.toNat + 1) x2.toInt.toNat) + x27_9.toInt * x4.toInt by omega]
                refine r_istore hC (lv' := [(10, .int x39_), (0, .ref a0), (1, .int x1), (2, .int x2), (3, .int x3), (4, .int x4), (5, .int x5), (6, .int x19_), (7, .int x27_7), (8, .int x22_8), (9, .int x27_9)]) dX10_span_105 (by decide) rfl ?_
                refine r_iload hC dX10_span_107 0 rfl ?_
                refine r_bipush hC (v := (-2)) dX10_span_109 (by decide) (by decide) (fun x40_ e40 t40 => ?_)
                refine r_icmp_ne hC (tgt := 117) dX10_span_111 (by decide) (fun c41 => ?_) (fun c41 => ?_)
                · refine r_iload hC dX10_span_117 8 rfl ?_
                  refine r_bipush hC (v := (-2)) dX10_span_119 (by decide) (by decide) (fun x42_ e42 t42 => ?_)
                  refine r_icmp_eq hC (tgt := 146) dX10_span_121 (by decide) (fun c43 => ?_) (fun c43 => ?_)
                  · refine r_iload hC dX10_span_146 0 rfl ?_
                    refine r_istore hC (lv' := [(7, .int x39_), (10, .int x39_), (0, .ref a0), (1, .int x1), (2, .int x2), (3, .int x3), (4, .int x4), (5, .int x5), (6, .int x19_), (8, .int x22_8), (9, .int x27_9)]) dX10_span_148 (by decide) rfl ?_
                    obtain ⟨x44_, e44⟩ : ∃ z : Int32, z = x27_9 + Int32.ofInt (1) := ⟨_, rfl⟩
                    refine r_iinc hC (j := 10) (v := x44_) (lv' := [(9, .int x44_), (7, .int x39_), (10, .int x39_), (0, .ref a0), (1, .int x1), (2, .int x2), (3, .int x3), (4, .int x4), (5, .int x5), (6, .int x19_), (8, .int x22_8)]) dX10_span_150 rfl (by rw [e44]) (by decide) rfl ?_
                    try have t44 : x44_.toInt = x27_9.toInt + (1) := by rw [e44]; exact (ti_add (b := Int32.ofInt (1)) (by show _ ≤ _ + (1 : Int); omega) (by show _ + (1 : Int) ≤ _; omega))
                    refine r_goto hC (tgt := 67) dX10_span_153 (by decide) ?_
                    refine r_sub [3, 4, 5, 6, 7, 8, 9, 1, 10, 0] rfl ?_
                    exact ih27 ((2 - x44_.toInt).toNat) (by omega) x44_ x39_ (by omega) (by omega) (by first | (rw [show (x44_.toInt + 1).toNat = 0 by omega]; exact v22_2) | (rw [show (x44_.toInt + 1).toNat = (x27_9.toInt + 1).toNat + 1 by omega, Sr_s (j := x27_9.toInt) (by omega) nv v27_2]; first | (rw [Sb_t (by omega)]) | (rw [Sb_n (by omega)]))) (by omega) rfl
                  · refine r_iload hC dX10_span_124 6 rfl ?_
                    refine r_if_eq hC (tgt := 139) dX10_span_126 (by decide) (fun c45 => ?_) (fun c45 => ?_)
                    · refine r_iload hC dX10_span_139 0 rfl ?_
                      refine r_iload hC dX10_span_141 8 rfl ?_
                      refine r_icmp_ge hC (tgt := 150) dX10_span_143 (by decide) (fun c46 => ?_) (fun c46 => ?_)
                      · obtain ⟨x47_, e47⟩ : ∃ z : Int32, z = x27_9 + Int32.ofInt (1) := ⟨_, rfl⟩
                        refine r_iinc hC (j := 10) (v := x47_) (lv' := [(9, .int x47_), (10, .int x39_), (0, .ref a0), (1, .int x1), (2, .int x2), (3, .int x3), (4, .int x4), (5, .int x5), (6, .int x19_), (7, .int x27_7), (8, .int x22_8)]) dX10_span_150 rfl (by rw [e47]) (by decide) rfl ?_
                        try have t47 : x47_.toInt = x27_9.toInt + (1) := by rw [e47]; exact (ti_add (b := Int32.ofInt (1)) (by show _ ≤ _ + (1 : Int); omega) (by show _ + (1 : Int) ≤ _; omega))
                        refine r_goto hC (tgt := 67) dX10_span_153 (by decide) ?_
                        refine r_sub [2, 3, 4, 5, 6, 7, 8, 9, 10, 0] rfl ?_
                        exact ih27 ((2 - x47_.toInt).toNat) (by omega) x47_ x27_7 (by omega) (by omega) (by first | (rw [show (x47_.toInt + 1).toNat = 0 by omega]; exact v22_2) | (rw [show (x47_.toInt + 1).toNat = (x27_9.toInt + 1).toNat + 1 by omega, Sr_s (j := x27_9.toInt) (by omega) nv v27_2]; first | (rw [Sb_t (by omega)]) | (rw [Sb_n (by omega)]))) (by omega) rfl
                      · refine r_iload hC dX10_span_146 0 rfl ?_
                        refine r_istore hC (lv' := [(7, .int x39_), (10, .int x39_), (0, .ref a0), (1, .int x1), (2, .int x2), (3, .int x3), (4, .int x4), (5, .int x5), (6, .int x19_), (8, .int x22_8), (9, .int x27_9)]) dX10_span_148 (by decide) rfl ?_
                        obtain ⟨x48_, e48⟩ : ∃ z : Int32, z = x27_9 + Int32.ofInt (1) := ⟨_, rfl⟩
                        refine r_iinc hC (j := 10) (v := x48_) (lv' := [(9, .int x48_), (7, .int x39_), (10, .int x39_), (0, .ref a0), (1, .int x1), (2, .int x2), (3, .int x3), (4, .int x4), (5, .int x5), (6, .int x19_), (8, .int x22_8)]) dX10_span_150 rfl (by rw [e48]) (by decide) rfl ?_
                        try have t48 : x48_.toInt = x27_9.toInt + (1) := by rw [e48]; exact (ti_add (b := Int32.ofInt (1)) (by show _ ≤ _ + (1 : Int); omega) (by show _ + (1 : Int) ≤ _; omega))
                        refine r_goto hC (tgt := 67) dX10_span_153 (by decide) ?_
                        refine r_sub [3, 4, 5, 6, 7, 8, 9, 1, 10, 0] rfl ?_
                        exact ih27 ((2 - x48_.toInt).toNat) (by omega) x48_ x39_ (by omega) (by omega) (by first | (rw [show (x48_.toInt + 1).toNat = 0 by omega]; exact v22_2) | (rw [show (x48_.toInt + 1).toNat = (x27_9.toInt + 1).toNat + 1 by omega, Sr_s (j := x27_9.toInt) (by omega) nv v27_2]; first | (rw [Sb_t (by omega)]) | (rw [Sb_n (by omega)]))) (by omega) rfl
                    · refine r_iload hC dX10_span_129 0 rfl ?_
                      refine r_iload hC dX10_span_131 8 rfl ?_
                      refine r_icmp_le hC (tgt := 150) dX10_span_133 (by decide) (fun c49 => ?_) (fun c49 => ?_)
                      · obtain ⟨x50_, e50⟩ : ∃ z : Int32, z = x27_9 + Int32.ofInt (1) := ⟨_, rfl⟩
                        refine r_iinc hC (j := 10) (v := x50_) (lv' := [(9, .int x50_), (10, .int x39_), (0, .ref a0), (1, .int x1), (2, .int x2), (3, .int x3), (4, .int x4), (5, .int x5), (6, .int x19_), (7, .int x27_7), (8, .int x22_8)]) dX10_span_150 rfl (by rw [e50]) (by decide) rfl ?_
                        try have t50 : x50_.toInt = x27_9.toInt + (1) := by rw [e50]; exact (ti_add (b := Int32.ofInt (1)) (by show _ ≤ _ + (1 : Int); omega) (by show _ + (1 : Int) ≤ _; omega))
                        refine r_goto hC (tgt := 67) dX10_span_153 (by decide) ?_
                        refine r_sub [2, 3, 4, 5, 6, 7, 8, 9, 10, 0] rfl ?_
                        exact ih27 ((2 - x50_.toInt).toNat) (by omega) x50_ x27_7 (by omega) (by omega) (by first | (rw [show (x50_.toInt + 1).toNat = 0 by omega]; exact v22_2) | (rw [show (x50_.toInt + 1).toNat = (x27_9.toInt + 1).toNat + 1 by omega, Sr_s (j := x27_9.toInt) (by omega) nv v27_2]; first | (rw [Sb_t (by omega)]) | (rw [Sb_n (by omega)]))) (by omega) rfl
                      · refine r_goto hC (tgt := 146) dX10_span_136 (by decide) ?_
                        refine r_iload hC dX10_span_146 0 rfl ?_
                        refine r_istore hC (lv' := [(7, .int x39_), (10, .int x39_), (0, .ref a0), (1, .int x1), (2, .int x2), (3, .int x3), (4, .int x4), (5, .int x5), (6, .int x19_), (8, .int x22_8), (9, .int x27_9)]) dX10_span_148 (by decide) rfl ?_
                        obtain ⟨x51_, e51⟩ : ∃ z : Int32, z = x27_9 + Int32.ofInt (1) := ⟨_, rfl⟩
                        refine r_iinc hC (j := 10) (v := x51_) (lv' := [(9, .int x51_), (7, .int x39_), (10, .int x39_), (0, .ref a0), (1, .int x1), (2, .int x2), (3, .int x3), (4, .int x4), (5, .int x5), (6, .int x19_), (8, .int x22_8)]) dX10_span_150 rfl (by rw [e51]) (by decide) rfl ?_
                        try have t51 : x51_.toInt = x27_9.toInt + (1) := by rw [e51]; exact (ti_add (b := Int32.ofInt (1)) (by show _ ≤ _ + (1 : Int); omega) (by show _ + (1 : Int) ≤ _; omega))
                        refine r_goto hC (tgt := 67) dX10_span_153 (by decide) ?_
                        refine r_sub [3, 4, 5, 6, 7, 8, 9, 1, 10, 0] rfl ?_
                        exact ih27 ((2 - x51_.toInt).toNat) (by omega) x51_ x39_ (by omega) (by omega) (by first | (rw [show (x51_.toInt + 1).toNat = 0 by omega]; exact v22_2) | (rw [show (x51_.toInt + 1).toNat = (x27_9.toInt + 1).toNat + 1 by omega, Sr_s (j := x27_9.toInt) (by omega) nv v27_2]; first | (rw [Sb_t (by omega)]) | (rw [Sb_n (by omega)]))) (by omega) rfl
                · refine r_goto hC (tgt := 150) dX10_span_114 (by decide) ?_
                  obtain ⟨x52_, e52⟩ : ∃ z : Int32, z = x27_9 + Int32.ofInt (1) := ⟨_, rfl⟩
                  refine r_iinc hC (j := 10) (v := x52_) (lv' := [(9, .int x52_), (10, .int x39_), (0, .ref a0), (1, .int x1), (2, .int x2), (3, .int x3), (4, .int x4), (5, .int x5), (6, .int x19_), (7, .int x27_7), (8, .int x22_8)]) dX10_span_150 rfl (by rw [e52]) (by decide) rfl ?_
                  try have t52 : x52_.toInt = x27_9.toInt + (1) := by rw [e52]; exact (ti_add (b := Int32.ofInt (1)) (by show _ ≤ _ + (1 : Int); omega) (by show _ + (1 : Int) ≤ _; omega))
                  refine r_goto hC (tgt := 67) dX10_span_153 (by decide) ?_
                  refine r_sub [2, 3, 4, 5, 6, 7, 8, 9, 10, 0] rfl ?_
                  exact ih27 ((2 - x52_.toInt).toNat) (by omega) x52_ x27_7 (by omega) (by omega) (by first | (rw [show (x52_.toInt + 1).toNat = 0 by omega]; exact v22_2) | (rw [show (x52_.toInt + 1).toNat = (x27_9.toInt + 1).toNat + 1 by omega, Sr_s (j := x27_9.toInt) (by omega) nv v27_2]; first | (rw [Sb_t (by omega)]) | (rw [Sb_n (by omega)]))) (by omega) rfl
            refine r_sub [1, 2, 3, 4, 5, 6, 7, 8, 9, 0] rfl ?_
            exact LP27 _ x26_ x22_7 (by omega) (by omega) (by first | (rw [show (x26_.toInt + 1).toNat = 0 by omega]; exact v22_2) | (rw [show (x26_.toInt + 1).toNat = (x27_9.toInt + 1).toNat + 1 by omega, Sr_s (j := x27_9.toInt) (by omega) nv v27_2]; first | (rw [Sb_t (by omega)]) | (rw [Sb_n (by omega)]))) (by omega) rfl
        refine r_sub [3, 4, 5, 6, 7, 8, 2, 1, 0] rfl ?_
        exact LP22 _ x21_ x20_ (by omega) (by omega) (by first | (rw [show (x21_.toInt + 1).toNat = 0 by omega]; show _ = (-2 : Int); omega) | (rw [show (x21_.toInt + 1).toNat = (x22_8.toInt + 1).toNat + 1 by omega, So_s (i := x22_8.toInt) (by omega)]; have h9 := NOx_vi2; rw [show (NOx_li.toInt + 1).toNat = 3 by omega] at h9; exact h9)) (by omega) rfl
      · refine r_if_ne hC (tgt := 38) dX10_span_29 (by decide) (fun c53 => ?_) (fun c53 => ?_)
        · exfalso; omega
        refine r_aload_n hC dX10_span_32 0 rfl ?_
        refine r_iconst hC (v := (2)) dX10_span_33 (by decide) (by decide) (fun x54_ e54 t54 => ?_)
        refine r_callV hC (As := [.int x54_]) (rest := []) (ci := 10) (c_X10_refused g (xL X) K len I8 J R hs8 a0 ka0 x54_) mT_5_85 mT_1_10 mT_5_82 mT_5_84 mP_48 okX10_refused ⟨by decide, by decide⟩ rfl (by show kO (K a0) = _; rw [ka0]; rfl) rfl rfl (Nat.le_of_ble_eq_true rfl) ⟨by decide, by decide⟩ dX10_span_34 (aI1 (F := fun st M => P g X 11 37 [(0, .ref a0), (1, .int x1), (2, .int x2), (3, .int x3), (4, .int x4), (5, .int x5)] st _ _ M) (M := (K, len, I8, J, R)) fun x55_ I55 h55 => ?_)
        obtain ⟨hs55, hf55, k55_0, k55_1, k55_2⟩ := h55
        show P g X 11 37 [(0, .ref a0), (1, .int x1), (2, .int x2), (3, .int x3), (4, .int x4), (5, .int x5)] [.int x55_] _ _ (K, len, I55, J, R)
        have hF55 : Fr K [(11, 0), (11, 1), (11, 2), (11, 19), (85, 999), (86, 999), (87, 999), (88, 999)] I I55 := hF8.trans hf55 rfl rfl
        exact r_iret hC hQ hlk hr rfl (by decide) (by decide) dX10_span_37 ⟨_, _, rfl, rfl, ⟨hs55, hF55, (by first | exact Or.inl ⟨hz, by omega⟩ | exact Or.inr ⟨hm, hbm, Or.inr ⟨by omega, by omega⟩⟩ | exact Or.inr ⟨hm, hbm, Or.inl ⟨by omega, (congrArg Int32.toInt k55_0).trans NOlq⟩⟩), (by omega)⟩⟩
    · refine r_aload_n hC dX10_span_15 0 rfl ?_
      refine r_iconst hC (v := (1)) dX10_span_16 (by decide) (by decide) (fun x56_ e56 t56 => ?_)
      refine r_callV hC (As := [.int x56_]) (rest := []) (ci := 10) (c_X10_refused g (xL X) K len I8 J R hs8 a0 ka0 x56_) mT_5_85 mT_1_10 mT_5_82 mT_5_84 mP_48 okX10_refused ⟨by decide, by decide⟩ rfl (by show kO (K a0) = _; rw [ka0]; rfl) rfl rfl (Nat.le_of_ble_eq_true rfl) ⟨by decide, by decide⟩ dX10_span_17 (aI1 (F := fun st M => P g X 11 20 [(0, .ref a0), (1, .int x1), (2, .int x2), (3, .int x3), (4, .int x4), (5, .int x5)] st _ _ M) (M := (K, len, I8, J, R)) fun x57_ I57 h57 => ?_)
      obtain ⟨hs57, hf57, k57_0, k57_1, k57_2⟩ := h57
      show P g X 11 20 [(0, .ref a0), (1, .int x1), (2, .int x2), (3, .int x3), (4, .int x4), (5, .int x5)] [.int x57_] _ _ (K, len, I57, J, R)
      have hF57 : Fr K [(11, 0), (11, 1), (11, 2), (11, 19), (85, 999), (86, 999), (87, 999), (88, 999)] I I57 := hF8.trans hf57 rfl rfl
      exact r_iret hC hQ hlk hr rfl (by decide) (by decide) dX10_span_20 ⟨_, _, rfl, rfl, ⟨hs57, hF57, (by first | exact Or.inl ⟨hz, by omega⟩ | exact Or.inr ⟨hm, hbm, Or.inr ⟨by omega, by omega⟩⟩ | exact Or.inr ⟨hm, hbm, Or.inl ⟨by omega, (congrArg Int32.toInt k57_0).trans NOlq⟩⟩), (by omega)⟩⟩

