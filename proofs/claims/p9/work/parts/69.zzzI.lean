section ANS1
variable {D : DD} {s n : Nat} {day a b off most i j best v : Int}
end ANS1
set_option maxHeartbeats 4000000 in
set_option maxRecDepth 100000 in
theorem a_X8_peg (g : GG) (l : Launch) (K len : Nat → Nat) (I : Nat → Nat → Int32) (J : Nat → Nat → Int64) (R : Nat → Nat → Option Nat) (hs : Sf K len I R) (a0 : Nat) (ka0 : K a0 = 9) (x1 : Int32) (x2 : Int32) (x3 : Int32) (x4 : Int32) (h : Nat) (hh : R a0 2 = some h) (kh : K h = 2) (lk : Nat) (hlk2 : R h 0 = some lk) (klk : K lk = 3) (rd : Nat) (hrd : R a0 9 = some rd) (krd : K rd = 4) (lv : Nat) (hlv : R a0 4 = some lv) (klv : K lv = 41) (llv : len lv = 60) (kn : Nat) (hkn : R a0 6 = some kn) (kkn : K kn = 43) (lkn : len kn = 6) (cr : Nat) (hcr : R a0 5 = some cr) (kcr1 : K cr = 44) (lcr : len cr = 6) (hu : UU K R) (D : DD) (E : Nat → Nat → Int) (hc : KC D E a0 h lk rd I R) : Ct g l yX8_peg cX8_peg 6 (Option.some Jvm.ClassFile.FieldType.int) rmX8_peg [.ref a0, .int x1, .int x2, .int x3, .int x4] (K, len, I, J, R) (pI1 (K, len, I, J, R) (fun r I' => Sf K len I' R ∧ Fr K [(1, 5), (1, 6), (9, 12), (43, 999), (50, 999), (51, 999), (52, 999), (53, 999), (54, 999)] I I' ∧ (KC D E a0 h lk rd I' R) ∧ ((((0 ≤ x1.toInt ∧ x1.toInt < D 0 7) ∧ (0 ≤ x2.toInt ∧ x2.toInt < D 0 5) ∧ 0 ≤ x3.toInt ∧ x3.toInt ≤ 59) ∧ 0 ≤ x4.toInt ∧ x4.toInt ≤ 2) ∧ r.toInt = (if x4.toInt = 0 then NV D x1.toInt.toNat (Ad D x1.toInt.toNat (LP1 D) 1) x3.toInt.toNat x2.toInt.toNat else if x4.toInt = 1 then SV D x1.toInt.toNat (Ad D x1.toInt.toNat (LP1 D) 1) x3.toInt.toNat x2.toInt.toNat else WV D x1.toInt.toNat (Ad D x1.toInt.toNat (LP1 D) 1) x3.toInt.toNat x2.toInt.toNat) ∨ ¬ (((0 ≤ x1.toInt ∧ x1.toInt < D 0 7) ∧ (0 ≤ x2.toInt ∧ x2.toInt < D 0 5) ∧ 0 ≤ x3.toInt ∧ x3.toInt ≤ 59) ∧ 0 ≤ x4.toInt ∧ x4.toInt ≤ 2) ∧ r.toInt = -1) ∧ ((I' a0 12).toInt ≠ 4))) := by
  refine Ct_intro (by decide +kernel) (Nat.le_of_ble_eq_true rfl) (fun X hC hL hKK hNm hr hlk hQ => ?_)
  subst hL
  have hC : Cx g X cX8_peg "HillTap" 6 rmX8_peg := hC
  show P g X 6 0 [(0, .ref a0), (1, .int x1), (2, .int x2), (3, .int x3), (4, .int x4)] [] 0 0 (K, len, I, J, R)
  have hF : Fr K [(1, 5), (1, 6), (9, 12), (43, 999), (50, 999), (51, 999), (52, 999), (53, 999), (54, 999)] I I := Fr.refl
  have ka : KA a0 h lk rd K len R := ⟨⟨_, hs⟩, hu, ka0, kh, klk, krd⟩
  obtain ⟨sd1, sd2, sd3, sd4, sd5, sd7, sd8, sd9⟩ := id hc.2.1
  have d7b := hs.rng kh (k := 6) rfl (x := I h 6) rfl
  have d5b := hs.rng kh (k := 1) rfl (x := I h 1) rfl
  have d8b := hs.rng kh (k := 8) rfl (x := I h 8) rfl
  have b_x1 := ti_rng x1
  have b_x2 := ti_rng x2
  have b_x3 := ti_rng x3
  have b_x4 := ti_rng x4
  refine r_aload_n hC dX8_peg_0 0 rfl ?_
  refine r_iload_n hC dX8_peg_1 1 rfl ?_
  refine r_iload_n hC dX8_peg_2 2 rfl ?_
  refine r_iload_n hC dX8_peg_3 3 rfl ?_
  refine r_callV hC (As := [.int x1, .int x2, .int x3]) (rest := []) (ci := 8) (f_X8_isPegDay g (xL X) K len I J R hs a0 ka0 x1 x2 x3 h hh kh) mT_3_151 mT_1_1 mT_3_148 mT_3_150 mP_23 okX8_isPegDay ⟨by decide, by decide⟩ rfl (by show kO (K a0) = _; rw [ka0]; rfl) rfl rfl (Nat.le_of_ble_eq_true rfl) ⟨by decide, by decide⟩ dX8_peg_4 (aI0 (F := fun st M => P g X 6 7 [(0, .ref a0), (1, .int x1), (2, .int x2), (3, .int x3), (4, .int x4)] st _ _ M) (M := (K, len, I, J, R)) fun x1_ h1 => ?_)
  have k1_0 := h1
  clear h1
  show P g X 6 7 [(0, .ref a0), (1, .int x1), (2, .int x2), (3, .int x3), (4, .int x4)] [.int x1_] _ _ (K, len, I, J, R)
  rcases k1_0 with ⟨hr1, hw1⟩ | ⟨hr1, hw1⟩
  · refine r_if_ne hC (tgt := 16) dX8_peg_7 (by decide) (fun c2 => ?_) (fun c2 => ?_)
    rotate_left
    · exfalso; omega
    refine r_aload_n hC dX8_peg_16 0 rfl ?_
    refine r_iload_n hC dX8_peg_17 1 rfl ?_
    refine r_callV hC (As := [.int x1]) (rest := []) (ci := 8) (f_X8_courseOf g (xL X) K len I J R hs a0 ka0 x1 h hh kh lk hlk2 klk rd hrd krd lv hlv klv llv kn hkn kkn lkn cr hcr kcr1 lcr hu D E hc (by omega) (by omega)) mT_3_163 mT_1_1 mT_3_160 mT_3_162 mP_26 okX8_courseOf ⟨by decide, by decide⟩ rfl (by show kO (K a0) = _; rw [ka0]; rfl) rfl rfl (Nat.le_of_ble_eq_true rfl) ⟨by decide, by decide⟩ dX8_peg_18 (aR1 (F := fun st M => P g X 6 21 [(0, .ref a0), (1, .int x1), (2, .int x2), (3, .int x3), (4, .int x4)] st _ _ M) (M := (K, len, I, J, R)) fun a3_ I3 h3 => ?_)
    obtain ⟨hs3, hf3, k3_0, k3_1, k3_2, k3_3, k3_4⟩ := h3
    show P g X 6 21 [(0, .ref a0), (1, .int x1), (2, .int x2), (3, .int x3), (4, .int x4)] [.ref a3_] _ _ (K, len, I3, J, R)
    have hF3 : Fr K [(1, 5), (1, 6), (9, 12), (43, 999), (50, 999), (51, 999), (52, 999), (53, 999), (54, 999)] I I3 := hF.trans hf3 rfl rfl
    refine r_astore hC (lv' := [(5, .ref a3_), (0, .ref a0), (1, .int x1), (2, .int x2), (3, .int x3), (4, .int x4)]) dX8_peg_21 (by decide) rfl ?_
    refine r_iload hC dX8_peg_23 5 rfl ?_
    by_cases o4 : x4.toInt < 0 ∨ 2 < x4.toInt
    · refine r_tabOut hC (tgt := 100) dX8_peg_25 o4 (by decide) ?_
      refine r_aload_n hC dX8_peg_100 1 rfl ?_
      refine r_iconst hC (v := (1)) dX8_peg_101 (by decide) (by decide) (fun x5_ e5 t5 => ?_)
      refine r_callV hC (As := [.int x5_]) (rest := []) (ci := 8) (c_X8_refuse g (xL X) K len I3 J R hs3 a0 ka0 x5_) mT_2_133 mT_1_1 mT_2_130 mT_2_132 mP_0 okX8_refuse ⟨by decide, by decide⟩ rfl (by show kO (K a0) = _; rw [ka0]; rfl) rfl rfl (Nat.le_of_ble_eq_true rfl) ⟨by decide, by decide⟩ dX8_peg_102 (aI1 (F := fun st M => P g X 6 105 [(5, .ref a3_), (0, .ref a0), (1, .int x1), (2, .int x2), (3, .int x3), (4, .int x4)] st _ _ M) (M := (K, len, I3, J, R)) fun x6_ I6 h6 => ?_)
      obtain ⟨hs6, hf6, k6_0, k6_1⟩ := h6
      show P g X 6 105 [(5, .ref a3_), (0, .ref a0), (1, .int x1), (2, .int x2), (3, .int x3), (4, .int x4)] [.int x6_] _ _ (K, len, I6, J, R)
      have hF6 : Fr K [(1, 5), (1, 6), (9, 12), (43, 999), (50, 999), (51, 999), (52, 999), (53, 999), (54, 999)] I I6 := hF3.trans hf6 rfl rfl
      have hc6 := k3_2.mv ka hf6 rfl
      have coa3__6 := k3_3.mv hs k3_0 hf6 rfl
      exact r_iret hC hQ hlk hr rfl (by decide) (by decide) dX8_peg_105 ⟨_, _, rfl, rfl, ⟨hs6, hF6, (by exact hc6), (by first | exact Or.inr ⟨by omega, by omega⟩ | exact Or.inl ⟨by omega, (congrArg Int32.toInt k6_0).trans (by first | (rw [if_pos (by omega)]; exact NOlq) | (rw [if_neg (by omega), if_pos (by omega)]; exact NOlq) | (rw [if_neg (by omega), if_neg (by omega)]; exact NOlq))⟩), (by omega)⟩⟩
    · rcases (show x4.toInt = 0 ∨ x4.toInt = 1 ∨ x4.toInt = 2 by omega) with o4 | o4 | o4
      · refine r_tabIn hC (tgt := 52) (off := 27) dX8_peg_25 (by omega) (by omega) (by rw [o4]; decide) (by decide) ?_
        refine r_aload_n hC dX8_peg_52 1 rfl ?_
        refine r_aload hC dX8_peg_53 0 rfl ?_
        obtain ⟨a7_, hb7, hk7, hn7⟩ := hs3.row k3_0 1 51 300 (by decide) (by decide)
        refine r_getr hC 1 (ci := 0) rfl u0_in (by decide) mT_2_29 dX8_peg_55 k3_0 rfl rfl hb7 ?_
        refine r_iload_n hC dX8_peg_58 3 rfl ?_
        refine r_iload_n hC dX8_peg_59 4 rfl ?_
        refine r_callS hC (As := [.int x2, .int x3]) (rest := [.ref a7_, .ref a0]) (c_X8_row g (xL X) K len I3 J R hs3 x2 x3 (by omega) (by omega) (by omega) (by omega)) mT_3_192 mT_1_1 mT_3_197 mT_3_191 okX8_row ⟨by decide, by decide⟩ rfl rfl (Nat.le_of_ble_eq_true rfl) ⟨by decide, by decide⟩ dX8_peg_60 (aI0 (F := fun st M => P g X 6 63 [(5, .ref a3_), (0, .ref a0), (1, .int x1), (2, .int x2), (3, .int x3), (4, .int x4)] st _ _ M) (M := (K, len, I3, J, R)) fun x8_ h8 => ?_)
        have k8_0 := h8
        clear h8
        show P g X 6 63 [(5, .ref a3_), (0, .ref a0), (1, .int x1), (2, .int x2), (3, .int x3), (4, .int x4)] [.int x8_, .ref a7_, .ref a0] _ _ (K, len, I3, J, R)
        refine x_iaload hC hk7 hn7 (by decide) rfl rfl dX8_peg_63 (by omega) (by omega) (fun x9_ e9 => ?_)
        have q9 : x9_.toInt = NV D x1.toInt.toNat (Ad D x1.toInt.toNat (LP1 D) 1) x3.toInt.toNat x2.toInt.toNat := by rw [e9, clx (i := x8_) rfl (by omega), show x8_.toInt.toNat = 60 * x2.toInt.toNat + x3.toInt.toNat by omega]; exact k3_3.inc hs k3_0 hb7 (by omega) (by omega)
        have jb9 := k3_2.nvb (s := x1.toInt.toNat) (by omega) (w2 := 1) x3.toInt.toNat x2.toInt.toNat (by omega)
        refine r_callV hC (As := [.int x9_]) (rest := []) (ci := 8) (c_X8_answer g (xL X) K len I3 J R hs3 a0 ka0 x9_) mT_3_115 mT_1_1 mT_3_112 mT_3_114 mP_21 okX8_answer ⟨by decide, by decide⟩ rfl (by show kO (K a0) = _; rw [ka0]; rfl) rfl rfl (Nat.le_of_ble_eq_true rfl) ⟨by decide, by decide⟩ dX8_peg_64 (aI1 (F := fun st M => P g X 6 67 [(5, .ref a3_), (0, .ref a0), (1, .int x1), (2, .int x2), (3, .int x3), (4, .int x4)] st _ _ M) (M := (K, len, I3, J, R)) fun x10_ I10 h10 => ?_)
        obtain ⟨hs10, hf10, k10_0, k10_1⟩ := h10
        show P g X 6 67 [(5, .ref a3_), (0, .ref a0), (1, .int x1), (2, .int x2), (3, .int x3), (4, .int x4)] [.int x10_] _ _ (K, len, I10, J, R)
        have hF10 : Fr K [(1, 5), (1, 6), (9, 12), (43, 999), (50, 999), (51, 999), (52, 999), (53, 999), (54, 999)] I I10 := hF3.trans hf10 rfl rfl
        have hc10 := k3_2.mv ka hf10 rfl
        have coa3__10 := k3_3.mv hs k3_0 hf10 rfl
        exact r_iret hC hQ hlk hr rfl (by decide) (by decide) dX8_peg_67 ⟨_, _, rfl, rfl, ⟨hs10, hF10, (by exact hc10), (by first | exact Or.inr ⟨by omega, by omega⟩ | exact Or.inl ⟨by omega, (congrArg Int32.toInt k10_0).trans (by first | (rw [if_pos (by omega)]; exact q9) | (rw [if_neg (by omega), if_pos (by omega)]; exact q9) | (rw [if_neg (by omega), if_neg (by omega)]; exact q9))⟩), (by omega)⟩⟩
      · refine r_tabIn hC (tgt := 68) (off := 43) dX8_peg_25 (by omega) (by omega) (by rw [o4]; decide) (by decide) ?_
        refine r_aload_n hC dX8_peg_68 1 rfl ?_
        refine r_aload hC dX8_peg_69 0 rfl ?_
        obtain ⟨a11_, hb11, hk11, hn11⟩ := hs3.row k3_0 0 50 300 (by decide) (by decide)
        refine r_getr hC 0 (ci := 0) rfl u0_in (by decide) mT_2_26 dX8_peg_71 k3_0 rfl rfl hb11 ?_
        refine r_iload_n hC dX8_peg_74 3 rfl ?_
        refine r_iload_n hC dX8_peg_75 4 rfl ?_
        refine r_callS hC (As := [.int x2, .int x3]) (rest := [.ref a11_, .ref a0]) (c_X8_row g (xL X) K len I3 J R hs3 x2 x3 (by omega) (by omega) (by omega) (by omega)) mT_3_192 mT_1_1 mT_3_197 mT_3_191 okX8_row ⟨by decide, by decide⟩ rfl rfl (Nat.le_of_ble_eq_true rfl) ⟨by decide, by decide⟩ dX8_peg_76 (aI0 (F := fun st M => P g X 6 79 [(5, .ref a3_), (0, .ref a0), (1, .int x1), (2, .int x2), (3, .int x3), (4, .int x4)] st _ _ M) (M := (K, len, I3, J, R)) fun x12_ h12 => ?_)
        have k12_0 := h12
        clear h12
        show P g X 6 79 [(5, .ref a3_), (0, .ref a0), (1, .int x1), (2, .int x2), (3, .int x3), (4, .int x4)] [.int x12_, .ref a11_, .ref a0] _ _ (K, len, I3, J, R)
        refine x_iaload hC hk11 hn11 (by decide) rfl rfl dX8_peg_79 (by omega) (by omega) (fun x13_ e13 => ?_)
        have q13 : x13_.toInt = SV D x1.toInt.toNat (Ad D x1.toInt.toNat (LP1 D) 1) x3.toInt.toNat x2.toInt.toNat := by rw [e13, clx (i := x12_) rfl (by omega), show x12_.toInt.toNat = 60 * x2.toInt.toNat + x3.toInt.toNat by omega]; exact k3_3.spd hs k3_0 hb11 (by omega) (by omega)
        have jb13 := k3_2.svb (s := x1.toInt.toNat) (by omega) (w2 := 1) x3.toInt.toNat x2.toInt.toNat
        refine r_callV hC (As := [.int x13_]) (rest := []) (ci := 8) (c_X8_answer g (xL X) K len I3 J R hs3 a0 ka0 x13_) mT_3_115 mT_1_1 mT_3_112 mT_3_114 mP_21 okX8_answer ⟨by decide, by decide⟩ rfl (by show kO (K a0) = _; rw [ka0]; rfl) rfl rfl (Nat.le_of_ble_eq_true rfl) ⟨by decide, by decide⟩ dX8_peg_80 (aI1 (F := fun st M => P g X 6 83 [(5, .ref a3_), (0, .ref a0), (1, .int x1), (2, .int x2), (3, .int x3), (4, .int x4)] st _ _ M) (M := (K, len, I3, J, R)) fun x14_ I14 h14 => ?_)
        obtain ⟨hs14, hf14, k14_0, k14_1⟩ := h14
        show P g X 6 83 [(5, .ref a3_), (0, .ref a0), (1, .int x1), (2, .int x2), (3, .int x3), (4, .int x4)] [.int x14_] _ _ (K, len, I14, J, R)
        have hF14 : Fr K [(1, 5), (1, 6), (9, 12), (43, 999), (50, 999), (51, 999), (52, 999), (53, 999), (54, 999)] I I14 := hF3.trans hf14 rfl rfl
        have hc14 := k3_2.mv ka hf14 rfl
        have coa3__14 := k3_3.mv hs k3_0 hf14 rfl
        exact r_iret hC hQ hlk hr rfl (by decide) (by decide) dX8_peg_83 ⟨_, _, rfl, rfl, ⟨hs14, hF14, (by exact hc14), (by first | exact Or.inr ⟨by omega, by omega⟩ | exact Or.inl ⟨by omega, (congrArg Int32.toInt k14_0).trans (by first | (rw [if_pos (by omega)]; exact q13) | (rw [if_neg (by omega), if_pos (by omega)]; exact q13) | (rw [if_neg (by omega), if_neg (by omega)]; exact q13))⟩), (by omega)⟩⟩
      · refine r_tabIn hC (tgt := 84) (off := 59) dX8_peg_25 (by omega) (by omega) (by rw [o4]; decide) (by decide) ?_
        refine r_aload_n hC dX8_peg_84 1 rfl ?_
        refine r_aload hC dX8_peg_85 0 rfl ?_
        obtain ⟨a15_, hb15, hk15, hn15⟩ := hs3.row k3_0 2 52 300 (by decide) (by decide)
        refine r_getr hC 2 (ci := 0) rfl u0_in (by decide) mT_2_31 dX8_peg_87 k3_0 rfl rfl hb15 ?_
        refine r_iload_n hC dX8_peg_90 3 rfl ?_
        refine r_iload_n hC dX8_peg_91 4 rfl ?_
        refine r_callS hC (As := [.int x2, .int x3]) (rest := [.ref a15_, .ref a0]) (c_X8_row g (xL X) K len I3 J R hs3 x2 x3 (by omega) (by omega) (by omega) (by omega)) mT_3_192 mT_1_1 mT_3_197 mT_3_191 okX8_row ⟨by decide, by decide⟩ rfl rfl (Nat.le_of_ble_eq_true rfl) ⟨by decide, by decide⟩ dX8_peg_92 (aI0 (F := fun st M => P g X 6 95 [(5, .ref a3_), (0, .ref a0), (1, .int x1), (2, .int x2), (3, .int x3), (4, .int x4)] st _ _ M) (M := (K, len, I3, J, R)) fun x16_ h16 => ?_)
        have k16_0 := h16
        clear h16
        show P g X 6 95 [(5, .ref a3_), (0, .ref a0), (1, .int x1), (2, .int x2), (3, .int x3), (4, .int x4)] [.int x16_, .ref a15_, .ref a0] _ _ (K, len, I3, J, R)
        refine x_iaload hC hk15 hn15 (by decide) rfl rfl dX8_peg_95 (by omega) (by omega) (fun x17_ e17 => ?_)
        have q17 : x17_.toInt = WV D x1.toInt.toNat (Ad D x1.toInt.toNat (LP1 D) 1) x3.toInt.toNat x2.toInt.toNat := by rw [e17, clx (i := x16_) rfl (by omega), show x16_.toInt.toNat = 60 * x2.toInt.toNat + x3.toInt.toNat by omega]; exact k3_3.wrn hs k3_0 hb15 (by omega) (by omega)
        refine r_callV hC (As := [.int x17_]) (rest := []) (ci := 8) (c_X8_answer g (xL X) K len I3 J R hs3 a0 ka0 x17_) mT_3_115 mT_1_1 mT_3_112 mT_3_114 mP_21 okX8_answer ⟨by decide, by decide⟩ rfl (by show kO (K a0) = _; rw [ka0]; rfl) rfl rfl (Nat.le_of_ble_eq_true rfl) ⟨by decide, by decide⟩ dX8_peg_96 (aI1 (F := fun st M => P g X 6 99 [(5, .ref a3_), (0, .ref a0), (1, .int x1), (2, .int x2), (3, .int x3), (4, .int x4)] st _ _ M) (M := (K, len, I3, J, R)) fun x18_ I18 h18 => ?_)
        obtain ⟨hs18, hf18, k18_0, k18_1⟩ := h18
        show P g X 6 99 [(5, .ref a3_), (0, .ref a0), (1, .int x1), (2, .int x2), (3, .int x3), (4, .int x4)] [.int x18_] _ _ (K, len, I18, J, R)
        have hF18 : Fr K [(1, 5), (1, 6), (9, 12), (43, 999), (50, 999), (51, 999), (52, 999), (53, 999), (54, 999)] I I18 := hF3.trans hf18 rfl rfl
        have hc18 := k3_2.mv ka hf18 rfl
        have coa3__18 := k3_3.mv hs k3_0 hf18 rfl
        exact r_iret hC hQ hlk hr rfl (by decide) (by decide) dX8_peg_99 ⟨_, _, rfl, rfl, ⟨hs18, hF18, (by exact hc18), (by first | exact Or.inr ⟨by omega, by omega⟩ | exact Or.inl ⟨by omega, (congrArg Int32.toInt k18_0).trans (by first | (rw [if_pos (by omega)]; exact q17) | (rw [if_neg (by omega), if_pos (by omega)]; exact q17) | (rw [if_neg (by omega), if_neg (by omega)]; exact q17))⟩), (by omega)⟩⟩
  · refine r_if_ne hC (tgt := 16) dX8_peg_7 (by decide) (fun c19 => ?_) (fun c19 => ?_)
    · exfalso; omega
    refine r_aload_n hC dX8_peg_10 0 rfl ?_
    refine r_iconst hC (v := (1)) dX8_peg_11 (by decide) (by decide) (fun x20_ e20 t20 => ?_)
    refine r_callV hC (As := [.int x20_]) (rest := []) (ci := 8) (c_X8_refuse g (xL X) K len I J R hs a0 ka0 x20_) mT_2_133 mT_1_1 mT_2_130 mT_2_132 mP_0 okX8_refuse ⟨by decide, by decide⟩ rfl (by show kO (K a0) = _; rw [ka0]; rfl) rfl rfl (Nat.le_of_ble_eq_true rfl) ⟨by decide, by decide⟩ dX8_peg_12 (aI1 (F := fun st M => P g X 6 15 [(0, .ref a0), (1, .int x1), (2, .int x2), (3, .int x3), (4, .int x4)] st _ _ M) (M := (K, len, I, J, R)) fun x21_ I21 h21 => ?_)
    obtain ⟨hs21, hf21, k21_0, k21_1⟩ := h21
    show P g X 6 15 [(0, .ref a0), (1, .int x1), (2, .int x2), (3, .int x3), (4, .int x4)] [.int x21_] _ _ (K, len, I21, J, R)
    have hF21 : Fr K [(1, 5), (1, 6), (9, 12), (43, 999), (50, 999), (51, 999), (52, 999), (53, 999), (54, 999)] I I21 := hF.trans hf21 rfl rfl
    have hc21 := hc.mv ka hf21 rfl
    exact r_iret hC hQ hlk hr rfl (by decide) (by decide) dX8_peg_15 ⟨_, _, rfl, rfl, ⟨hs21, hF21, (by exact hc21), (by first | exact Or.inr ⟨by omega, by omega⟩ | exact Or.inl ⟨by omega, (congrArg Int32.toInt k21_0).trans (by first | (rw [if_pos (by omega)]; exact NOlq) | (rw [if_neg (by omega), if_pos (by omega)]; exact NOlq) | (rw [if_neg (by omega), if_neg (by omega)]; exact NOlq))⟩), (by omega)⟩⟩
