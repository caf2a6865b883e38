section ANS1
variable {D : DD} {s n : Nat} {day a b off most i j best v : Int}
end ANS1
set_option maxHeartbeats 4000000 in
set_option maxRecDepth 100000 in
theorem a_X8_struck (g : GG) (l : Launch) (K len : Nat → Nat) (I : Nat → Nat → Int32) (J : Nat → Nat → Int64) (R : Nat → Nat → Option Nat) (hs : Sf K len I R) (a0 : Nat) (ka0 : K a0 = 9) (x1 : Int32) (x2 : Int32) (h : Nat) (hh : R a0 2 = some h) (kh : K h = 2) (lk : Nat) (hlk2 : R h 0 = some lk) (klk : K lk = 3) (rd : Nat) (hrd : R a0 9 = some rd) (krd : K rd = 4) (lv : Nat) (hlv : R a0 4 = some lv) (klv : K lv = 41) (llv : len lv = 60) (kn : Nat) (hkn : R a0 6 = some kn) (kkn : K kn = 43) (lkn : len kn = 6) (cr : Nat) (hcr : R a0 5 = some cr) (kcr1 : K cr = 44) (lcr : len cr = 6) (hu : UU K R) (D : DD) (E : Nat → Nat → Int) (hc : KC D E a0 h lk rd I R) : Ct g l yX8_struck cX8_struck 3 (Option.some Jvm.ClassFile.FieldType.int) rmX8_struck [.ref a0, .int x1, .int x2] (K, len, I, J, R) (pI1 (K, len, I, J, R) (fun r I' => Sf K len I' R ∧ Fr K [(1, 5), (1, 6), (9, 12), (43, 999), (50, 999), (51, 999), (52, 999), (53, 999), (54, 999)] I I' ∧ (KC D E a0 h lk rd I' R) ∧ (((0 ≤ x1.toInt ∧ x1.toInt < D 0 7) ∧ 0 ≤ x2.toInt ∧ x2.toInt < D 0 8) ∧ r.toInt = (if GV D x1.toInt.toNat (Ad D x1.toInt.toNat (LP1 D) 1) 60 ≠ -2 ∧ D 10 x2.toInt.toNat ≤ Wq D x1.toInt.toNat (Ad D x1.toInt.toNat (LP1 D) 1) (LP1 D) 60 then (1 : Int) else 0) ∨ ¬ ((0 ≤ x1.toInt ∧ x1.toInt < D 0 7) ∧ 0 ≤ x2.toInt ∧ x2.toInt < D 0 8) ∧ r.toInt = -1) ∧ ((I' a0 12).toInt ≠ 4))) := by
  refine Ct_intro (by decide +kernel) (Nat.le_of_ble_eq_true rfl) (fun X hC hL hKK hNm hr hlk hQ => ?_)
  subst hL
  have hC : Cx g X cX8_struck "HillTap" 3 rmX8_struck := hC
  show P g X 3 0 [(0, .ref a0), (1, .int x1), (2, .int x2)] [] 0 0 (K, len, I, J, R)
  have hF : Fr K [(1, 5), (1, 6), (9, 12), (43, 999), (50, 999), (51, 999), (52, 999), (53, 999), (54, 999)] I I := Fr.refl
  have ka : KA a0 h lk rd K len R := ⟨⟨_, hs⟩, hu, ka0, kh, klk, krd⟩
  obtain ⟨sd1, sd2, sd3, sd4, sd5, sd7, sd8, sd9⟩ := id hc.2.1
  have d7b := hs.rng kh (k := 6) rfl (x := I h 6) rfl
  have d5b := hs.rng kh (k := 1) rfl (x := I h 1) rfl
  have d8b := hs.rng kh (k := 8) rfl (x := I h 8) rfl
  have b_x1 := ti_rng x1
  have b_x2 := ti_rng x2
  refine r_aload_n hC dX8_struck_0 0 rfl ?_
  refine r_iload_n hC dX8_struck_1 1 rfl ?_
  refine r_callV hC (As := [.int x1]) (rest := []) (ci := 8) (f_X8_isStory g (xL X) K len I J R hs a0 ka0 x1 h hh kh) mT_3_155 mT_1_1 mT_3_152 mT_3_154 mP_24 okX8_isStory ⟨by decide, by decide⟩ rfl (by show kO (K a0) = _; rw [ka0]; rfl) rfl rfl (Nat.le_of_ble_eq_true rfl) ⟨by decide, by decide⟩ dX8_struck_2 (aI0 (F := fun st M => P g X 3 5 [(0, .ref a0), (1, .int x1), (2, .int x2)] st _ _ M) (M := (K, len, I, J, R)) fun x1_ h1 => ?_)
  have k1_0 := h1
  clear h1
  show P g X 3 5 [(0, .ref a0), (1, .int x1), (2, .int x2)] [.int x1_] _ _ (K, len, I, J, R)
  rcases k1_0 with ⟨hr1, hw1⟩ | ⟨hr1, hw1⟩
  · refine r_if_eq hC (tgt := 16) dX8_struck_5 (by decide) (fun c2 => ?_) (fun c2 => ?_)
    · exfalso; omega
    refine r_aload_n hC dX8_struck_8 0 rfl ?_
    refine r_iload_n hC dX8_struck_9 2 rfl ?_
    refine r_callV hC (As := [.int x2]) (rest := []) (ci := 8) (f_X8_isVillage g (xL X) K len I J R hs a0 ka0 x2 h hh kh) mT_4_119 mT_1_1 mT_4_116 mT_4_118 mP_45 okX8_isVillage ⟨by decide, by decide⟩ rfl (by show kO (K a0) = _; rw [ka0]; rfl) rfl rfl (Nat.le_of_ble_eq_true rfl) ⟨by decide, by decide⟩ dX8_struck_10 (aI0 (F := fun st M => P g X 3 13 [(0, .ref a0), (1, .int x1), (2, .int x2)] st _ _ M) (M := (K, len, I, J, R)) fun x3_ h3 => ?_)
    have k3_0 := h3
    clear h3
    show P g X 3 13 [(0, .ref a0), (1, .int x1), (2, .int x2)] [.int x3_] _ _ (K, len, I, J, R)
    rcases k3_0 with ⟨hr3, hw3⟩ | ⟨hr3, hw3⟩
    · refine r_if_ne hC (tgt := 22) dX8_struck_13 (by decide) (fun c4 => ?_) (fun c4 => ?_)
      rotate_left
      · exfalso; omega
      refine r_aload_n hC dX8_struck_22 0 rfl ?_
      refine r_aload_n hC dX8_struck_23 0 rfl ?_
      refine r_iload_n hC dX8_struck_24 1 rfl ?_
      refine r_iload_n hC dX8_struck_25 2 rfl ?_
      refine r_callV hC (As := [.int x1, .int x2]) (rest := [.ref a0]) (ci := 8) (f_X8_strikes g (xL X) K len I J R hs a0 ka0 x1 x2 h hh kh lk hlk2 klk rd hrd krd lv hlv klv llv kn hkn kkn lkn cr hcr kcr1 lcr hu D E hc (by omega) (by omega) (by omega) (by omega)) mT_4_123 mT_1_1 mT_4_120 mT_4_122 mP_46 okX8_strikes ⟨by decide, by decide⟩ rfl (by show kO (K a0) = _; rw [ka0]; rfl) rfl rfl (Nat.le_of_ble_eq_true rfl) ⟨by decide, by decide⟩ dX8_struck_26 (aI1 (F := fun st M => P g X 3 29 [(0, .ref a0), (1, .int x1), (2, .int x2)] st _ _ M) (M := (K, len, I, J, R)) fun x5_ I5 h5 => ?_)
      obtain ⟨hs5, hf5, k5_0, k5_1⟩ := h5
      show P g X 3 29 [(0, .ref a0), (1, .int x1), (2, .int x2)] [.int x5_, .ref a0] _ _ (K, len, I5, J, R)
      have hF5 : Fr K [(1, 5), (1, 6), (9, 12), (43, 999), (50, 999), (51, 999), (52, 999), (53, 999), (54, 999)] I I5 := hF.trans hf5 rfl rfl
      refine r_if_eq hC (tgt := 36) dX8_struck_29 (by decide) (fun c6 => ?_) (fun c6 => ?_)
      · refine r_iconst hC (v := (0)) dX8_struck_36 (by decide) (by decide) (fun x7_ e7 t7 => ?_)
        refine r_callV hC (As := [.int x7_]) (rest := []) (ci := 8) (c_X8_answer g (xL X) K len I5 J R hs5 a0 ka0 x7_) mT_3_115 mT_1_1 mT_3_112 mT_3_114 mP_21 okX8_answer ⟨by decide, by decide⟩ rfl (by show kO (K a0) = _; rw [ka0]; rfl) rfl rfl (Nat.le_of_ble_eq_true rfl) ⟨by decide, by decide⟩ dX8_struck_37 (aI1 (F := fun st M => P g X 3 40 [(0, .ref a0), (1, .int x1), (2, .int x2)] st _ _ M) (M := (K, len, I5, J, R)) fun x8_ I8 h8 => ?_)
        obtain ⟨hs8, hf8, k8_0, k8_1⟩ := h8
        show P g X 3 40 [(0, .ref a0), (1, .int x1), (2, .int x2)] [.int x8_] _ _ (K, len, I8, J, R)
        have hF8 : Fr K [(1, 5), (1, 6), (9, 12), (43, 999), (50, 999), (51, 999), (52, 999), (53, 999), (54, 999)] I I8 := hF5.trans hf8 rfl rfl
        have hc8 := k5_0.mv ka hf8 rfl
        exact r_iret hC hQ hlk hr rfl (by decide) (by decide) dX8_struck_40 ⟨_, _, rfl, rfl, ⟨hs8, hF8, (by exact hc8), (by first | exact Or.inr ⟨by omega, by omega⟩ | exact Or.inl ⟨by omega, (congrArg Int32.toInt k8_0).trans (by first | (rw [if_pos (by omega)]; omega) | (rw [if_neg (by omega)]; omega))⟩), (by omega)⟩⟩
      · refine r_iconst hC (v := (1)) dX8_struck_32 (by decide) (by decide) (fun x9_ e9 t9 => ?_)
        refine r_goto hC (tgt := 37) dX8_struck_33 (by decide) ?_
        refine r_callV hC (As := [.int x9_]) (rest := []) (ci := 8) (c_X8_answer g (xL X) K len I5 J R hs5 a0 ka0 x9_) mT_3_115 mT_1_1 mT_3_112 mT_3_114 mP_21 okX8_answer ⟨by decide, by decide⟩ rfl (by show kO (K a0) = _; rw [ka0]; rfl) rfl rfl (Nat.le_of_ble_eq_true rfl) ⟨by decide, by decide⟩ dX8_struck_37 (aI1 (F := fun st M => P g X 3 40 [(0, .ref a0), (1, .int x1), (2, .int x2)] st _ _ M) (M := (K, len, I5, J, R)) fun x10_ I10 h10 => ?_)
        obtain ⟨hs10, hf10, k10_0, k10_1⟩ := h10
        show P g X 3 40 [(0, .ref a0), (1, .int x1), (2, .int x2)] [.int x10_] _ _ (K, len, I10, J, R)
        have hF10 : Fr K [(1, 5), (1, 6), (9, 12), (43, 999), (50, 999), (51, 999), (52, 999), (53, 999), (54, 999)] I I10 := hF5.trans hf10 rfl rfl
        have hc10 := k5_0.mv ka hf10 rfl
        exact r_iret hC hQ hlk hr rfl (by decide) (by decide) dX8_struck_40 ⟨_, _, rfl, rfl, ⟨hs10, hF10, (by exact hc10), (by first | exact Or.inr ⟨by omega, by omega⟩ | exact Or.inl ⟨by omega, (congrArg Int32.toInt k10_0).trans (by first | (rw [if_pos (by omega)]; omega) | (rw [if_neg (by omega)]; omega))⟩), (by omega)⟩⟩
    · refine r_if_ne hC (tgt := 22) dX8_struck_13 (by decide) (fun c11 => ?_) (fun c11 => ?_)
      · exfalso; omega
      refine r_aload_n hC dX8_struck_16 0 rfl ?_
      refine r_iconst hC (v := (1)) dX8_struck_17 (by decide) (by decide) (fun x12_ e12 t12 => ?_)
      refine r_callV hC (As := [.int x12_]) (rest := []) (ci := 8) (c_X8_refuse g (xL X) K len I J R hs a0 ka0 x12_) mT_2_133 mT_1_1 mT_2_130 mT_2_132 mP_0 okX8_refuse ⟨by decide, by decide⟩ rfl (by show kO (K a0) = _; rw [ka0]; rfl) rfl rfl (Nat.le_of_ble_eq_true rfl) ⟨by decide, by decide⟩ dX8_struck_18 (aI1 (F := fun st M => P g X 3 21 [(0, .ref a0), (1, .int x1), (2, .int x2)] st _ _ M) (M := (K, len, I, J, R)) fun x13_ I13 h13 => ?_)
      obtain ⟨hs13, hf13, k13_0, k13_1⟩ := h13
      show P g X 3 21 [(0, .ref a0), (1, .int x1), (2, .int x2)] [.int x13_] _ _ (K, len, I13, J, R)
      have hF13 : Fr K [(1, 5), (1, 6), (9, 12), (43, 999), (50, 999), (51, 999), (52, 999), (53, 999), (54, 999)] I I13 := hF.trans hf13 rfl rfl
      have hc13 := hc.mv ka hf13 rfl
      exact r_iret hC hQ hlk hr rfl (by decide) (by decide) dX8_struck_21 ⟨_, _, rfl, rfl, ⟨hs13, hF13, (by exact hc13), (by first | exact Or.inr ⟨by omega, by omega⟩ | exact Or.inl ⟨by omega, (congrArg Int32.toInt k13_0).trans (by first | (rw [if_pos (by omega)]; omega) | (rw [if_neg (by omega)]; omega))⟩), (by omega)⟩⟩
  · refine r_if_eq hC (tgt := 16) dX8_struck_5 (by decide) (fun c14 => ?_) (fun c14 => ?_)
    rotate_left
    · exfalso; omega
    refine r_aload_n hC dX8_struck_16 0 rfl ?_
    refine r_iconst hC (v := (1)) dX8_struck_17 (by decide) (by decide) (fun x15_ e15 t15 => ?_)
    refine r_callV hC (As := [.int x15_]) (rest := []) (ci := 8) (c_X8_refuse g (xL X) K len I J R hs a0 ka0 x15_) mT_2_133 mT_1_1 mT_2_130 mT_2_132 mP_0 okX8_refuse ⟨by decide, by decide⟩ rfl (by show kO (K a0) = _; rw [ka0]; rfl) rfl rfl (Nat.le_of_ble_eq_true rfl) ⟨by decide, by decide⟩ dX8_struck_18 (aI1 (F := fun st M => P g X 3 21 [(0, .ref a0), (1, .int x1), (2, .int x2)] st _ _ M) (M := (K, len, I, J, R)) fun x16_ I16 h16 => ?_)
    obtain ⟨hs16, hf16, k16_0, k16_1⟩ := h16
    show P g X 3 21 [(0, .ref a0), (1, .int x1), (2, .int x2)] [.int x16_] _ _ (K, len, I16, J, R)
    have hF16 : Fr K [(1, 5), (1, 6), (9, 12), (43, 999), (50, 999), (51, 999), (52, 999), (53, 999), (54, 999)] I I16 := hF.trans hf16 rfl rfl
    have hc16 := hc.mv ka hf16 rfl
    exact r_iret hC hQ hlk hr rfl (by decide) (by decide) dX8_struck_21 ⟨_, _, rfl, rfl, ⟨hs16, hF16, (by exact hc16), (by first | exact Or.inr ⟨by omega, by omega⟩ | exact Or.inl ⟨by omega, (congrArg Int32.toInt k16_0).trans (by first | (rw [if_pos (by omega)]; omega) | (rw [if_neg (by omega)]; omega))⟩), (by omega)⟩⟩
set_option maxHeartbeats 4000000 in
set_option maxRecDepth 100000 in
theorem f_X10_isVillage (g : GG) (l : Launch) (K len : Nat → Nat) (I : Nat → Nat → Int32) (J : Nat → Nat → Int64) (R : Nat → Nat → Option Nat) (hs : Sf K len I R) (a0 : Nat) (ka0 : K a0 = 11) (x1 : Int32) : Ct g l yX10_isVillage cX10_isVillage 2 (Option.some Jvm.ClassFile.FieldType.boolean) rmX10_isVillage [.ref a0, .int x1] (K, len, I, J, R) (pI0 (K, len, I, J, R) (fun r => ((R a0 3 = none ∧ r.toInt = 0) ∨ (∃ hm, R a0 3 = some hm ∧ (r.toInt = 1 ∧ (0 ≤ x1.toInt ∧ x1.toInt < (I hm 8).toInt) ∨ r.toInt = 0 ∧ ¬ (0 ≤ x1.toInt ∧ x1.toInt < (I hm 8).toInt)))))) := by
  refine Ct_intro (by decide +kernel) (Nat.le_of_ble_eq_true rfl) (fun X hC hL hKK hNm hr hlk hQ => ?_)
  subst hL
  have hC : Cx g X cX10_isVillage "HillTapModel" 2 rmX10_isVillage := hC
  show P g X 2 0 [(0, .ref a0), (1, .int x1)] [] 0 0 (K, len, I, J, R)
  have hF : Fr K [] I I := Fr.refl
  have b_x1 := ti_rng x1
  refine r_aload_n hC dX10_isVillage_0 0 rfl ?_
  rcases hs.2.1.2.2.1 a0 ka0 with hz1 | ⟨a1_, hb1, hk1⟩
  · refine r_getz hC 3 (ci := 10) rfl u10_in (by decide) mT_4_238 dX10_isVillage_1 ka0 rfl rfl hz1 ?_
    refine r_ifnullN hC (tgt := 26) dX10_isVillage_4 (by decide) ?_
    refine r_iconst hC (v := (0)) dX10_isVillage_26 (by decide) (by decide) (fun x2_ e2 t2 => ?_)
    exact r_iret hC hQ hlk hr (by rw [e2]; rfl) (by decide) (by decide) dX10_isVillage_27 ⟨_, rfl, rfl, (by first | exact Or.inl ⟨hz1, by omega⟩ | exact Or.inr ⟨_, hz1, by omega⟩)⟩
  · refine r_getr hC 3 (ci := 10) rfl u10_in (by decide) mT_4_238 dX10_isVillage_1 ka0 rfl rfl hb1 ?_
    refine r_ifnull hC dX10_isVillage_4 ?_
    refine r_iload_n hC dX10_isVillage_7 1 rfl ?_
    refine r_if_lt hC (tgt := 26) dX10_isVillage_8 (by decide) (fun c3 => ?_) (fun c3 => ?_)
    · refine r_iconst hC (v := (0)) dX10_isVillage_26 (by decide) (by decide) (fun x4_ e4 t4 => ?_)
      exact r_iret hC hQ hlk hr (by rw [e4]; rfl) (by decide) (by decide) dX10_isVillage_27 ⟨_, rfl, rfl, (by first | exact Or.inl ⟨hb1, by omega⟩ | exact Or.inr ⟨_, hb1, by omega⟩)⟩
    · refine r_iload_n hC dX10_isVillage_11 1 rfl ?_
      refine r_aload_n hC dX10_isVillage_12 0 rfl ?_
      refine r_getr hC 3 (ci := 10) rfl u10_in (by decide) mT_4_238 dX10_isVillage_13 ka0 rfl rfl hb1 ?_
      refine r_getiN hC 8 (ci := 9) rfl u9_in (by decide) nF_8 dX10_isVillage_16 hk1 rfl rfl (fun x5_ e5 => ?_)
      have r5 := hs.rng hk1 rfl e5
      have f5 : x5_.toInt = (I a1_ 8).toInt := by rw [e5]
      refine r_icmp_ge hC (tgt := 26) dX10_isVillage_19 (by decide) (fun c6 => ?_) (fun c6 => ?_)
      · refine r_iconst hC (v := (0)) dX10_isVillage_26 (by decide) (by decide) (fun x7_ e7 t7 => ?_)
        exact r_iret hC hQ hlk hr (by rw [e7]; rfl) (by decide) (by decide) dX10_isVillage_27 ⟨_, rfl, rfl, (by first | exact Or.inl ⟨hb1, by omega⟩ | exact Or.inr ⟨_, hb1, by omega⟩)⟩
      · refine r_iconst hC (v := (1)) dX10_isVillage_22 (by decide) (by decide) (fun x8_ e8 t8 => ?_)
        refine r_goto hC (tgt := 27) dX10_isVillage_23 (by decide) ?_
        exact r_iret hC hQ hlk hr (by rw [e8]; rfl) (by decide) (by decide) dX10_isVillage_27 ⟨_, rfl, rfl, (by first | exact Or.inl ⟨hb1, by omega⟩ | exact Or.inr ⟨_, hb1, by omega⟩)⟩
set_option maxHeartbeats 4000000 in
set_option maxRecDepth 100000 in
theorem f_X10_isStruck (g : GG) (l : Launch) (K len : Nat → Nat) (I : Nat → Nat → Int32) (J : Nat → Nat → Int64) (R : Nat → Nat → Option Nat) (hs : Sf K len I R) (a0 : Nat) (ka0 : K a0 = 11) (x1 : Int32) (hm : Nat) (hbm : R a0 3 = some hm) (khm : K hm = 10) (lr : Nat) (hlr : R a0 15 = some lr) (klr : K lr = 85) (llr : len lr = 60) (sr : Nat) (hsr : R a0 16 = some sr) (ksr : K sr = 86) (lsr : len sr = 300) (ir : Nat) (hir : R a0 17 = some ir) (kir : K ir = 87) (lir : len ir = 300) (wr : Nat) (hwr : R a0 18 = some wr) (kwr : K wr = 88) (lwr : len wr = 300) (D : DD) (E : Nat → Nat → Int) (mc : MC D E a0 hm I R) (s : Nat) (hsk : (s : Int) < D 0 7) (mo : MO D s (LP1 D) 1 a0 lr sr ir wr I) (p0 : 0 ≤ x1.toInt) (p1 : x1.toInt < D 0 8) : Ct g l yX10_isStruck cX10_isStruck 2 (Option.some Jvm.ClassFile.FieldType.boolean) rmX10_isStruck [.ref a0, .int x1] (K, len, I, J, R) (pI0 (K, len, I, J, R) (fun r => (r.toInt = 1 ∧ (GV D s (Ad D s (LP1 D) 1) 60 ≠ -2 ∧ D 10 x1.toInt.toNat ≤ Wq D s (Ad D s (LP1 D) 1) (LP1 D) 60) ∨ r.toInt = 0 ∧ ¬ (GV D s (Ad D s (LP1 D) 1) 60 ≠ -2 ∧ D 10 x1.toInt.toNat ≤ Wq D s (Ad D s (LP1 D) 1) (LP1 D) 60)))) := by
  refine Ct_intro (by decide +kernel) (Nat.le_of_ble_eq_true rfl) (fun X hC hL hKK hNm hr hlk hQ => ?_)
  subst hL
  have hC : Cx g X cX10_isStruck "HillTapModel" 2 rmX10_isStruck := hC
  show P g X 2 0 [(0, .ref a0), (1, .int x1)] [] 0 0 (K, len, I, J, R)
  have hF : Fr K [] I I := Fr.refl
  obtain ⟨⟨hJ, hR6, hD7⟩, rwm, ⟨hd1, hd2, hd3, hd4, hd5, hd7, hd8, hd9⟩, -⟩ := id mc
  have hcx := CM_x hs khm
  have b5 := hs.rng khm (k := 3) rfl (x := I hm 3) rfl
  have b7 := hs.rng khm (k := 7) rfl (x := I hm 7) rfl
  have b8 := hs.rng khm (k := 8) rfl (x := I hm 8) rfl
  have b20 := hs.rng ka0 (k := 20) rfl (x := I a0 20) rfl
  have b_x1 := ti_rng x1
  refine r_aload_n hC dX10_isStruck_0 0 rfl ?_
  refine r_geti hC 19 (ci := 10) rfl u10_in (by decide) mT_5_14 dX10_isStruck_1 ka0 rfl rfl (fun x1_ e1 => ?_)
  have r1 := hs.rng ka0 rfl e1
  have q1 := hs.gone ka0 e1
  have f1 : x1_.toInt = (I a0 19).toInt := by rw [e1]
  have q1g : x1_.toInt = GV D s (Ad D s (LP1 D) 1) 60 := by rw [e1]; exact mo.2.2
  refine r_bipush hC (v := (-2)) dX10_isStruck_4 (by decide) (by decide) (fun x2_ e2 t2 => ?_)
  refine r_icmp_eq hC (tgt := 29) dX10_isStruck_6 (by decide) (fun c3 => ?_) (fun c3 => ?_)
  · refine r_iconst hC (v := (0)) dX10_isStruck_29 (by decide) (by decide) (fun x4_ e4 t4 => ?_)
    exact r_iret hC hQ hlk hr (by rw [e4]; rfl) (by decide) (by decide) dX10_isStruck_30 ⟨_, rfl, rfl, (by omega)⟩
  · refine r_aload_n hC dX10_isStruck_9 0 rfl ?_
    refine r_getr hC 3 (ci := 10) rfl u10_in (by decide) mT_4_238 dX10_isStruck_10 ka0 rfl rfl hbm ?_
    obtain ⟨a5_, hb5, hk5, hn5⟩ := hs.row khm 20 77 4 (by decide) (by decide)
    refine r_getrN hC 20 (ci := 9) rfl u9_in (by decide) nF_20 dX10_isStruck_13 khm rfl rfl hb5 ?_
    refine r_iload_n hC dX10_isStruck_16 1 rfl ?_
    refine x_iaload hC hk5 hn5 (by decide) rfl rfl dX10_isStruck_17 (by omega) (by omega) (fun x6_ e6 => ?_)
    have q6 : x6_.toInt = D 10 x1.toInt.toNat := by rw [e6, clx (i := x1) rfl (by omega)]; exact mc.hrw (r := 10) (by decide) (by decide) hb5 (by rw [cnt_10]; omega) (fun h9 => absurd h9 (by decide))
    have jb6 : 0 ≤ D 10 x1.toInt.toNat ∧ D 10 x1.toInt.toNat ≤ 999 := hJ.2.2.2.1 10 _ (by decide) (by decide) (by decide)
    refine r_aload_n hC dX10_isStruck_18 0 rfl ?_
    refine r_callV hC (As := []) (rest := [.int x6_]) (ci := 10) (f_X10_waveOf g (xL X) K len I J R hs a0 ka0 hm hbm khm lr hlr klr llr sr hsr ksr lsr ir hir kir lir wr hwr kwr lwr D E mc s hsk mo) mT_6_163 mT_1_10 mT_6_160 mT_6_162 mP_80 okX10_waveOf ⟨by decide, by decide⟩ rfl (by show kO (K a0) = _; rw [ka0]; rfl) rfl rfl (Nat.le_of_ble_eq_true rfl) ⟨by decide, by decide⟩ dX10_isStruck_19 (aI0 (F := fun st M => P g X 2 22 [(0, .ref a0), (1, .int x1)] st _ _ M) (M := (K, len, I, J, R)) fun x7_ h7 => ?_)
    have k7_0 := h7
    clear h7
    show P g X 2 22 [(0, .ref a0), (1, .int x1)] [.int x7_, .int x6_] _ _ (K, len, I, J, R)
    refine r_icmp_gt hC (tgt := 29) dX10_isStruck_22 (by decide) (fun c8 => ?_) (fun c8 => ?_)
    · refine r_iconst hC (v := (0)) dX10_isStruck_29 (by decide) (by decide) (fun x9_ e9 t9 => ?_)
      exact r_iret hC hQ hlk hr (by rw [e9]; rfl) (by decide) (by decide) dX10_isStruck_30 ⟨_, rfl, rfl, (by omega)⟩
    · refine r_iconst hC (v := (1)) dX10_isStruck_25 (by decide) (by decide) (fun x10_ e10 t10 => ?_)
      refine r_goto hC (tgt := 30) dX10_isStruck_26 (by decide) ?_
      exact r_iret hC hQ hlk hr (by rw [e10]; rfl) (by decide) (by decide) dX10_isStruck_30 ⟨_, rfl, rfl, (by omega)⟩
set_option maxHeartbeats 4000000 in
set_option maxRecDepth 100000 in
theorem f_X10_struck (g : GG) (l : Launch) (K len : Nat → Nat) (I : Nat → Nat → Int32) (J : Nat → Nat → Int64) (R : Nat → Nat → Option Nat) (hs : Sf K len I R) (a0 : Nat) (ka0 : K a0 = 11) (x1 : Int32) (x2 : Int32) (D : DD) (E : Nat → Nat → Int) (hmx : ∀ hm, R a0 3 = some hm → MC D E a0 hm I R) : Ct g l yX10_struck cX10_struck 3 (Option.some Jvm.ClassFile.FieldType.int) rmX10_struck [.ref a0, .int x1, .int x2] (K, len, I, J, R) (pI1 (K, len, I, J, R) (fun r I' => Sf K len I' R ∧ Fr K [(11, 0), (11, 1), (11, 2), (11, 19), (85, 999), (86, 999), (87, 999), (88, 999)] I I' ∧ ((R a0 3 = none ∧ r.toInt = -1) ∨ (∃ hm, R a0 3 = some hm ∧ (((0 ≤ x1.toInt ∧ x1.toInt < D 0 7) ∧ 0 ≤ x2.toInt ∧ x2.toInt < D 0 8) ∧ r.toInt = (if GV D x1.toInt.toNat (Ad D x1.toInt.toNat (LP1 D) 1) 60 ≠ -2 ∧ D 10 x2.toInt.toNat ≤ Wq D x1.toInt.toNat (Ad D x1.toInt.toNat (LP1 D) 1) (LP1 D) 60 then (1 : Int) else 0) ∨ ¬ ((0 ≤ x1.toInt ∧ x1.toInt < D 0 7) ∧ 0 ≤ x2.toInt ∧ x2.toInt < D 0 8) ∧ r.toInt = -1))) ∧ ((I' a0 2).toInt = -1))) := by
  refine Ct_intro (by decide +kernel) (Nat.le_of_ble_eq_true rfl) (fun X hC hL hKK hNm hr hlk hQ => ?_)
  subst hL
  have hC : Cx g X cX10_struck "HillTapModel" 3 rmX10_struck := hC
  show P g X 3 0 [(0, .ref a0), (1, .int x1), (2, .int x2)] [] 0 0 (K, len, I, J, R)
  have hF : Fr K [(11, 0), (11, 1), (11, 2), (11, 19), (85, 999), (86, 999), (87, 999), (88, 999)] I I := Fr.refl
  obtain ⟨lr, hlr, klr, llr⟩ := hs.row ka0 15 85 60 (by decide) (by decide)
  obtain ⟨sr, hsr, ksr, lsr⟩ := hs.row ka0 16 86 300 (by decide) (by decide)
  obtain ⟨ir, hir, kir, lir⟩ := hs.row ka0 17 87 300 (by decide) (by decide)
  obtain ⟨wr, hwr, kwr, lwr⟩ := hs.row ka0 18 88 300 (by decide) (by decide)
  have b_x1 := ti_rng x1
  have b_x2 := ti_rng x2
  rcases hs.2.1.2.2.1 a0 ka0 with hz | ⟨hm, hbm, khm⟩
  · refine r_aload_n hC dX10_struck_0 0 rfl ?_
    refine r_iconst hC (v := (0)) dX10_struck_1 (by decide) (by decide) (fun x1_ e1 t1 => ?_)
    refine r_puti hC 0 (ci := 10) rfl u10_in tyX10_ok nmX10 (by decide) mT_4_235 rfl rfl rfl dX10_struck_2 ka0 rfl rfl (fun I2 eI2 => ?_)
    have hs2 := hs.put0 eI2 ka0 rfl rfl rfl (by decide)
    have hF2 := hF.put eI2 ka0 rfl
    refine r_aload_n hC dX10_struck_5 0 rfl ?_
    refine r_iload_n hC dX10_struck_6 1 rfl ?_
    refine r_callV hC (As := [.int x1]) (rest := []) (ci := 10) (f_X10_isStory g (xL X) K len I2 J R hs2 a0 ka0 x1) mT_6_119 mT_1_10 mT_6_116 mT_6_118 mP_71 okX10_isStory ⟨by decide, by decide⟩ rfl (by show kO (K a0) = _; rw [ka0]; rfl) rfl rfl (Nat.le_of_ble_eq_true rfl) ⟨by decide, by decide⟩ dX10_struck_7 (aI0 (F := fun st M => P g X 3 10 [(0, .ref a0), (1, .int x1), (2, .int x2)] st _ _ M) (M := (K, len, I2, J, R)) fun x3_ h3 => ?_)
    have k3_0 := h3
    clear h3
    show P g X 3 10 [(0, .ref a0), (1, .int x1), (2, .int x2)] [.int x3_] _ _ (K, len, I2, J, R)
    have kq3 : x3_.toInt = 0 := by rcases k3_0 with ⟨z, y⟩ | ⟨hm9, z, y⟩; exact y; rw [hz] at z; cases z
    clear k3_0
    refine r_if_eq hC (tgt := 21) dX10_struck_10 (by decide) (fun c4 => ?_) (fun c4 => ?_)
    rotate_left
    · exfalso; omega
    refine r_aload_n hC dX10_struck_21 0 rfl ?_
    refine r_iconst hC (v := (1)) dX10_struck_22 (by decide) (by decide) (fun x5_ e5 t5 => ?_)
    refine r_callV hC (As := [.int x5_]) (rest := []) (ci := 10) (c_X10_refused g (xL X) K len I2 J R hs2 a0 ka0 x5_) mT_5_85 mT_1_10 mT_5_82 mT_5_84 mP_48 okX10_refused ⟨by decide, by decide⟩ rfl (by show kO (K a0) = _; rw [ka0]; rfl) rfl rfl (Nat.le_of_ble_eq_true rfl) ⟨by decide, by decide⟩ dX10_struck_23 (aI1 (F := fun st M => P g X 3 26 [(0, .ref a0), (1, .int x1), (2, .int x2)] st _ _ M) (M := (K, len, I2, J, R)) fun x6_ I6 h6 => ?_)
    obtain ⟨hs6, hf6, k6_0, k6_1, k6_2⟩ := h6
    show P g X 3 26 [(0, .ref a0), (1, .int x1), (2, .int x2)] [.int x6_] _ _ (K, len, I6, J, R)
    have hF6 : Fr K [(11, 0), (11, 1), (11, 2), (11, 19), (85, 999), (86, 999), (87, 999), (88, 999)] I I6 := hF2.trans hf6 rfl rfl
    exact r_iret hC hQ hlk hr rfl (by decide) (by decide) dX10_struck_26 ⟨_, _, rfl, rfl, ⟨hs6, hF6, (by first | exact Or.inl ⟨hz, by omega⟩ | exact Or.inr ⟨hm, hbm, Or.inr ⟨by omega, by omega⟩⟩ | exact Or.inr ⟨hm, hbm, Or.inl ⟨by omega, (congrArg Int32.toInt k6_0).trans (by first | (rw [if_pos (by omega)]; omega) | (rw [if_neg (by omega)]; omega))⟩⟩), (by omega)⟩⟩
  · obtain ⟨S0, eS0⟩ : ∃ z : Int32, z = I hm 7 := ⟨_, rfl⟩
    have fS0 : S0.toInt = (I hm 7).toInt := by rw [eS0]
    have rS0 := hs.rng khm rfl eS0
    have mc := hmx hm hbm
    obtain ⟨⟨hJ, hR6, hD7⟩, rwm, ⟨hd1, hd2, hd3, hd4, hd5, hd7, hd8, hd9⟩, -⟩ := id mc
    have hcx := CM_x hs khm
    have b5 := hs.rng khm (k := 3) rfl (x := I hm 3) rfl
    have b7 := hs.rng khm (k := 7) rfl (x := I hm 7) rfl
    have b8 := hs.rng khm (k := 8) rfl (x := I hm 8) rfl
    have b20 := hs.rng ka0 (k := 20) rfl (x := I a0 20) rfl
    refine r_aload_n hC dX10_struck_0 0 rfl ?_
    refine r_iconst hC (v := (0)) dX10_struck_1 (by decide) (by decide) (fun x7_ e7 t7 => ?_)
    refine r_puti hC 0 (ci := 10) rfl u10_in tyX10_ok nmX10 (by decide) mT_4_235 rfl rfl rfl dX10_struck_2 ka0 rfl rfl (fun I8 eI8 => ?_)
    have hs8 := hs.put0 eI8 ka0 rfl rfl rfl (by decide)
    have hF8 := hF.put eI8 ka0 rfl
    refine r_aload_n hC dX10_struck_5 0 rfl ?_
    refine r_iload_n hC dX10_struck_6 1 rfl ?_
    refine r_callV hC (As := [.int x1]) (rest := []) (ci := 10) (f_X10_isStory g (xL X) K len I8 J R hs8 a0 ka0 x1) mT_6_119 mT_1_10 mT_6_116 mT_6_118 mP_71 okX10_isStory ⟨by decide, by decide⟩ rfl (by show kO (K a0) = _; rw [ka0]; rfl) rfl rfl (Nat.le_of_ble_eq_true rfl) ⟨by decide, by decide⟩ dX10_struck_7 (aI0 (F := fun st M => P g X 3 10 [(0, .ref a0), (1, .int x1), (2, .int x2)] st _ _ M) (M := (K, len, I8, J, R)) fun x9_ h9 => ?_)
    have k9_0 := h9
    clear h9
    show P g X 3 10 [(0, .ref a0), (1, .int x1), (2, .int x2)] [.int x9_] _ _ (K, len, I8, J, R)
    have kq9 : x9_.toInt = 1 ∧ (0 ≤ x1.toInt ∧ x1.toInt < D 0 7) ∨ x9_.toInt = 0 ∧ ¬ (0 ≤ x1.toInt ∧ x1.toInt < D 0 7) := by rcases k9_0 with ⟨z, -⟩ | ⟨hm9, z, y⟩ <;> rw [hbm] at z <;> cases z; rw [show (I8 hm 7).toInt = _ from (mc.mv hs ka0 khm hF8 rfl).2.2.1.2.2.2.2.2.1] at y; exact y
    clear k9_0
    refine r_if_eq hC (tgt := 21) dX10_struck_10 (by decide) (fun c10 => ?_) (fun c10 => ?_)
    · refine r_aload_n hC dX10_struck_21 0 rfl ?_
      refine r_iconst hC (v := (1)) dX10_struck_22 (by decide) (by decide) (fun x11_ e11 t11 => ?_)
      refine r_callV hC (As := [.int x11_]) (rest := []) (ci := 10) (c_X10_refused g (xL X) K len I8 J R hs8 a0 ka0 x11_) mT_5_85 mT_1_10 mT_5_82 mT_5_84 mP_48 okX10_refused ⟨by decide, by decide⟩ rfl (by show kO (K a0) = _; rw [ka0]; rfl) rfl rfl (Nat.le_of_ble_eq_true rfl) ⟨by decide, by decide⟩ dX10_struck_23 (aI1 (F := fun st M => P g X 3 26 [(0, .ref a0), (1, .int x1), (2, .int x2)] st _ _ M) (M := (K, len, I8, J, R)) fun x12_ I12 h12 => ?_)
      obtain ⟨hs12, hf12, k12_0, k12_1, k12_2⟩ := h12
      show P g X 3 26 [(0, .ref a0), (1, .int x1), (2, .int x2)] [.int x12_] _ _ (K, len, I12, J, R)
      have hF12 : Fr K [(11, 0), (11, 1), (11, 2), (11, 19), (85, 999), (86, 999), (87, 999), (88, 999)] I I12 := hF8.trans hf12 rfl rfl
      exact r_iret hC hQ hlk hr rfl (by decide) (by decide) dX10_struck_26 ⟨_, _, rfl, rfl, ⟨hs12, hF12, (by first | exact Or.inl ⟨hz, by omega⟩ | exact Or.inr ⟨hm, hbm, Or.inr ⟨by omega, by omega⟩⟩ | exact Or.inr ⟨hm, hbm, Or.inl ⟨by omega, (congrArg Int32.toInt k12_0).trans (by first | (rw [if_pos (by omega)]; omega) | (rw [if_neg (by omega)]; omega))⟩⟩), (by omega)⟩⟩
    · refine r_aload_n hC dX10_struck_13 0 rfl ?_
      refine r_iload_n hC dX10_struck_14 2 rfl ?_
      refine r_callV hC (As := [.int x2]) (rest := []) (ci := 10) (f_X10_isVillage g (xL X) K len I8 J R hs8 a0 ka0 x2) mT_7_51 mT_1_10 mT_7_48 mT_7_50 mP_94 okX10_isVillage ⟨by decide, by decide⟩ rfl (by show kO (K a0) = _; rw [ka0]; rfl) rfl rfl (Nat.le_of_ble_eq_true rfl) ⟨by decide, by decide⟩ dX10_struck_15 (aI0 (F := fun st M => P g X 3 18 [(0, .ref a0), (1, .int x1), (2, .int x2)] st _ _ M) (M := (K, len, I8, J, R)) fun x13_ h13 => ?_)
      have k13_0 := h13
      clear h13
      show P g X 3 18 [(0, .ref a0), (1, .int x1), (2, .int x2)] [.int x13_] _ _ (K, len, I8, J, R)
      have kq13 : x13_.toInt = 1 ∧ (0 ≤ x2.toInt ∧ x2.toInt < D 0 8) ∨ x13_.toInt = 0 ∧ ¬ (0 ≤ x2.toInt ∧ x2.toInt < D 0 8) := by rcases k13_0 with ⟨z, -⟩ | ⟨hm9, z, y⟩ <;> rw [hbm] at z <;> cases z; rw [show (I8 hm 8).toInt = _ from (mc.mv hs ka0 khm hF8 rfl).2.2.1.2.2.2.2.2.2.1] at y; exact y
      clear k13_0
      refine r_if_ne hC (tgt := 27) dX10_struck_18 (by decide) (fun c14 => ?_) (fun c14 => ?_)
      · refine r_aload_n hC dX10_struck_27 0 rfl ?_
        refine r_iload_n hC dX10_struck_28 1 rfl ?_
        have hv15 : I8 hm 7 = S0 := (Eq.trans (up2_kk eI8 ka0 khm (by decide)) eS0.symm)
        refine r_callV hC (As := [.int x1]) (rest := []) (ci := 10) (f_X10_runsAsTold g (xL X) K len I8 J R hs8 a0 ka0 x1 hm hbm khm (by rw [hv15]; omega) lr hlr klr llr sr hsr ksr lsr ir hir kir lir wr hwr kwr lwr D E (mc.mv hs ka0 khm hF8 rfl) (by omega) (by omega)) mT_6_127 mT_1_10 mT_6_124 mT_6_126 mP_73 okX10_runsAsTold ⟨by decide, by decide⟩ rfl (by show kO (K a0) = _; rw [ka0]; rfl) rfl rfl (Nat.le_of_ble_eq_true rfl) ⟨by decide, by decide⟩ dX10_struck_29 (aV1 (F := fun st M => P g X 3 32 [(0, .ref a0), (1, .int x1), (2, .int x2)] st _ _ M) (M := (K, len, I8, J, R)) fun I16 h16 => ?_)
        obtain ⟨hs16, hf16, k16_0⟩ := h16
        show P g X 3 32 [(0, .ref a0), (1, .int x1), (2, .int x2)] [] _ _ (K, len, I16, J, R)
        have hF16 : Fr K [(11, 0), (11, 1), (11, 2), (11, 19), (85, 999), (86, 999), (87, 999), (88, 999)] I I16 := hF8.trans hf16 rfl rfl
        refine r_aload_n hC dX10_struck_32 0 rfl ?_
        refine r_aload_n hC dX10_struck_33 0 rfl ?_
        refine r_iload_n hC dX10_struck_34 2 rfl ?_
        refine r_callV hC (As := [.int x2]) (rest := [.ref a0]) (ci := 10) (f_X10_isStruck g (xL X) K len I16 J R hs16 a0 ka0 x2 hm hbm khm lr hlr klr llr sr hsr ksr lsr ir hir kir lir wr hwr kwr lwr D E (mc.mv hs ka0 khm hF16 rfl) x1.toInt.toNat (show ((x1.toInt.toNat : Nat) : Int) < D 0 7 by omega) k16_0 (by omega) (by omega)) mT_7_55 mT_1_10 mT_7_52 mT_7_54 mP_95 okX10_isStruck ⟨by decide, by decide⟩ rfl (by show kO (K a0) = _; rw [ka0]; rfl) rfl rfl (Nat.le_of_ble_eq_true rfl) ⟨by decide, by decide⟩ dX10_struck_35 (aI0 (F := fun st M => P g X 3 38 [(0, .ref a0), (1, .int x1), (2, .int x2)] st _ _ M) (M := (K, len, I16, J, R)) fun x17_ h17 => ?_)
        have k17_0 := h17
        clear h17
        show P g X 3 38 [(0, .ref a0), (1, .int x1), (2, .int x2)] [.int x17_, .ref a0] _ _ (K, len, I16, J, R)
        refine r_if_eq hC (tgt := 45) dX10_struck_38 (by decide) (fun c18 => ?_) (fun c18 => ?_)
        · refine r_iconst hC (v := (0)) dX10_struck_45 (by decide) (by decide) (fun x19_ e19 t19 => ?_)
          refine r_callV hC (As := [.int x19_]) (rest := []) (ci := 10) (c_X10_done g (xL X) K len I16 J R hs16 a0 ka0 x19_) mT_6_79 mT_1_10 mT_6_76 mT_6_78 mP_67 okX10_done ⟨by decide, by decide⟩ rfl (by show kO (K a0) = _; rw [ka0]; rfl) rfl rfl (Nat.le_of_ble_eq_true rfl) ⟨by decide, by decide⟩ dX10_struck_46 (aI1 (F := fun st M => P g X 3 49 [(0, .ref a0), (1, .int x1), (2, .int x2)] st _ _ M) (M := (K, len, I16, J, R)) fun x20_ I20 h20 => ?_)
          obtain ⟨hs20, hf20, k20_0, k20_1, k20_2⟩ := h20
          show P g X 3 49 [(0, .ref a0), (1, .int x1), (2, .int x2)] [.int x20_] _ _ (K, len, I20, J, R)
          have hF20 : Fr K [(11, 0), (11, 1), (11, 2), (11, 19), (85, 999), (86, 999), (87, 999), (88, 999)] I I20 := hF16.trans hf20 rfl rfl
          have mo20 := k16_0.mv ka0 klr ksr kir kwr hf20 rfl
          exact r_iret hC hQ hlk hr rfl (by decide) (by decide) dX10_struck_49 ⟨_, _, rfl, rfl, ⟨hs20, hF20, (by first | exact Or.inl ⟨hz, by omega⟩ | exact Or.inr ⟨hm, hbm, Or.inr ⟨by omega, by omega⟩⟩ | exact Or.inr ⟨hm, hbm, Or.inl ⟨by omega, (congrArg Int32.toInt k20_0).trans (by first | (rw [if_pos (by omega)]; omega) | (rw [if_neg (by omega)]; omega))⟩⟩), (by omega)⟩⟩
        · refine r_iconst hC (v := (1)) dX10_struck_41 (by decide) (by decide) (fun x21_ e21 t21 => ?_)
          refine r_goto hC (tgt := 46) dX10_struck_42 (by decide) ?_
          refine r_callV hC (As := [.int x21_]) (rest := []) (ci := 10) (c_X10_done g (xL X) K len I16 J R hs16 a0 ka0 x21_) mT_6_79 mT_1_10 mT_6_76 mT_6_78 mP_67 okX10_done ⟨by decide, by decide⟩ rfl (by show kO (K a0) = _; rw [ka0]; rfl) rfl rfl (Nat.le_of_ble_eq_true rfl) ⟨by decide, by decide⟩ dX10_struck_46 (aI1 (F := fun st M => P g X 3 49 [(0, .ref a0), (1, .int x1), (2, .int x2)] st _ _ M) (M := (K, len, I16, J, R)) fun x22_ I22 h22 => ?_)
          obtain ⟨hs22, hf22, k22_0, k22_1, k22_2⟩ := h22
          show P g X 3 49 [(0, .ref a0), (1, .int x1), (2, .int x2)] [.int x22_] _ _ (K, len, I22, J, R)
          have hF22 : Fr K [(11, 0), (11, 1), (11, 2), (11, 19), (85, 999), (86, 999), (87, 999), (88, 999)] I I22 := hF16.trans hf22 rfl rfl
          have mo22 := k16_0.mv ka0 klr ksr kir kwr hf22 rfl
          exact r_iret hC hQ hlk hr rfl (by decide) (by decide) dX10_struck_49 ⟨_, _, rfl, rfl, ⟨hs22, hF22, (by first | exact Or.inl ⟨hz, by omega⟩ | exact Or.inr ⟨hm, hbm, Or.inr ⟨by omega, by omega⟩⟩ | exact Or.inr ⟨hm, hbm, Or.inl ⟨by omega, (congrArg Int32.toInt k22_0).trans (by first | (rw [if_pos (by omega)]; omega) | (rw [if_neg (by omega)]; omega))⟩⟩), (by omega)⟩⟩
      · refine r_aload_n hC dX10_struck_21 0 rfl ?_
        refine r_iconst hC (v := (1)) dX10_struck_22 (by decide) (by decide) (fun x23_ e23 t23 => ?_)
        refine r_callV hC (As := [.int x23_]) (rest := []) (ci := 10) (c_X10_refused g (xL X) K len I8 J R hs8 a0 ka0 x23_) mT_5_85 mT_1_10 mT_5_82 mT_5_84 mP_48 okX10_refused ⟨by decide, by decide⟩ rfl (by show kO (K a0) = _; rw [ka0]; rfl) rfl rfl (Nat.le_of_ble_eq_true rfl) ⟨by decide, by decide⟩ dX10_struck_23 (aI1 (F := fun st M => P g X 3 26 [(0, .ref a0), (1, .int x1), (2, .int x2)] st _ _ M) (M := (K, len, I8, J, R)) fun x24_ I24 h24 => ?_)
        obtain ⟨hs24, hf24, k24_0, k24_1, k24_2⟩ := h24
        show P g X 3 26 [(0, .ref a0), (1, .int x1), (2, .int x2)] [.int x24_] _ _ (K, len, I24, J, R)
        have hF24 : Fr K [(11, 0), (11, 1), (11, 2), (11, 19), (85, 999), (86, 999), (87, 999), (88, 999)] I I24 := hF8.trans hf24 rfl rfl
        exact r_iret hC hQ hlk hr rfl (by decide) (by decide) dX10_struck_26 ⟨_, _, rfl, rfl, ⟨hs24, hF24, (by first | exact Or.inl ⟨hz, by omega⟩ | exact Or.inr ⟨hm, hbm, Or.inr ⟨by omega, by omega⟩⟩ | exact Or.inr ⟨hm, hbm, Or.inl ⟨by omega, (congrArg Int32.toInt k24_0).trans (by first | (rw [if_pos (by omega)]; omega) | (rw [if_neg (by omega)]; omega))⟩⟩), (by omega)⟩⟩
