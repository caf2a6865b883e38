def Ng (day a b : Int) : Int := if 0 < a ∧ a < b then day + b / (b - a) else -2
section ANS1
variable {D : DD} {s n : Nat} {day a b off most i j best v : Int}
theorem Nb_t (h : 0 < a ∧ a < b) : Ng day a b = day + b / (b - a) := by unfold Ng; rw [if_pos h]
theorem Nb_n (h : ¬ (0 < a ∧ a < b)) : Ng day a b = -2 := by unfold Ng; rw [if_neg h]
theorem dv_b {x y : Int} (h : 0 ≤ x) (hy : 0 < y) : 0 ≤ x / y ∧ x / y ≤ x := ⟨Int.ediv_nonneg h (by omega), Int.ediv_le_self _ h⟩
end ANS1
set_option maxHeartbeats 4000000 in
set_option maxRecDepth 100000 in
theorem f_X8_noughtBy (g : GG) (l : Launch) (K len : Nat → Nat) (I : Nat → Nat → Int32) (J : Nat → Nat → Int64) (R : Nat → Nat → Option Nat) (hs : Sf K len I R) (x0 : Int32) (x1 : Int32) (x2 : Int32) (p0 : 0 ≤ x0.toInt ∧ x0.toInt ≤ 59) (p1 : -40 ≤ x1.toInt ∧ x1.toInt ≤ 31000) (p2 : -40 ≤ x2.toInt ∧ x2.toInt ≤ 31000) : Ct g l yX8_noughtBy cX8_noughtBy 3 (Option.some Jvm.ClassFile.FieldType.int) rmX8_noughtBy [.int x0, .int x1, .int x2] (K, len, I, J, R) (pI0 (K, len, I, J, R) (fun r => (r.toInt = Ng x0.toInt x1.toInt x2.toInt) ∧ (-2 ≤ r.toInt ∧ r.toInt ≤ 32000))) := by
  refine Ct_intro (by decide +kernel) (Nat.le_of_ble_eq_true rfl) (fun X hC hL hKK hNm hr hlk hQ => ?_)
  subst hL
  have hC : Cx g X cX8_noughtBy "HillTap" 3 rmX8_noughtBy := hC
  show P g X 3 0 [(0, .int x0), (1, .int x1), (2, .int x2)] [] 0 0 (K, len, I, J, R)
  have hF : Fr K [] I I := Fr.refl
  have b_x0 := ti_rng x0
  have b_x1 := ti_rng x1
  have b_x2 := ti_rng x2
  refine r_iload_n hC dX8_noughtBy_0 1 rfl ?_
  refine r_if_le hC (tgt := 9) dX8_noughtBy_1 (by decide) (fun c1 => ?_) (fun c1 => ?_)
  · refine r_bipush hC (v := (-2)) dX8_noughtBy_9 (by decide) (by decide) (fun x2_ e2 t2 => ?_)
    exact r_iret hC hQ hlk hr rfl (by decide) (by decide) dX8_noughtBy_11 ⟨_, rfl, rfl, ⟨(by first | (rw [Nb_n (by omega)]; omega) | (rw [Nb_t (by omega), show x2.toInt - x1.toInt = NOnd.toInt by omega, ← tdNOnq]; omega)), (by omega)⟩⟩
  · refine r_iload_n hC dX8_noughtBy_4 2 rfl ?_
    refine r_iload_n hC dX8_noughtBy_5 1 rfl ?_
    refine r_icmp_gt hC (tgt := 12) dX8_noughtBy_6 (by decide) (fun c3 => ?_) (fun c3 => ?_)
    · refine r_iload_n hC dX8_noughtBy_12 0 rfl ?_
      refine r_iload_n hC dX8_noughtBy_13 2 rfl ?_
      refine r_iload_n hC dX8_noughtBy_14 2 rfl ?_
      refine r_iload_n hC dX8_noughtBy_15 1 rfl ?_
      refine r_isub hC dX8_noughtBy_16 (fun x4_ e4 => ?_)
      try have t4 : x4_.toInt = x2.toInt - x1.toInt := by rw [e4]; exact ti_sub (by omega) (by omega)
      refine r_idiv hC dX8_noughtBy_17 (ne_0 (by omega)) (fun x5_ e5 => ?_)
      have td5 : x5_.toInt = x2.toInt / x4_.toInt := by rw [e5]; exact ti_div (by omega) (by omega)
      have qb : 0 ≤ x5_.toInt ∧ x5_.toInt ≤ x2.toInt := by rw [td5]; exact dv_b (by omega) (by omega)
      refine r_iadd hC dX8_noughtBy_18 (fun x6_ e6 => ?_)
      try have t6 : x6_.toInt = x0.toInt + x5_.toInt := by rw [e6]; exact ti_add (by omega) (by omega)
      exact r_iret hC hQ hlk hr rfl (by decide) (by decide) dX8_noughtBy_19 ⟨_, rfl, rfl, ⟨(by first | (rw [Nb_n (by omega)]; omega) | (rw [Nb_t (by omega), show x2.toInt - x1.toInt = x4_.toInt by omega, ← td5]; omega)), (by omega)⟩⟩
    · refine r_bipush hC (v := (-2)) dX8_noughtBy_9 (by decide) (by decide) (fun x7_ e7 t7 => ?_)
      exact r_iret hC hQ hlk hr rfl (by decide) (by decide) dX8_noughtBy_11 ⟨_, rfl, rfl, ⟨(by first | (rw [Nb_n (by omega)]; omega) | (rw [Nb_t (by omega), show x2.toInt - x1.toInt = NOnd.toInt by omega, ← tdNOnq]; omega)), (by omega)⟩⟩
set_option maxHeartbeats 4000000 in
set_option maxRecDepth 100000 in
theorem f_X10_noughtBy (g : GG) (l : Launch) (K len : Nat → Nat) (I : Nat → Nat → Int32) (J : Nat → Nat → Int64) (R : Nat → Nat → Option Nat) (hs : Sf K len I R) (x0 : Int32) (x1 : Int32) (x2 : Int32) (p0 : 0 ≤ x0.toInt ∧ x0.toInt ≤ 59) (p1 : -40 ≤ x1.toInt ∧ x1.toInt ≤ 31000) (p2 : -40 ≤ x2.toInt ∧ x2.toInt ≤ 31000) : Ct g l yX10_noughtBy cX10_noughtBy 3 (Option.some Jvm.ClassFile.FieldType.int) rmX10_noughtBy [.int x0, .int x1, .int x2] (K, len, I, J, R) (pI0 (K, len, I, J, R) (fun r => (r.toInt = Ng x0.toInt x1.toInt x2.toInt) ∧ (-2 ≤ r.toInt ∧ r.toInt ≤ 32000))) := by
  refine Ct_intro (by decide +kernel) (Nat.le_of_ble_eq_true rfl) (fun X hC hL hKK hNm hr hlk hQ => ?_)
  subst hL
  have hC : Cx g X cX10_noughtBy "HillTapModel" 3 rmX10_noughtBy := hC
  show P g X 3 0 [(0, .int x0), (1, .int x1), (2, .int x2)] [] 0 0 (K, len, I, J, R)
  have hF : Fr K [] I I := Fr.refl
  have b_x0 := ti_rng x0
  have b_x1 := ti_rng x1
  have b_x2 := ti_rng x2
  refine r_iload_n hC dX10_noughtBy_0 1 rfl ?_
  refine r_if_le hC (tgt := 19) dX10_noughtBy_1 (by decide) (fun c1 => ?_) (fun c1 => ?_)
  · refine r_bipush hC (v := (-2)) dX10_noughtBy_19 (by decide) (by decide) (fun x2_ e2 t2 => ?_)
    exact r_iret hC hQ hlk hr rfl (by decide) (by decide) dX10_noughtBy_21 ⟨_, rfl, rfl, ⟨(by first | (rw [Nb_n (by omega)]; omega) | (rw [Nb_t (by omega), show x2.toInt - x1.toInt = NOnd.toInt by omega, ← tdNOnq]; omega)), (by omega)⟩⟩
  · refine r_iload_n hC dX10_noughtBy_4 2 rfl ?_
    refine r_iload_n hC dX10_noughtBy_5 1 rfl ?_
    refine r_icmp_le hC (tgt := 19) dX10_noughtBy_6 (by decide) (fun c3 => ?_) (fun c3 => ?_)
    · refine r_bipush hC (v := (-2)) dX10_noughtBy_19 (by decide) (by decide) (fun x4_ e4 t4 => ?_)
      exact r_iret hC hQ hlk hr rfl (by decide) (by decide) dX10_noughtBy_21 ⟨_, rfl, rfl, ⟨(by first | (rw [Nb_n (by omega)]; omega) | (rw [Nb_t (by omega), show x2.toInt - x1.toInt = NOnd.toInt by omega, ← tdNOnq]; omega)), (by omega)⟩⟩
    · refine r_iload_n hC dX10_noughtBy_9 0 rfl ?_
      refine r_iload_n hC dX10_noughtBy_10 2 rfl ?_
      refine r_iload_n hC dX10_noughtBy_11 2 rfl ?_
      refine r_iload_n hC dX10_noughtBy_12 1 rfl ?_
      refine r_isub hC dX10_noughtBy_13 (fun x5_ e5 => ?_)
      try have t5 : x5_.toInt = x2.toInt - x1.toInt := by rw [e5]; exact ti_sub (by omega) (by omega)
      refine r_idiv hC dX10_noughtBy_14 (ne_0 (by omega)) (fun x6_ e6 => ?_)
      have td6 : x6_.toInt = x2.toInt / x5_.toInt := by rw [e6]; exact ti_div (by omega) (by omega)
      have qb : 0 ≤ x6_.toInt ∧ x6_.toInt ≤ x2.toInt := by rw [td6]; exact dv_b (by omega) (by omega)
      refine r_iadd hC dX10_noughtBy_15 (fun x7_ e7 => ?_)
      try have t7 : x7_.toInt = x0.toInt + x6_.toInt := by rw [e7]; exact ti_add (by omega) (by omega)
      refine r_goto hC (tgt := 21) dX10_noughtBy_16 (by decide) ?_
      exact r_iret hC hQ hlk hr rfl (by decide) (by decide) dX10_noughtBy_21 ⟨_, rfl, rfl, ⟨(by first | (rw [Nb_n (by omega)]; omega) | (rw [Nb_t (by omega), show x2.toInt - x1.toInt = x5_.toInt by omega, ← td6]; omega)), (by omega)⟩⟩
set_option maxHeartbeats 4000000 in
set_option maxRecDepth 100000 in
theorem a_X8_nought (g : GG) (l : Launch) (K len : Nat → Nat) (I : Nat → Nat → Int32) (J : Nat → Nat → Int64) (R : Nat → Nat → Option Nat) (hs : Sf K len I R) (a0 : Nat) (ka0 : K a0 = 9) (x1 : Int32) (x2 : Int32) (x3 : Int32) (h : Nat) (hh : R a0 2 = some h) (kh : K h = 2) (lk : Nat) (hlk2 : R h 0 = some lk) (klk : K lk = 3) (rd : Nat) (hrd : R a0 9 = some rd) (krd : K rd = 4) (lv : Nat) (hlv : R a0 4 = some lv) (klv : K lv = 41) (llv : len lv = 60) (kn : Nat) (hkn : R a0 6 = some kn) (kkn : K kn = 43) (lkn : len kn = 6) (cr : Nat) (hcr : R a0 5 = some cr) (kcr1 : K cr = 44) (lcr : len cr = 6) (hu : UU K R) (D : DD) (E : Nat → Nat → Int) (hc : KC D E a0 h lk rd I R) : Ct g l yX8_nought cX8_nought 7 (Option.some Jvm.ClassFile.FieldType.int) rmX8_nought [.ref a0, .int x1, .int x2, .int x3] (K, len, I, J, R) (pI1 (K, len, I, J, R) (fun r I' => Sf K len I' R ∧ Fr K [(1, 5), (1, 6), (9, 12), (43, 999), (50, 999), (51, 999), (52, 999), (53, 999), (54, 999)] I I' ∧ (KC D E a0 h lk rd I' R) ∧ (((0 ≤ x1.toInt ∧ x1.toInt < D 0 7) ∧ (0 ≤ x2.toInt ∧ x2.toInt < D 0 5) ∧ 0 ≤ x3.toInt ∧ x3.toInt ≤ 58) ∧ r.toInt = Ng x3.toInt (SV D x1.toInt.toNat (Ad D x1.toInt.toNat (LP1 D) 1) x3.toInt.toNat x2.toInt.toNat) (SV D x1.toInt.toNat (Ad D x1.toInt.toNat (LP1 D) 1) (x3.toInt.toNat + 1) x2.toInt.toNat) ∨ ¬ ((0 ≤ x1.toInt ∧ x1.toInt < D 0 7) ∧ (0 ≤ x2.toInt ∧ x2.toInt < D 0 5) ∧ 0 ≤ x3.toInt ∧ x3.toInt ≤ 58) ∧ r.toInt = -1) ∧ ((I' a0 12).toInt ≠ 4))) := by
  refine Ct_intro (by decide +kernel) (Nat.le_of_ble_eq_true rfl) (fun X hC hL hKK hNm hr hlk hQ => ?_)
  subst hL
  have hC : Cx g X cX8_nought "HillTap" 7 rmX8_nought := hC
  show P g X 7 0 [(0, .ref a0), (1, .int x1), (2, .int x2), (3, .int x3)] [] 0 0 (K, len, I, J, R)
  have hF : Fr K [(1, 5), (1, 6), (9, 12), (43, 999), (50, 999), (51, 999), (52, 999), (53, 999), (54, 999)] I I := Fr.refl
  have ka : KA a0 h lk rd K len R := ⟨⟨_, hs⟩, hu, ka0, kh, klk, krd⟩
  obtain ⟨sd1, sd2, sd3, sd4, sd5, sd7, sd8, sd9⟩ := id hc.2.1
  have d7b := hs.rng kh (k := 6) rfl (x := I h 6) rfl
  have d5b := hs.rng kh (k := 1) rfl (x := I h 1) rfl
  have d8b := hs.rng kh (k := 8) rfl (x := I h 8) rfl
  have b_x1 := ti_rng x1
  have b_x2 := ti_rng x2
  have b_x3 := ti_rng x3
  refine r_aload_n hC dX8_nought_0 0 rfl ?_
  refine r_iload_n hC dX8_nought_1 1 rfl ?_
  refine r_iload_n hC dX8_nought_2 2 rfl ?_
  refine r_iload_n hC dX8_nought_3 3 rfl ?_
  refine r_callV hC (As := [.int x1, .int x2, .int x3]) (rest := []) (ci := 8) (f_X8_isPegDay g (xL X) K len I J R hs a0 ka0 x1 x2 x3 h hh kh) mT_3_151 mT_1_1 mT_3_148 mT_3_150 mP_23 okX8_isPegDay ⟨by decide, by decide⟩ rfl (by show kO (K a0) = _; rw [ka0]; rfl) rfl rfl (Nat.le_of_ble_eq_true rfl) ⟨by decide, by decide⟩ dX8_nought_4 (aI0 (F := fun st M => P g X 7 7 [(0, .ref a0), (1, .int x1), (2, .int x2), (3, .int x3)] st _ _ M) (M := (K, len, I, J, R)) fun x1_ h1 => ?_)
  have k1_0 := h1
  clear h1
  show P g X 7 7 [(0, .ref a0), (1, .int x1), (2, .int x2), (3, .int x3)] [.int x1_] _ _ (K, len, I, J, R)
  rcases k1_0 with ⟨hr1, hw1⟩ | ⟨hr1, hw1⟩
  · refine r_if_eq hC (tgt := 16) dX8_nought_7 (by decide) (fun c2 => ?_) (fun c2 => ?_)
    · exfalso; omega
    refine r_iload_n hC dX8_nought_10 3 rfl ?_
    refine r_bipush hC (v := (59)) dX8_nought_11 (by decide) (by decide) (fun x3_ e3 t3 => ?_)
    refine r_icmp_lt hC (tgt := 22) dX8_nought_13 (by decide) (fun c4 => ?_) (fun c4 => ?_)
    · refine r_aload_n hC dX8_nought_22 0 rfl ?_
      refine r_iload_n hC dX8_nought_23 1 rfl ?_
      refine r_callV hC (As := [.int x1]) (rest := []) (ci := 8) (f_X8_courseOf g (xL X) K len I J R hs a0 ka0 x1 h hh kh lk hlk2 klk rd hrd krd lv hlv klv llv kn hkn kkn lkn cr hcr kcr1 lcr hu D E hc (by omega) (by omega)) mT_3_163 mT_1_1 mT_3_160 mT_3_162 mP_26 okX8_courseOf ⟨by decide, by decide⟩ rfl (by show kO (K a0) = _; rw [ka0]; rfl) rfl rfl (Nat.le_of_ble_eq_true rfl) ⟨by decide, by decide⟩ dX8_nought_24 (aR1 (F := fun st M => P g X 7 27 [(0, .ref a0), (1, .int x1), (2, .int x2), (3, .int x3)] st _ _ M) (M := (K, len, I, J, R)) fun a5_ I5 h5 => ?_)
      obtain ⟨hs5, hf5, k5_0, k5_1, k5_2, k5_3, k5_4⟩ := h5
      show P g X 7 27 [(0, .ref a0), (1, .int x1), (2, .int x2), (3, .int x3)] [.ref a5_] _ _ (K, len, I5, J, R)
      have hF5 : Fr K [(1, 5), (1, 6), (9, 12), (43, 999), (50, 999), (51, 999), (52, 999), (53, 999), (54, 999)] I I5 := hF.trans hf5 rfl rfl
      refine r_astore hC (lv' := [(4, .ref a5_), (0, .ref a0), (1, .int x1), (2, .int x2), (3, .int x3)]) dX8_nought_27 (by decide) rfl ?_
      refine r_aload hC dX8_nought_29 0 rfl ?_
      obtain ⟨a6_, hb6, hk6, hn6⟩ := hs5.row k5_0 0 50 300 (by decide) (by decide)
      refine r_getr hC 0 (ci := 0) rfl u0_in (by decide) mT_2_26 dX8_nought_31 k5_0 rfl rfl hb6 ?_
      refine r_iload_n hC dX8_nought_34 3 rfl ?_
      refine r_iload_n hC dX8_nought_35 4 rfl ?_
      refine r_callS hC (As := [.int x2, .int x3]) (rest := [.ref a6_]) (c_X8_row g (xL X) K len I5 J R hs5 x2 x3 (by omega) (by omega) (by omega) (by omega)) mT_3_192 mT_1_1 mT_3_197 mT_3_191 okX8_row ⟨by decide, by decide⟩ rfl rfl (Nat.le_of_ble_eq_true rfl) ⟨by decide, by decide⟩ dX8_nought_36 (aI0 (F := fun st M => P g X 7 39 [(4, .ref a5_), (0, .ref a0), (1, .int x1), (2, .int x2), (3, .int x3)] st _ _ M) (M := (K, len, I5, J, R)) fun x7_ h7 => ?_)
      have k7_0 := h7
      clear h7
      show P g X 7 39 [(4, .ref a5_), (0, .ref a0), (1, .int x1), (2, .int x2), (3, .int x3)] [.int x7_, .ref a6_] _ _ (K, len, I5, J, R)
      refine x_iaload hC hk6 hn6 (by decide) rfl rfl dX8_nought_39 (by omega) (by omega) (fun x8_ e8 => ?_)
      have q8 : x8_.toInt = SV D x1.toInt.toNat (Ad D x1.toInt.toNat (LP1 D) 1) x3.toInt.toNat x2.toInt.toNat := by rw [e8, clx (i := x7_) rfl (by omega), show x7_.toInt.toNat = 60 * x2.toInt.toNat + x3.toInt.toNat by omega]; exact k5_3.spd hs k5_0 hb6 (by omega) (by omega)
      have jb8 := k5_2.svb (s := x1.toInt.toNat) (by omega) (w2 := 1) x3.toInt.toNat x2.toInt.toNat
      refine r_istore hC (lv' := [(5, .int x8_), (4, .ref a5_), (0, .ref a0), (1, .int x1), (2, .int x2), (3, .int x3)]) dX8_nought_40 (by decide) rfl ?_
      refine r_aload hC dX8_nought_42 1 rfl ?_
      refine r_getr hC 0 (ci := 0) rfl u0_in (by decide) mT_2_26 dX8_nought_44 k5_0 rfl rfl hb6 ?_
      refine r_iload_n hC dX8_nought_47 4 rfl ?_
      refine r_iload_n hC dX8_nought_48 5 rfl ?_
      refine r_iconst hC (v := (1)) dX8_nought_49 (by decide) (by decide) (fun x9_ e9 t9 => ?_)
      refine r_iadd hC dX8_nought_50 (fun x10_ e10 => ?_)
      try have t10 : x10_.toInt = x3.toInt + x9_.toInt := by rw [e10]; exact ti_add (by omega) (by omega)
      refine r_callS hC (As := [.int x2, .int x10_]) (rest := [.ref a6_]) (c_X8_row g (xL X) K len I5 J R hs5 x2 x10_ (by omega) (by omega) (by omega) (by omega)) mT_3_192 mT_1_1 mT_3_197 mT_3_191 okX8_row ⟨by decide, by decide⟩ rfl rfl (Nat.le_of_ble_eq_true rfl) ⟨by decide, by decide⟩ dX8_nought_51 (aI0 (F := fun st M => P g X 7 54 [(5, .int x8_), (4, .ref a5_), (0, .ref a0), (1, .int x1), (2, .int x2), (3, .int x3)] st _ _ M) (M := (K, len, I5, J, R)) fun x11_ h11 => ?_)
      have k11_0 := h11
      clear h11
      show P g X 7 54 [(5, .int x8_), (4, .ref a5_), (0, .ref a0), (1, .int x1), (2, .int x2), (3, .int x3)] [.int x11_, .ref a6_] _ _ (K, len, I5, J, R)
      refine x_iaload hC hk6 hn6 (by decide) rfl rfl dX8_nought_54 (by omega) (by omega) (fun x12_ e12 => ?_)
      have q12 : x12_.toInt = SV D x1.toInt.toNat (Ad D x1.toInt.toNat (LP1 D) 1) x10_.toInt.toNat x2.toInt.toNat := by rw [e12, clx (i := x11_) rfl (by omega), show x11_.toInt.toNat = 60 * x2.toInt.toNat + x10_.toInt.toNat by omega]; exact k5_3.spd hs k5_0 hb6 (by omega) (by omega)
      have jb12 := k5_2.svb (s := x1.toInt.toNat) (by omega) (w2 := 1) x10_.toInt.toNat x2.toInt.toNat
      have qbn : x12_.toInt = SV D x1.toInt.toNat (Ad D x1.toInt.toNat (LP1 D) 1) (x3.toInt.toNat + 1) x2.toInt.toNat := by rw [← show x10_.toInt.toNat = x3.toInt.toNat + 1 by omega]; exact q12
      refine r_istore hC (lv' := [(6, .int x12_), (5, .int x8_), (4, .ref a5_), (0, .ref a0), (1, .int x1), (2, .int x2), (3, .int x3)]) dX8_nought_55 (by decide) rfl ?_
      refine r_aload_n hC dX8_nought_57 3 rfl ?_
      refine r_iload_n hC dX8_nought_58 6 rfl ?_
      refine r_iload hC dX8_nought_59 1 rfl ?_
      refine r_iload hC dX8_nought_61 0 rfl ?_
      refine r_callS hC (As := [.int x3, .int x8_, .int x12_]) (rest := [.ref a0]) (f_X8_noughtBy g (xL X) K len I5 J R hs5 x3 x8_ x12_ (by omega) (by omega) (by omega)) mT_4_62 mT_1_1 mT_4_60 mT_4_61 okX8_noughtBy ⟨by decide, by decide⟩ rfl rfl (Nat.le_of_ble_eq_true rfl) ⟨by decide, by decide⟩ dX8_nought_63 (aI0 (F := fun st M => P g X 7 66 [(6, .int x12_), (5, .int x8_), (4, .ref a5_), (0, .ref a0), (1, .int x1), (2, .int x2), (3, .int x3)] st _ _ M) (M := (K, len, I5, J, R)) fun x13_ h13 => ?_)
      obtain ⟨k13_0, k13_1⟩ := h13
      show P g X 7 66 [(6, .int x12_), (5, .int x8_), (4, .ref a5_), (0, .ref a0), (1, .int x1), (2, .int x2), (3, .int x3)] [.int x13_, .ref a0] _ _ (K, len, I5, J, R)
      have lqn : x13_.toInt = Ng x3.toInt (SV D x1.toInt.toNat (Ad D x1.toInt.toNat (LP1 D) 1) x3.toInt.toNat x2.toInt.toNat) (SV D x1.toInt.toNat (Ad D x1.toInt.toNat (LP1 D) 1) (x3.toInt.toNat + 1) x2.toInt.toNat) := by rw [k13_0, ← q8, ← qbn]
      refine r_callV hC (As := [.int x13_]) (rest := []) (ci := 8) (c_X8_answer g (xL X) K len I5 J R hs5 a0 ka0 x13_) mT_3_115 mT_1_1 mT_3_112 mT_3_114 mP_21 okX8_answer ⟨by decide, by decide⟩ rfl (by show kO (K a0) = _; rw [ka0]; rfl) rfl rfl (Nat.le_of_ble_eq_true rfl) ⟨by decide, by decide⟩ dX8_nought_66 (aI1 (F := fun st M => P g X 7 69 [(6, .int x12_), (5, .int x8_), (4, .ref a5_), (0, .ref a0), (1, .int x1), (2, .int x2), (3, .int x3)] st _ _ M) (M := (K, len, I5, J, R)) fun x14_ I14 h14 => ?_)
      obtain ⟨hs14, hf14, k14_0, k14_1⟩ := h14
      show P g X 7 69 [(6, .int x12_), (5, .int x8_), (4, .ref a5_), (0, .ref a0), (1, .int x1), (2, .int x2), (3, .int x3)] [.int x14_] _ _ (K, len, I14, J, R)
      have hF14 : Fr K [(1, 5), (1, 6), (9, 12), (43, 999), (50, 999), (51, 999), (52, 999), (53, 999), (54, 999)] I I14 := hF5.trans hf14 rfl rfl
      have hc14 := k5_2.mv ka hf14 rfl
      have coa5__14 := k5_3.mv hs k5_0 hf14 rfl
      exact r_iret hC hQ hlk hr rfl (by decide) (by decide) dX8_nought_69 ⟨_, _, rfl, rfl, ⟨hs14, hF14, (by exact hc14), (by first | exact Or.inr ⟨by omega, by omega⟩ | exact Or.inl ⟨by omega, (congrArg Int32.toInt k14_0).trans lqn⟩), (by omega)⟩⟩
    · refine r_aload_n hC dX8_nought_16 0 rfl ?_
      refine r_iconst hC (v := (1)) dX8_nought_17 (by decide) (by decide) (fun x15_ e15 t15 => ?_)
      refine r_callV hC (As := [.int x15_]) (rest := []) (ci := 8) (c_X8_refuse g (xL X) K len I J R hs a0 ka0 x15_) mT_2_133 mT_1_1 mT_2_130 mT_2_132 mP_0 okX8_refuse ⟨by decide, by decide⟩ rfl (by show kO (K a0) = _; rw [ka0]; rfl) rfl rfl (Nat.le_of_ble_eq_true rfl) ⟨by decide, by decide⟩ dX8_nought_18 (aI1 (F := fun st M => P g X 7 21 [(0, .ref a0), (1, .int x1), (2, .int x2), (3, .int x3)] st _ _ M) (M := (K, len, I, J, R)) fun x16_ I16 h16 => ?_)
      obtain ⟨hs16, hf16, k16_0, k16_1⟩ := h16
      show P g X 7 21 [(0, .ref a0), (1, .int x1), (2, .int x2), (3, .int x3)] [.int x16_] _ _ (K, len, I16, J, R)
      have hF16 : Fr K [(1, 5), (1, 6), (9, 12), (43, 999), (50, 999), (51, 999), (52, 999), (53, 999), (54, 999)] I I16 := hF.trans hf16 rfl rfl
      have hc16 := hc.mv ka hf16 rfl
      exact r_iret hC hQ hlk hr rfl (by decide) (by decide) dX8_nought_21 ⟨_, _, rfl, rfl, ⟨hs16, hF16, (by exact hc16), (by first | exact Or.inr ⟨by omega, by omega⟩ | exact Or.inl ⟨by omega, (congrArg Int32.toInt k16_0).trans NOlq⟩), (by omega)⟩⟩
  · refine r_if_eq hC (tgt := 16) dX8_nought_7 (by decide) (fun c17 => ?_) (fun c17 => ?_)
    rotate_left
    · exfalso; omega
    refine r_aload_n hC dX8_nought_16 0 rfl ?_
    refine r_iconst hC (v := (1)) dX8_nought_17 (by decide) (by decide) (fun x18_ e18 t18 => ?_)
    refine r_callV hC (As := [.int x18_]) (rest := []) (ci := 8) (c_X8_refuse g (xL X) K len I J R hs a0 ka0 x18_) mT_2_133 mT_1_1 mT_2_130 mT_2_132 mP_0 okX8_refuse ⟨by decide, by decide⟩ rfl (by show kO (K a0) = _; rw [ka0]; rfl) rfl rfl (Nat.le_of_ble_eq_true rfl) ⟨by decide, by decide⟩ dX8_nought_18 (aI1 (F := fun st M => P g X 7 21 [(0, .ref a0), (1, .int x1), (2, .int x2), (3, .int x3)] st _ _ M) (M := (K, len, I, J, R)) fun x19_ I19 h19 => ?_)
    obtain ⟨hs19, hf19, k19_0, k19_1⟩ := h19
    show P g X 7 21 [(0, .ref a0), (1, .int x1), (2, .int x2), (3, .int x3)] [.int x19_] _ _ (K, len, I19, J, R)
    have hF19 : Fr K [(1, 5), (1, 6), (9, 12), (43, 999), (50, 999), (51, 999), (52, 999), (53, 999), (54, 999)] I I19 := hF.trans hf19 rfl rfl
    have hc19 := hc.mv ka hf19 rfl
    exact r_iret hC hQ hlk hr rfl (by decide) (by decide) dX8_nought_21 ⟨_, _, rfl, rfl, ⟨hs19, hF19, (by exact hc19), (by first | exact Or.inr ⟨by omega, by omega⟩ | exact Or.inl ⟨by omega, (congrArg Int32.toInt k19_0).trans NOlq⟩), (by omega)⟩⟩
set_option maxHeartbeats 4000000 in
set_option maxRecDepth 100000 in
theorem f_X10_isLine (g : GG) (l : Launch) (K len : Nat → Nat) (I : Nat → Nat → Int32) (J : Nat → Nat → Int64) (R : Nat → Nat → Option Nat) (hs : Sf K len I R) (a0 : Nat) (ka0 : K a0 = 11) (x1 : Int32) (x2 : Int32) (x3 : Int32) (D : DD) (E : Nat → Nat → Int) (hmx : ∀ hm, R a0 3 = some hm → MC D E a0 hm I R) : Ct g l yX10_isLine cX10_isLine 4 (Option.some Jvm.ClassFile.FieldType.boolean) rmX10_isLine [.ref a0, .int x1, .int x2, .int x3] (K, len, I, J, R) (pI0 (K, len, I, J, R) (fun r => ((R a0 3 = none ∧ r.toInt = 0) ∨ (∃ hm, R a0 3 = some hm ∧ (r.toInt = 1 ∧ ((0 ≤ x1.toInt ∧ x1.toInt < D 0 7) ∧ (0 ≤ x2.toInt ∧ x2.toInt < D 0 5) ∧ 0 ≤ x3.toInt ∧ x3.toInt ≤ 58) ∨ r.toInt = 0 ∧ ¬ ((0 ≤ x1.toInt ∧ x1.toInt < D 0 7) ∧ (0 ≤ x2.toInt ∧ x2.toInt < D 0 5) ∧ 0 ≤ x3.toInt ∧ x3.toInt ≤ 58)))))) := by
  refine Ct_intro (by decide +kernel) (Nat.le_of_ble_eq_true rfl) (fun X hC hL hKK hNm hr hlk hQ => ?_)
  subst hL
  have hC : Cx g X cX10_isLine "HillTapModel" 4 rmX10_isLine := hC
  show P g X 4 0 [(0, .ref a0), (1, .int x1), (2, .int x2), (3, .int x3)] [] 0 0 (K, len, I, J, R)
  have hF : Fr K [] I I := Fr.refl
  have b_x1 := ti_rng x1
  have b_x2 := ti_rng x2
  have b_x3 := ti_rng x3
  rcases hs.2.1.2.2.1 a0 ka0 with hz | ⟨hm, hbm, khm⟩
  · refine r_aload_n hC dX10_isLine_0 0 rfl ?_
    refine r_iload_n hC dX10_isLine_1 1 rfl ?_
    refine r_callV hC (As := [.int x1]) (rest := []) (ci := 10) (f_X10_isStory g (xL X) K len I J R hs a0 ka0 x1) mT_6_119 mT_1_10 mT_6_116 mT_6_118 mP_71 okX10_isStory ⟨by decide, by decide⟩ rfl (by show kO (K a0) = _; rw [ka0]; rfl) rfl rfl (Nat.le_of_ble_eq_true rfl) ⟨by decide, by decide⟩ dX10_isLine_2 (aI0 (F := fun st M => P g X 4 5 [(0, .ref a0), (1, .int x1), (2, .int x2), (3, .int x3)] st _ _ M) (M := (K, len, I, J, R)) fun x1_ h1 => ?_)
    have k1_0 := h1
    clear h1
    show P g X 4 5 [(0, .ref a0), (1, .int x1), (2, .int x2), (3, .int x3)] [.int x1_] _ _ (K, len, I, J, R)
    have kq1 : x1_.toInt = 0 := by rcases k1_0 with ⟨z, y⟩ | ⟨hm9, z, y⟩; exact y; rw [hz] at z; cases z
    clear k1_0
    refine r_if_eq hC (tgt := 30) dX10_isLine_5 (by decide) (fun c2 => ?_) (fun c2 => ?_)
    rotate_left
    · exfalso; omega
    refine r_iconst hC (v := (0)) dX10_isLine_30 (by decide) (by decide) (fun x3_ e3 t3 => ?_)
    exact r_iret hC hQ hlk hr (by rw [e3]; rfl) (by decide) (by decide) dX10_isLine_31 ⟨_, rfl, rfl, (by first | exact Or.inl ⟨hz, by omega⟩ | exact Or.inr ⟨hm, hbm, by omega⟩)⟩
  · obtain ⟨S0, eS0⟩ : ∃ z : Int32, z = I hm 7 := ⟨_, rfl⟩
    have fS0 : S0.toInt = (I hm 7).toInt := by rw [eS0]
    have rS0 := hs.rng khm rfl eS0
    have mc := hmx hm hbm
    obtain ⟨⟨hJ, hR6, hD7⟩, rwm, ⟨hd1, hd2, hd3, hd4, hd5, hd7, hd8, hd9⟩, -⟩ := id mc
    have hcx := CM_x hs khm
    have b5 := hs.rng khm (k := 3) rfl (x := I hm 3) rfl
    have b7 := hs.rng khm (k := 7) rfl (x := I hm 7) rfl
    have b8 := hs.rng khm (k := 8) rfl (x := I hm 8) rfl
    have b20 := hs.rng ka0 (k := 20) rfl (x := I a0 20) rfl
    refine r_aload_n hC dX10_isLine_0 0 rfl ?_
    refine r_iload_n hC dX10_isLine_1 1 rfl ?_
    refine r_callV hC (As := [.int x1]) (rest := []) (ci := 10) (f_X10_isStory g (xL X) K len I J R hs a0 ka0 x1) mT_6_119 mT_1_10 mT_6_116 mT_6_118 mP_71 okX10_isStory ⟨by decide, by decide⟩ rfl (by show kO (K a0) = _; rw [ka0]; rfl) rfl rfl (Nat.le_of_ble_eq_true rfl) ⟨by decide, by decide⟩ dX10_isLine_2 (aI0 (F := fun st M => P g X 4 5 [(0, .ref a0), (1, .int x1), (2, .int x2), (3, .int x3)] st _ _ M) (M := (K, len, I, J, R)) fun x4_ h4 => ?_)
    have k4_0 := h4
    clear h4
    show P g X 4 5 [(0, .ref a0), (1, .int x1), (2, .int x2), (3, .int x3)] [.int x4_] _ _ (K, len, I, J, R)
    have kq4 : x4_.toInt = 1 ∧ (0 ≤ x1.toInt ∧ x1.toInt < D 0 7) ∨ x4_.toInt = 0 ∧ ¬ (0 ≤ x1.toInt ∧ x1.toInt < D 0 7) := by rcases k4_0 with ⟨z, -⟩ | ⟨hm9, z, y⟩ <;> rw [hbm] at z <;> cases z; rw [show (I hm 7).toInt = _ from mc.2.2.1.2.2.2.2.2.1] at y; exact y
    clear k4_0
    refine r_if_eq hC (tgt := 30) dX10_isLine_5 (by decide) (fun c5 => ?_) (fun c5 => ?_)
    · refine r_iconst hC (v := (0)) dX10_isLine_30 (by decide) (by decide) (fun x6_ e6 t6 => ?_)
      exact r_iret hC hQ hlk hr (by rw [e6]; rfl) (by decide) (by decide) dX10_isLine_31 ⟨_, rfl, rfl, (by first | exact Or.inl ⟨hz, by omega⟩ | exact Or.inr ⟨hm, hbm, by omega⟩)⟩
    · refine r_aload_n hC dX10_isLine_8 0 rfl ?_
      refine r_iload_n hC dX10_isLine_9 2 rfl ?_
      refine r_callV hC (As := [.int x2]) (rest := []) (ci := 10) (f_X10_isPeg g (xL X) K len I J R hs a0 ka0 x2) mT_6_123 mT_1_10 mT_6_120 mT_6_122 mP_72 okX10_isPeg ⟨by decide, by decide⟩ rfl (by show kO (K a0) = _; rw [ka0]; rfl) rfl rfl (Nat.le_of_ble_eq_true rfl) ⟨by decide, by decide⟩ dX10_isLine_10 (aI0 (F := fun st M => P g X 4 13 [(0, .ref a0), (1, .int x1), (2, .int x2), (3, .int x3)] st _ _ M) (M := (K, len, I, J, R)) fun x7_ h7 => ?_)
      have k7_0 := h7
      clear h7
      show P g X 4 13 [(0, .ref a0), (1, .int x1), (2, .int x2), (3, .int x3)] [.int x7_] _ _ (K, len, I, J, R)
      have kq7 : x7_.toInt = 1 ∧ (0 ≤ x2.toInt ∧ x2.toInt < D 0 5) ∨ x7_.toInt = 0 ∧ ¬ (0 ≤ x2.toInt ∧ x2.toInt < D 0 5) := by rcases k7_0 with ⟨z, -⟩ | ⟨hm9, z, y⟩ <;> rw [hbm] at z <;> cases z; rw [show (I hm 3).toInt = _ from mc.2.2.1.2.2.2.2.1] at y; exact y
      clear k7_0
      refine r_if_eq hC (tgt := 30) dX10_isLine_13 (by decide) (fun c8 => ?_) (fun c8 => ?_)
      · refine r_iconst hC (v := (0)) dX10_isLine_30 (by decide) (by decide) (fun x9_ e9 t9 => ?_)
        exact r_iret hC hQ hlk hr (by rw [e9]; rfl) (by decide) (by decide) dX10_isLine_31 ⟨_, rfl, rfl, (by first | exact Or.inl ⟨hz, by omega⟩ | exact Or.inr ⟨hm, hbm, by omega⟩)⟩
      · refine r_iload_n hC dX10_isLine_16 3 rfl ?_
        refine r_if_lt hC (tgt := 30) dX10_isLine_17 (by decide) (fun c10 => ?_) (fun c10 => ?_)
        · refine r_iconst hC (v := (0)) dX10_isLine_30 (by decide) (by decide) (fun x11_ e11 t11 => ?_)
          exact r_iret hC hQ hlk hr (by rw [e11]; rfl) (by decide) (by decide) dX10_isLine_31 ⟨_, rfl, rfl, (by first | exact Or.inl ⟨hz, by omega⟩ | exact Or.inr ⟨hm, hbm, by omega⟩)⟩
        · refine r_iload_n hC dX10_isLine_20 3 rfl ?_
          refine r_bipush hC (v := (59)) dX10_isLine_21 (by decide) (by decide) (fun x12_ e12 t12 => ?_)
          refine r_icmp_ge hC (tgt := 30) dX10_isLine_23 (by decide) (fun c13 => ?_) (fun c13 => ?_)
          · refine r_iconst hC (v := (0)) dX10_isLine_30 (by decide) (by decide) (fun x14_ e14 t14 => ?_)
            exact r_iret hC hQ hlk hr (by rw [e14]; rfl) (by decide) (by decide) dX10_isLine_31 ⟨_, rfl, rfl, (by first | exact Or.inl ⟨hz, by omega⟩ | exact Or.inr ⟨hm, hbm, by omega⟩)⟩
          · refine r_iconst hC (v := (1)) dX10_isLine_26 (by decide) (by decide) (fun x15_ e15 t15 => ?_)
            refine r_goto hC (tgt := 31) dX10_isLine_27 (by decide) ?_
            exact r_iret hC hQ hlk hr (by rw [e15]; rfl) (by decide) (by decide) dX10_isLine_31 ⟨_, rfl, rfl, (by first | exact Or.inl ⟨hz, by omega⟩ | exact Or.inr ⟨hm, hbm, by omega⟩)⟩
set_option maxHeartbeats 4000000 in
set_option maxRecDepth 100000 in
theorem f_X10_nought (g : GG) (l : Launch) (K len : Nat → Nat) (I : Nat → Nat → Int32) (J : Nat → Nat → Int64) (R : Nat → Nat → Option Nat) (hs : Sf K len I R) (a0 : Nat) (ka0 : K a0 = 11) (x1 : Int32) (x2 : Int32) (x3 : Int32) (D : DD) (E : Nat → Nat → Int) (hmx : ∀ hm, R a0 3 = some hm → MC D E a0 hm I R) : Ct g l yX10_nought cX10_nought 5 (Option.some Jvm.ClassFile.FieldType.int) rmX10_nought [.ref a0, .int x1, .int x2, .int x3] (K, len, I, J, R) (pI1 (K, len, I, J, R) (fun r I' => Sf K len I' R ∧ Fr K [(11, 0), (11, 1), (11, 2), (11, 19), (85, 999), (86, 999), (87, 999), (88, 999)] I I' ∧ ((R a0 3 = none ∧ r.toInt = -1) ∨ (∃ hm, R a0 3 = some hm ∧ (((0 ≤ x1.toInt ∧ x1.toInt < D 0 7) ∧ (0 ≤ x2.toInt ∧ x2.toInt < D 0 5) ∧ 0 ≤ x3.toInt ∧ x3.toInt ≤ 58) ∧ r.toInt = Ng x3.toInt (SV D x1.toInt.toNat (Ad D x1.toInt.toNat (LP1 D) 1) x3.toInt.toNat x2.toInt.toNat) (SV D x1.toInt.toNat (Ad D x1.toInt.toNat (LP1 D) 1) (x3.toInt.toNat + 1) x2.toInt.toNat) ∨ ¬ ((0 ≤ x1.toInt ∧ x1.toInt < D 0 7) ∧ (0 ≤ x2.toInt ∧ x2.toInt < D 0 5) ∧ 0 ≤ x3.toInt ∧ x3.toInt ≤ 58) ∧ r.toInt = -1))) ∧ ((I' a0 2).toInt = -1))) := by
  refine Ct_intro (by decide +kernel) (Nat.le_of_ble_eq_true rfl) (fun X hC hL hKK hNm hr hlk hQ => ?_)
  subst hL
  have hC : Cx g X cX10_nought "HillTapModel" 5 rmX10_nought := hC
  show P g X 5 0 [(0, .ref a0), (1, .int x1), (2, .int x2), (3, .int x3)] [] 0 0 (K, len, I, J, R)
  have hF : Fr K [(11, 0), (11, 1), (11, 2), (11, 19), (85, 999), (86, 999), (87, 999), (88, 999)] I I := Fr.refl
  obtain ⟨lr, hlr, klr, llr⟩ := hs.row ka0 15 85 60 (by decide) (by decide)
  obtain ⟨sr, hsr, ksr, lsr⟩ := hs.row ka0 16 86 300 (by decide) (by decide)
  obtain ⟨ir, hir, kir, lir⟩ := hs.row ka0 17 87 300 (by decide) (by decide)
  obtain ⟨wr, hwr, kwr, lwr⟩ := hs.row ka0 18 88 300 (by decide) (by decide)
  have b_x1 := ti_rng x1
  have b_x2 := ti_rng x2
  have b_x3 := ti_rng x3
  rcases hs.2.1.2.2.1 a0 ka0 with hz | ⟨hm, hbm, khm⟩
  · refine r_aload_n hC dX10_nought_0 0 rfl ?_
    refine r_iconst hC (v := (0)) dX10_nought_1 (by decide) (by decide) (fun x1_ e1 t1 => ?_)
    refine r_puti hC 0 (ci := 10) rfl u10_in tyX10_ok nmX10 (by decide) mT_4_235 rfl rfl rfl dX10_nought_2 ka0 rfl rfl (fun I2 eI2 => ?_)
    have hs2 := hs.put0 eI2 ka0 rfl rfl rfl (by decide)
    have hF2 := hF.put eI2 ka0 rfl
    refine r_aload_n hC dX10_nought_5 0 rfl ?_
    refine r_iload_n hC dX10_nought_6 1 rfl ?_
    refine r_iload_n hC dX10_nought_7 2 rfl ?_
    refine r_iload_n hC dX10_nought_8 3 rfl ?_
    refine r_callV hC (As := [.int x1, .int x2, .int x3]) (rest := []) (ci := 10) (f_X10_isLine g (xL X) K len I2 J R hs2 a0 ka0 x1 x2 x3 D E (fun hm9 z9 => by rw [hz] at z9; cases z9)) mT_7_4 mT_1_10 mT_7_1 mT_7_3 mP_90 okX10_isLine ⟨by decide, by decide⟩ rfl (by show kO (K a0) = _; rw [ka0]; rfl) rfl rfl (Nat.le_of_ble_eq_true rfl) ⟨by decide, by decide⟩ dX10_nought_9 (aI0 (F := fun st M => P g X 5 12 [(0, .ref a0), (1, .int x1), (2, .int x2), (3, .int x3)] st _ _ M) (M := (K, len, I2, J, R)) fun x3_ h3 => ?_)
    have k3_0 := h3
    clear h3
    show P g X 5 12 [(0, .ref a0), (1, .int x1), (2, .int x2), (3, .int x3)] [.int x3_] _ _ (K, len, I2, J, R)
    have kq3 : x3_.toInt = 0 := by rcases k3_0 with ⟨z, y⟩ | ⟨hm9, z, y⟩; exact y; rw [hz] at z; cases z
    clear k3_0
    refine r_if_ne hC (tgt := 21) dX10_nought_12 (by decide) (fun c4 => ?_) (fun c4 => ?_)
    · exfalso; omega
    refine r_aload_n hC dX10_nought_15 0 rfl ?_
    refine r_iconst hC (v := (1)) dX10_nought_16 (by decide) (by decide) (fun x5_ e5 t5 => ?_)
    refine r_callV hC (As := [.int x5_]) (rest := []) (ci := 10) (c_X10_refused g (xL X) K len I2 J R hs2 a0 ka0 x5_) mT_5_85 mT_1_10 mT_5_82 mT_5_84 mP_48 okX10_refused ⟨by decide, by decide⟩ rfl (by show kO (K a0) = _; rw [ka0]; rfl) rfl rfl (Nat.le_of_ble_eq_true rfl) ⟨by decide, by decide⟩ dX10_nought_17 (aI1 (F := fun st M => P g X 5 20 [(0, .ref a0), (1, .int x1), (2, .int x2), (3, .int x3)] st _ _ M) (M := (K, len, I2, J, R)) fun x6_ I6 h6 => ?_)
    obtain ⟨hs6, hf6, k6_0, k6_1, k6_2⟩ := h6
    show P g X 5 20 [(0, .ref a0), (1, .int x1), (2, .int x2), (3, .int x3)] [.int x6_] _ _ (K, len, I6, J, R)
    have hF6 : Fr K [(11, 0), (11, 1), (11, 2), (11, 19), (85, 999), (86, 999), (87, 999), (88, 999)] I I6 := hF2.trans hf6 rfl rfl
    exact r_iret hC hQ hlk hr rfl (by decide) (by decide) dX10_nought_20 ⟨_, _, rfl, rfl, ⟨hs6, hF6, (by first | exact Or.inl ⟨hz, by omega⟩ | exact Or.inr ⟨hm, hbm, Or.inr ⟨by omega, by omega⟩⟩ | exact Or.inr ⟨hm, hbm, Or.inl ⟨by omega, (congrArg Int32.toInt k6_0).trans NOlq⟩⟩), (by omega)⟩⟩
  · obtain ⟨S0, eS0⟩ : ∃ z : Int32, z = I hm 7 := ⟨_, rfl⟩
    have fS0 : S0.toInt = (I hm 7).toInt := by rw [eS0]
    have rS0 := hs.rng khm rfl eS0
    have mc := hmx hm hbm
    obtain ⟨⟨hJ, hR6, hD7⟩, rwm, ⟨hd1, hd2, hd3, hd4, hd5, hd7, hd8, hd9⟩, -⟩ := id mc
    have hcx := CM_x hs khm
    have b5 := hs.rng khm (k := 3) rfl (x := I hm 3) rfl
    have b7 := hs.rng khm (k := 7) rfl (x := I hm 7) rfl
    have b8 := hs.rng khm (k := 8) rfl (x := I hm 8) rfl
    have b20 := hs.rng ka0 (k := 20) rfl (x := I a0 20) rfl
    refine r_aload_n hC dX10_nought_0 0 rfl ?_
    refine r_iconst hC (v := (0)) dX10_nought_1 (by decide) (by decide) (fun x7_ e7 t7 => ?_)
    refine r_puti hC 0 (ci := 10) rfl u10_in tyX10_ok nmX10 (by decide) mT_4_235 rfl rfl rfl dX10_nought_2 ka0 rfl rfl (fun I8 eI8 => ?_)
    have hs8 := hs.put0 eI8 ka0 rfl rfl rfl (by decide)
    have hF8 := hF.put eI8 ka0 rfl
    refine r_aload_n hC dX10_nought_5 0 rfl ?_
    refine r_iload_n hC dX10_nought_6 1 rfl ?_
    refine r_iload_n hC dX10_nought_7 2 rfl ?_
    refine r_iload_n hC dX10_nought_8 3 rfl ?_
    refine r_callV hC (As := [.int x1, .int x2, .int x3]) (rest := []) (ci := 10) (f_X10_isLine g (xL X) K len I8 J R hs8 a0 ka0 x1 x2 x3 D E (fun hm9 z9 => by rw [hbm] at z9; cases z9; exact (mc.mv hs ka0 khm hF8 rfl))) mT_7_4 mT_1_10 mT_7_1 mT_7_3 mP_90 okX10_isLine ⟨by decide, by decide⟩ rfl (by show kO (K a0) = _; rw [ka0]; rfl) rfl rfl (Nat.le_of_ble_eq_true rfl) ⟨by decide, by decide⟩ dX10_nought_9 (aI0 (F := fun st M => P g X 5 12 [(0, .ref a0), (1, .int x1), (2, .int x2), (3, .int x3)] st _ _ M) (M := (K, len, I8, J, R)) fun x9_ h9 => ?_)
    have k9_0 := h9
    clear h9
    show P g X 5 12 [(0, .ref a0), (1, .int x1), (2, .int x2), (3, .int x3)] [.int x9_] _ _ (K, len, I8, J, R)
    have kq9 : x9_.toInt = 1 ∧ ((0 ≤ x1.toInt ∧ x1.toInt < D 0 7) ∧ (0 ≤ x2.toInt ∧ x2.toInt < D 0 5) ∧ 0 ≤ x3.toInt ∧ x3.toInt ≤ 58) ∨ x9_.toInt = 0 ∧ ¬ ((0 ≤ x1.toInt ∧ x1.toInt < D 0 7) ∧ (0 ≤ x2.toInt ∧ x2.toInt < D 0 5) ∧ 0 ≤ x3.toInt ∧ x3.toInt ≤ 58) := by rcases k9_0 with ⟨z, -⟩ | ⟨hm9, z, y⟩ <;> rw [hbm] at z <;> cases z; exact y
    clear k9_0
    refine r_if_ne hC (tgt := 21) dX10_nought_12 (by decide) (fun c10 => ?_) (fun c10 => ?_)
    · refine r_aload_n hC dX10_nought_21 0 rfl ?_
      refine r_iload_n hC dX10_nought_22 1 rfl ?_
      have hv11 : I8 hm 7 = S0 := (Eq.trans (up2_kk eI8 ka0 khm (by decide)) eS0.symm)
      refine r_callV hC (As := [.int x1]) (rest := []) (ci := 10) (f_X10_runsAsTold g (xL X) K len I8 J R hs8 a0 ka0 x1 hm hbm khm (by rw [hv11]; omega) lr hlr klr llr sr hsr ksr lsr ir hir kir lir wr hwr kwr lwr D E (mc.mv hs ka0 khm hF8 rfl) (by omega) (by omega)) mT_6_127 mT_1_10 mT_6_124 mT_6_126 mP_73 okX10_runsAsTold ⟨by decide, by decide⟩ rfl (by show kO (K a0) = _; rw [ka0]; rfl) rfl rfl (Nat.le_of_ble_eq_true rfl) ⟨by decide, by decide⟩ dX10_nought_23 (aV1 (F := fun st M => P g X 5 26 [(0, .ref a0), (1, .int x1), (2, .int x2), (3, .int x3)] st _ _ M) (M := (K, len, I8, J, R)) fun I12 h12 => ?_)
      obtain ⟨hs12, hf12, k12_0⟩ := h12
      show P g X 5 26 [(0, .ref a0), (1, .int x1), (2, .int x2), (3, .int x3)] [] _ _ (K, len, I12, J, R)
      have hF12 : Fr K [(11, 0), (11, 1), (11, 2), (11, 19), (85, 999), (86, 999), (87, 999), (88, 999)] I I12 := hF8.trans hf12 rfl rfl
      refine r_bipush hC (v := (60)) dX10_nought_26 (by decide) (by decide) (fun x13_ e13 t13 => ?_)
      refine r_iload_n hC dX10_nought_28 2 rfl ?_
      refine r_imul hC dX10_nought_29 (fun x14_ e14 => ?_)
      try have t14 : x14_.toInt = (60) * x2.toInt := by rw [e14]; exact ti_mul (by omega) rfl (by omega) (by omega)
      refine r_iload_n hC dX10_nought_30 3 rfl ?_
      refine r_iadd hC dX10_nought_31 (fun x15_ e15 => ?_)
      try have t15 : x15_.toInt = x14_.toInt + x3.toInt := by rw [e15]; exact ti_add (by omega) (by omega)
      refine r_istore hC (lv' := [(4, .int x15_), (0, .ref a0), (1, .int x1), (2, .int x2), (3, .int x3)]) dX10_nought_32 (by decide) rfl ?_
      refine r_aload_n hC dX10_nought_34 1 rfl ?_
      refine r_iload_n hC dX10_nought_35 4 rfl ?_
      refine r_aload_n hC dX10_nought_36 1 rfl ?_
      refine r_getr hC 16 (ci := 10) rfl u10_in (by decide) mT_5_11 dX10_nought_37 ka0 rfl rfl hsr ?_
      refine r_iload hC dX10_nought_40 0 rfl ?_
      refine x_iaload hC ksr lsr (by decide) rfl rfl dX10_nought_42 (by omega) (by omega) (fun x16_ e16 => ?_)
      have q16 : x16_.toInt = SV D x1.toInt.toNat (Ad D x1.toInt.toNat (LP1 D) 1) x3.toInt.toNat x2.toInt.toNat := by rw [e16, clx (i := x15_) rfl (by omega), show x15_.toInt.toNat = 60 * x2.toInt.toNat + x3.toInt.toNat by omega]; exact k12_0.spd (by omega) (by omega)
      have jb16 := mc.svb (s := x1.toInt.toNat) (show ((x1.toInt.toNat : Nat) : Int) < D 0 7 by omega) (w2 := 1) x3.toInt.toNat x2.toInt.toNat
      refine r_aload_n hC dX10_nought_43 1 rfl ?_
      refine r_getr hC 16 (ci := 10) rfl u10_in (by decide) mT_5_11 dX10_nought_44 ka0 rfl rfl hsr ?_
      refine r_iload hC dX10_nought_47 0 rfl ?_
      refine r_iconst hC (v := (1)) dX10_nought_49 (by decide) (by decide) (fun x17_ e17 t17 => ?_)
      refine r_iadd hC dX10_nought_50 (fun x18_ e18 => ?_)
      try have t18 : x18_.toInt = x15_.toInt + x17_.toInt := by rw [e18]; exact ti_add (by omega) (by omega)
      refine x_iaload hC ksr lsr (by decide) rfl rfl dX10_nought_51 (by omega) (by omega) (fun x19_ e19 => ?_)
      have q19 : x19_.toInt = SV D x1.toInt.toNat (Ad D x1.toInt.toNat (LP1 D) 1) (x3.toInt.toNat + 1) x2.toInt.toNat := by rw [e19, clx (i := x18_) rfl (by omega), show x18_.toInt.toNat = 60 * x2.toInt.toNat + (x3.toInt.toNat + 1) by omega]; exact k12_0.spd (by omega) (by omega)
      have jb19 := mc.svb (s := x1.toInt.toNat) (show ((x1.toInt.toNat : Nat) : Int) < D 0 7 by omega) (w2 := 1) (x3.toInt.toNat + 1) x2.toInt.toNat
      refine r_callS hC (As := [.int x3, .int x16_, .int x19_]) (rest := [.ref a0]) (f_X10_noughtBy g (xL X) K len I12 J R hs12 x3 x16_ x19_ (by omega) (by omega) (by omega)) mT_7_7 mT_1_10 mT_7_5 mT_7_6 okX10_noughtBy ⟨by decide, by decide⟩ rfl rfl (Nat.le_of_ble_eq_true rfl) ⟨by decide, by decide⟩ dX10_nought_52 (aI0 (F := fun st M => P g X 5 55 [(4, .int x15_), (0, .ref a0), (1, .int x1), (2, .int x2), (3, .int x3)] st _ _ M) (M := (K, len, I12, J, R)) fun x20_ h20 => ?_)
      obtain ⟨k20_0, k20_1⟩ := h20
      show P g X 5 55 [(4, .int x15_), (0, .ref a0), (1, .int x1), (2, .int x2), (3, .int x3)] [.int x20_, .ref a0] _ _ (K, len, I12, J, R)
      have lqn : x20_.toInt = Ng x3.toInt (SV D x1.toInt.toNat (Ad D x1.toInt.toNat (LP1 D) 1) x3.toInt.toNat x2.toInt.toNat) (SV D x1.toInt.toNat (Ad D x1.toInt.toNat (LP1 D) 1) (x3.toInt.toNat + 1) x2.toInt.toNat) := by rw [k20_0, ← q16, ← q19]
      refine r_callV hC (As := [.int x20_]) (rest := []) (ci := 10) (c_X10_done g (xL X) K len I12 J R hs12 a0 ka0 x20_) mT_6_79 mT_1_10 mT_6_76 mT_6_78 mP_67 okX10_done ⟨by decide, by decide⟩ rfl (by show kO (K a0) = _; rw [ka0]; rfl) rfl rfl (Nat.le_of_ble_eq_true rfl) ⟨by decide, by decide⟩ dX10_nought_55 (aI1 (F := fun st M => P g X 5 58 [(4, .int x15_), (0, .ref a0), (1, .int x1), (2, .int x2), (3, .int x3)] st _ _ M) (M := (K, len, I12, J, R)) fun x21_ I21 h21 => ?_)
      obtain ⟨hs21, hf21, k21_0, k21_1, k21_2⟩ := h21
      show P g X 5 58 [(4, .int x15_), (0, .ref a0), (1, .int x1), (2, .int x2), (3, .int x3)] [.int x21_] _ _ (K, len, I21, J, R)
      have hF21 : Fr K [(11, 0), (11, 1), (11, 2), (11, 19), (85, 999), (86, 999), (87, 999), (88, 999)] I I21 := hF12.trans hf21 rfl rfl
      have mo21 := k12_0.mv ka0 klr ksr kir kwr hf21 rfl
      exact r_iret hC hQ hlk hr rfl (by decide) (by decide) dX10_nought_58 ⟨_, _, rfl, rfl, ⟨hs21, hF21, (by first | exact Or.inl ⟨hz, by omega⟩ | exact Or.inr ⟨hm, hbm, Or.inr ⟨by omega, by omega⟩⟩ | exact Or.inr ⟨hm, hbm, Or.inl ⟨by omega, (congrArg Int32.toInt k21_0).trans lqn⟩⟩), (by omega)⟩⟩
    · refine r_aload_n hC dX10_nought_15 0 rfl ?_
      refine r_iconst hC (v := (1)) dX10_nought_16 (by decide) (by decide) (fun x22_ e22 t22 => ?_)
      refine r_callV hC (As := [.int x22_]) (rest := []) (ci := 10) (c_X10_refused g (xL X) K len I8 J R hs8 a0 ka0 x22_) mT_5_85 mT_1_10 mT_5_82 mT_5_84 mP_48 okX10_refused ⟨by decide, by decide⟩ rfl (by show kO (K a0) = _; rw [ka0]; rfl) rfl rfl (Nat.le_of_ble_eq_true rfl) ⟨by decide, by decide⟩ dX10_nought_17 (aI1 (F := fun st M => P g X 5 20 [(0, .ref a0), (1, .int x1), (2, .int x2), (3, .int x3)] st _ _ M) (M := (K, len, I8, J, R)) fun x23_ I23 h23 => ?_)
      obtain ⟨hs23, hf23, k23_0, k23_1, k23_2⟩ := h23
      show P g X 5 20 [(0, .ref a0), (1, .int x1), (2, .int x2), (3, .int x3)] [.int x23_] _ _ (K, len, I23, J, R)
      have hF23 : Fr K [(11, 0), (11, 1), (11, 2), (11, 19), (85, 999), (86, 999), (87, 999), (88, 999)] I I23 := hF8.trans hf23 rfl rfl
      exact r_iret hC hQ hlk hr rfl (by decide) (by decide) dX10_nought_20 ⟨_, _, rfl, rfl, ⟨hs23, hF23, (by first | exact Or.inl ⟨hz, by omega⟩ | exact Or.inr ⟨hm, hbm, Or.inr ⟨by omega, by omega⟩⟩ | exact Or.inr ⟨hm, hbm, Or.inl ⟨by omega, (congrArg Int32.toInt k23_0).trans NOlq⟩⟩), (by omega)⟩⟩
