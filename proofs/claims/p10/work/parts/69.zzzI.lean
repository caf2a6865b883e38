/-! answers as numbers -/
def Ng (day a b : Int) : Int := if 0 < a ∧ a < b then day + b / (b - a) else -2
def Sb (most best v : Int) : Int := if v ≠ -2 ∧ (best = -2 ∨ (most ≠ 0 ∧ best < v) ∨ (most = 0 ∧ v < best)) then v else best
def Sr (day a b off most i best : Int) : Nat → Int
  | 0 => best
  | j + 1 => Sb most (Sr day a b off most i best j) (Ng day (a + i * off) (b + ((j : Int) - 1) * off))
def So (day a b off most : Int) : Nat → Int
  | 0 => -2
  | i + 1 => Sr day a b off most ((i : Int) - 1) (So day a b off most i) 3
def Dd (D : DD) (s : Nat) (day : Int) : Nat → Int
  | 0 => 0
  | v + 1 => Dd D s day v + (if (GV D s (Ad D s (LP1 D) 1) 60 ≠ -2 ∧ D 10 v ≤ Wq D s (Ad D s (LP1 D) 1) (LP1 D) 60) ∧ GV D s (Ad D s (LP1 D) 1) 60 < day + D 12 v then D 11 v else 0)
section ANS1
variable {D : DD} {s n : Nat} {day a b off most i j best v : Int}
theorem Nb_t (h : 0 < a ∧ a < b) : Ng day a b = day + b / (b - a) := by unfold Ng; rw [if_pos h]
theorem Nb_n (h : ¬ (0 < a ∧ a < b)) : Ng day a b = -2 := by unfold Ng; rw [if_neg h]
theorem dv_b {x y : Int} (h : 0 ≤ x) (hy : 0 < y) : 0 ≤ x / y ∧ x / y ≤ x := ⟨Int.ediv_nonneg h (by omega), Int.ediv_le_self _ h⟩
theorem tmul3 {x y z : Int32} (e : z = x * y) (hx : -1 ≤ x.toInt ∧ x.toInt ≤ 1) (hy : 0 ≤ y.toInt ∧ y.toInt ≤ 20) : z.toInt = x.toInt * y.toInt ∧ -20 ≤ x.toInt * y.toInt ∧ x.toInt * y.toInt ≤ 20 := by
  have h : -20 ≤ x.toInt * y.toInt ∧ x.toInt * y.toInt ≤ 20 := by
    have : x.toInt = -1 ∨ x.toInt = 0 ∨ x.toInt = 1 := by omega
    rcases this with z | z | z <;> rw [z] <;> omega
  exact ⟨by rw [e]; exact ti_mul rfl rfl (by omega) (by omega), h⟩
theorem Sr_s (hj : (n : Int) - 1 = j) (hv : v = Ng day (a + i * off) (b + j * off)) {w : Int} (hb : best = Sr day a b off most i w n) : Sr day a b off most i w (n + 1) = Sb most best v := by rw [hb, hv, ← hj]; rfl
theorem Sb_t (h : v ≠ -2 ∧ (best = -2 ∨ (most ≠ 0 ∧ best < v) ∨ (most = 0 ∧ v < best))) : Sb most best v = v := by unfold Sb; rw [if_pos h]
theorem Sb_n (h : ¬ (v ≠ -2 ∧ (best = -2 ∨ (most ≠ 0 ∧ best < v) ∨ (most = 0 ∧ v < best)))) : Sb most best v = best := by unfold Sb; rw [if_neg h]
theorem So_s (hi : (n : Int) - 1 = i) : So day a b off most (n + 1) = Sr day a b off most i (So day a b off most n) 3 := by rw [← hi]; rfl
theorem Dd_t (h : (GV D s (Ad D s (LP1 D) 1) 60 ≠ -2 ∧ D 10 n ≤ Wq D s (Ad D s (LP1 D) 1) (LP1 D) 60) ∧ GV D s (Ad D s (LP1 D) 1) 60 < day + D 12 n) : Dd D s day (n + 1) = Dd D s day n + D 11 n := by simp only [Dd]; rw [if_pos h]
theorem Dd_n (h : ¬ ((GV D s (Ad D s (LP1 D) 1) 60 ≠ -2 ∧ D 10 n ≤ Wq D s (Ad D s (LP1 D) 1) (LP1 D) 60) ∧ GV D s (Ad D s (LP1 D) 1) 60 < day + D 12 n)) : Dd D s day (n + 1) = Dd D s day n := by simp only [Dd]; rw [if_neg h]; omega
end ANS1

set_option maxHeartbeats 4000000 in
set_option maxRecDepth 100000 in
theorem f_X8_noughtBy (g : GG) (l : Launch) (K len : Nat → Nat) (I : Nat → Nat → Int32) (J : Nat → Nat → Int64) (R : Nat → Nat → Option Nat) (hs : Sf K len I R) (x0 : Int32) (x1 : Int32) (x2 : Int32) (p0 : 0 ≤ x0.toInt ∧ x0.toInt ≤ 59) (p1 : -40 ≤ x1.toInt ∧ x1.toInt ≤ 31000) (p2 : -40 ≤ x2.toInt ∧ x2.toInt ≤ 31000) : Ct g l yX8_noughtBy cX8_noughtBy 3 (Option.some Jvm.ClassFile.FieldType.int) rmX8_noughtBy [.int x0, .int x1, .int x2] (K, len, I, J, R) (pI0 (K, len, I, J, R) (fun r => (r.toInt = Ng x0.toInt x1.toInt x2.toInt) ∧ (-2 ≤ r.toInt ∧ r.toInt ≤ 32000))) := by
  refine Ct_intro (by decide +kernel) (Nat.le_of_ble_eq_true rfl) (fun X hC hL hKK hNm hr hlk hQ => ?_)
  subst hL
  have hC : Cx g X cX8_noughtBy "HillTap" 3 rmX8_noughtBy := hC
  show P g X 3 0 [(0, .int x0), (1, .int x1), (2, .int x2)] [] 0 0 (K, len, I, J, R)
  have hF : Fr K [] I I := Fr.refl
  have b_x0 := ti_rng x0
  have b_x1 := ti_rng x1
  have b_x2 := ti_rng x2
  refine r_iload_n hC dX8_noughtBy_0 1 rfl ?_
  refine r_if_le hC (tgt := 9) dX8_noughtBy_1 (by decide) (fun c1 => ?_) (fun c1 => ?_)
  · refine r_bipush hC (v := (-2)) dX8_noughtBy_9 (by decide) (by decide) (fun x2_ e2 t2 => ?_)
    exact r_iret hC hQ hlk hr rfl (by decide) (by decide) dX8_noughtBy_11 ⟨_, rfl, rfl, ⟨(by first | (rw [Nb_n (by omega)]; omega) | (rw [Nb_t (by omega), show x2.toInt - x1.toInt = NOnd.toInt by omega, ← tdNOnq]; omega)), (by omega)⟩⟩
  · refine r_iload_n hC dX8_noughtBy_4 2 rfl ?_
    refine r_iload_n hC dX8_noughtBy_5 1 rfl ?_
    refine r_icmp_gt hC (tgt := 12) dX8_noughtBy_6 (by decide) (fun c3 => ?_) (fun c3 => ?_)
    · refine r_iload_n hC dX8_noughtBy_12 0 rfl ?_
      refine r_iload_n hC dX8_noughtBy_13 2 rfl ?_
      refine r_iload_n hC dX8_noughtBy_14 2 rfl ?_
      refine r_iload_n hC dX8_noughtBy_15 1 rfl ?_
      refine r_isub hC dX8_noughtBy_16 (fun x4_ e4 => ?_)
      try have t4 : x4_.toInt = x2.toInt - x1.toInt := by rw [e4]; exact ti_sub (by omega) (by omega)
      refine r_idiv hC dX8_noughtBy_17 (ne_0 (by omega)) (fun x5_ e5 => ?_)
      have td5 : x5_.toInt = x2.toInt / x4_.toInt := by rw [e5]; exact ti_div (by omega) (by omega)
      have qb : 0 ≤ x5_.toInt ∧ x5_.toInt ≤ x2.toInt := by rw [td5]; exact dv_b (by omega) (by omega)
      refine r_iadd hC dX8_noughtBy_18 (fun x6_ e6 => ?_)
      try have t6 : x6_.toInt = x0.toInt + x5_.toInt := by rw [e6]; exact ti_add (by omega) (by omega)
      exact r_iret hC hQ hlk hr rfl (by decide) (by decide) dX8_noughtBy_19 ⟨_, rfl, rfl, ⟨(by first | (rw [Nb_n (by omega)]; omega) | (rw [Nb_t (by omega), show x2.toInt - x1.toInt = x4_.toInt by omega, ← td5]; omega)), (by omega)⟩⟩
    · refine r_bipush hC (v := (-2)) dX8_noughtBy_9 (by decide) (by decide) (fun x7_ e7 t7 => ?_)
      exact r_iret hC hQ hlk hr rfl (by decide) (by decide) dX8_noughtBy_11 ⟨_, rfl, rfl, ⟨(by first | (rw [Nb_n (by omega)]; omega) | (rw [Nb_t (by omega), show x2.toInt - x1.toInt = NOnd.toInt by omega, ← tdNOnq]; omega)), (by omega)⟩⟩
set_option maxHeartbeats 4000000 in
set_option maxRecDepth 100000 in
theorem f_X10_noughtBy (g : GG) (l : Launch) (K len : Nat → Nat) (I : Nat → Nat → Int32) (J : Nat → Nat → Int64) (R : Nat → Nat → Option Nat) (hs : Sf K len I R) (x0 : Int32) (x1 : Int32) (x2 : Int32) (p0 : 0 ≤ x0.toInt ∧ x0.toInt ≤ 59) (p1 : -40 ≤ x1.toInt ∧ x1.toInt ≤ 31000) (p2 : -40 ≤ x2.toInt ∧ x2.toInt ≤ 31000) : Ct g l yX10_noughtBy cX10_noughtBy 3 (Option.some Jvm.ClassFile.FieldType.int) rmX10_noughtBy [.int x0, .int x1, .int x2] (K, len, I, J, R) (pI0 (K, len, I, J, R) (fun r => (r.toInt = Ng x0.toInt x1.toInt x2.toInt) ∧ (-2 ≤ r.toInt ∧ r.toInt ≤ 32000))) := by
  refine Ct_intro (by decide +kernel) (Nat.le_of_ble_eq_true rfl) (fun X hC hL hKK hNm hr hlk hQ => ?_)
  subst hL
  have hC : Cx g X cX10_noughtBy "HillTapModel" 3 rmX10_noughtBy := hC
  show P g X 3 0 [(0, .int x0), (1, .int x1), (2, .int x2)] [] 0 0 (K, len, I, J, R)
  have hF : Fr K [] I I := Fr.refl
  have b_x0 := ti_rng x0
  have b_x1 := ti_rng x1
  have b_x2 := ti_rng x2
  refine r_iload_n hC dX10_noughtBy_0 1 rfl ?_
  refine r_if_le hC (tgt := 19) dX10_noughtBy_1 (by decide) (fun c1 => ?_) (fun c1 => ?_)
  · refine r_bipush hC (v := (-2)) dX10_noughtBy_19 (by decide) (by decide) (fun x2_ e2 t2 => ?_)
    exact r_iret hC hQ hlk hr rfl (by decide) (by decide) dX10_noughtBy_21 ⟨_, rfl, rfl, ⟨(by first | (rw [Nb_n (by omega)]; omega) | (rw [Nb_t (by omega), show x2.toInt - x1.toInt = NOnd.toInt by omega, ← tdNOnq]; omega)), (by omega)⟩⟩
  · refine r_iload_n hC dX10_noughtBy_4 2 rfl ?_
    refine r_iload_n hC dX10_noughtBy_5 1 rfl ?_
    refine r_icmp_le hC (tgt := 19) dX10_noughtBy_6 (by decide) (fun c3 => ?_) (fun c3 => ?_)
    · refine r_bipush hC (v := (-2)) dX10_noughtBy_19 (by decide) (by decide) (fun x4_ e4 t4 => ?_)
      exact r_iret hC hQ hlk hr rfl (by decide) (by decide) dX10_noughtBy_21 ⟨_, rfl, rfl, ⟨(by first | (rw [Nb_n (by omega)]; omega) | (rw [Nb_t (by omega), show x2.toInt - x1.toInt = NOnd.toInt by omega, ← tdNOnq]; omega)), (by omega)⟩⟩
    · refine r_iload_n hC dX10_noughtBy_9 0 rfl ?_
      refine r_iload_n hC dX10_noughtBy_10 2 rfl ?_
      refine r_iload_n hC dX10_noughtBy_11 2 rfl ?_
      refine r_iload_n hC dX10_noughtBy_12 1 rfl ?_
      refine r_isub hC dX10_noughtBy_13 (fun x5_ e5 => ?_)
      try have t5 : x5_.toInt = x2.toInt - x1.toInt := by rw [e5]; exact ti_sub (by omega) (by omega)
      refine r_idiv hC dX10_noughtBy_14 (ne_0 (by omega)) (fun x6_ e6 => ?_)
      have td6 : x6_.toInt = x2.toInt / x5_.toInt := by rw [e6]; exact ti_div (by omega) (by omega)
      have qb : 0 ≤ x6_.toInt ∧ x6_.toInt ≤ x2.toInt := by rw [td6]; exact dv_b (by omega) (by omega)
      refine r_iadd hC dX10_noughtBy_15 (fun x7_ e7 => ?_)
      try have t7 : x7_.toInt = x0.toInt + x6_.toInt := by rw [e7]; exact ti_add (by omega) (by omega)
      refine r_goto hC (tgt := 21) dX10_noughtBy_16 (by decide) ?_
      exact r_iret hC hQ hlk hr rfl (by decide) (by decide) dX10_noughtBy_21 ⟨_, rfl, rfl, ⟨(by first | (rw [Nb_n (by omega)]; omega) | (rw [Nb_t (by omega), show x2.toInt - x1.toInt = x5_.toInt by omega, ← td6]; omega)), (by omega)⟩⟩
set_option maxHeartbeats 4000000 in
set_option maxRecDepth 100000 in
theorem a_X8_nought (g : GG) (l : Launch) (K len : Nat → Nat) (I : Nat → Nat → Int32) (J : Nat → Nat → Int64) (R : Nat → Nat → Option Nat) (hs : Sf K len I R) (a0 : Nat) (ka0 : K a0 = 9) (x1 : Int32) (x2 : Int32) (x3 : Int32) (h : Nat) (hh : R a0 2 = some h) (kh : K h = 2) (lk : Nat) (hlk2 : R h 0 = some lk) (klk : K lk = 3) (rd : Nat) (hrd : R a0 9 = some rd) (krd : K rd = 4) (lv : Nat) (hlv : R a0 4 = some lv) (klv : K lv = 41) (llv : len lv = 60) (kn : Nat) (hkn : R a0 6 = some kn) (kkn : K kn = 43) (lkn : len kn = 6) (cr : Nat) (hcr : R a0 5 = some cr) (kcr1 : K cr = 44) (lcr : len cr = 6) (hu : UU K R) (D : DD) (E : Nat → Nat → Int) (hc : KC D E a0 h lk rd I R) : Ct g l yX8_nought cX8_nought 7 (Option.some Jvm.ClassFile.FieldType.int) rmX8_nought [.ref a0, .int x1, .int x2, .int x3] (K, len, I, J, R) (pI1 (K, len, I, J, R) (fun r I' => Sf K len I' R ∧ Fr K [(1, 5), (1, 6), (9, 12), (43, 999), (50, 999), (51, 999), (52, 999), (53, 999), (54, 999)] I I' ∧ (KC D E a0 h lk rd I' R) ∧ (((0 ≤ x1.toInt ∧ x1.toInt < D 0 7) ∧ (0 ≤ x2.toInt ∧ x2.toInt < D 0 5) ∧ 0 ≤ x3.toInt ∧ x3.toInt ≤ 58) ∧ r.toInt = Ng x3.toInt (SV D x1.toInt.toNat (Ad D x1.toInt.toNat (LP1 D) 1) x3.toInt.toNat x2.toInt.toNat) (SV D x1.toInt.toNat (Ad D x1.toInt.toNat (LP1 D) 1) (x3.toInt.toNat + 1) x2.toInt.toNat) ∨ ¬ ((0 ≤ x1.toInt ∧ x1.toInt < D 0 7) ∧ (0 ≤ x2.toInt ∧ x2.toInt < D 0 5) ∧ 0 ≤ x3.toInt ∧ x3.toInt ≤ 58) ∧ r.toInt = -1) ∧ ((I' a0 12).toInt ≠ 4))) := by
  refine Ct_intro (by decide +kernel) (Nat.le_of_ble_eq_true rfl) (fun X hC hL hKK hNm hr hlk hQ => ?_)
  subst hL
  have hC : Cx g X cX8_nought "HillTap" 7 rmX8_nought := hC
  show P g X 7 0 [(0, .ref a0), (1, .int x1), (2, .int x2), (3, .int x3)] [] 0 0 (K, len, I, J, R)
  have hF : Fr K [(1, 5), (1, 6), (9, 12), (43, 999), (50, 999), (51, 999), (52, 999), (53, 999), (54, 999)] I I := Fr.refl
  have ka : KA a0 h lk rd K len R := ⟨⟨_, hs⟩, hu, ka0, kh, klk, krd⟩
  obtain ⟨sd1, sd2, sd3, sd4, sd5, sd7, sd8, sd9⟩ := id hc.2.1
  have d7b := hs.rng kh (k := 6) rfl (x := I h 6) rfl
  have d5b := hs.rng kh (k := 1) rfl (x := I h 1) rfl
  have d8b := hs.rng kh (k := 8) rfl (x := I h 8) rfl
  have b_x1 := ti_rng x1
  have b_x2 := ti_rng x2
  have b_x3 := ti_rng x3
  refine r_aload_n hC dX8_nought_0 0 rfl ?_
  refine r_iload_n hC dX8_nought_1 1 rfl ?_
  refine r_iload_n hC dX8_nought_2 2 rfl ?_
  refine r_iload_n hC dX8_nought_3 3 rfl ?_
  refine r_callV hC (As := [.int x1, .int x2, .int x3]) (rest := []) (ci := 8) (f_X8_isPegDay g (xL X) K len I J R hs a0 ka0 x1 x2 x3 h hh kh) mT_3_151 mT_1_1 mT_3_148 mT_3_150 mP_23 okX8_isPegDay ⟨by decide, by decide⟩ rfl (by show kO (K a0) = _; rw [ka0]; rfl) rfl rfl (Nat.le_of_ble_eq_true rfl) ⟨by decide, by decide⟩ dX8_nought_4 (aI0 (F := fun st M => P g X 7 7 [(0, .ref a0), (1, .int x1), (2, .int x2), (3, .int x3)] st _ _ M) (M := (K, len, I, J, R)) fun x1_ h1 => ?_)
  have k1_0 := h1
  clear h1
  show P g X 7 7 [(0, .ref a0), (1, .int x1), (2, .int x2), (3, .int x3)] [.int x1_] _ _ (K, len, I, J, R)
  rcases k1_0 with ⟨hr1, hw1⟩ | ⟨hr1, hw1⟩
  · refine r_if_eq hC (tgt := 16) dX8_nought_7 (by decide) (fun c2 => ?_) (fun c2 => ?_)
    · exfalso; omega
    refine r_iload_n hC dX8_nought_10 3 rfl ?_
    refine r_bipush hC (v := (59)) dX8_nought_11 (by decide) (by decide) (fun x3_ e3 t3 => ?_)
    refine r_icmp_lt hC (tgt := 22) dX8_nought_13 (by decide) (fun c4 => ?_) (fun c4 => ?_)
    · refine r_aload_n hC dX8_nought_22 0 rfl ?_
      refine r_iload_n hC dX8_nought_23 1 rfl ?_
      refine r_callV hC (As := [.int x1]) (rest := []) (ci := 8) (f_X8_courseOf g (xL X) K len I J R hs a0 ka0 x1 h hh kh lk hlk2 klk rd hrd krd lv hlv klv llv kn hkn kkn lkn cr hcr kcr1 lcr hu D E hc (by omega) (by omega)) mT_3_163 mT_1_1 mT_3_160 mT_3_162 mP_26 okX8_courseOf ⟨by decide, by decide⟩ rfl (by show kO (K a0) = _; rw [ka0]; rfl) rfl rfl (Nat.le_of_ble_eq_true rfl) ⟨by decide, by decide⟩ dX8_nought_24 (aR1 (F := fun st M => P g X 7 27 [(0, .ref a0), (1, .int x1), (2, .int x2), (3, .int x3)] st _ _ M) (M := (K, len, I, J, R)) fun a5_ I5 h5 => ?_)
      obtain ⟨hs5, hf5, k5_0, k5_1, k5_2, k5_3, k5_4⟩ := h5
      show P g X 7 27 [(0, .ref a0), (1, .int x1), (2, .int x2), (3, .int x3)] [.ref a5_] _ _ (K, len, I5, J, R)
      have hF5 : Fr K [(1, 5), (1, 6), (9, 12), (43, 999), (50, 999), (51, 999), (52, 999), (53, 999), (54, 999)] I I5 := hF.trans hf5 rfl rfl
      refine r_astore hC (lv' := [(4, .ref a5_), (0, .ref a0), (1, .int x1), (2, .int x2), (3, .int x3)]) dX8_nought_27 (by decide) rfl ?_
      refine r_aload hC dX8_nought_29 0 rfl ?_
      obtain ⟨a6_, hb6, hk6, hn6⟩ := hs5.row k5_0 0 50 300 (by decide) (by decide)
      refine r_getr hC 0 (ci := 0) rfl u0_in (by decide) mT_2_26 dX8_nought_31 k5_0 rfl rfl hb6 ?_
      refine r_iload_n hC dX8_nought_34 3 rfl ?_
      refine r_iload_n hC dX8_nought_35 4 rfl ?_
      refine r_callS hC (As := [.int x2, .int x3]) (rest := [.ref a6_]) (c_X8_row g (xL X) K len I5 J R hs5 x2 x3 (by omega) (by omega) (by omega) (by omega)) mT_3_192 mT_1_1 mT_3_197 mT_3_191 okX8_row ⟨by decide, by decide⟩ rfl rfl (Nat.le_of_ble_eq_true rfl) ⟨by decide, by decide⟩ dX8_nought_36 (aI0 (F := fun st M => P g X 7 39 [(4, .ref a5_), (0, .ref a0), (1, .int x1), (2, .int x2), (3, .int x3)] st _ _ M) (M := (K, len, I5, J, R)) fun x7_ h7 => ?_)
      have k7_0 := h7
      clear h7
      show P g X 7 39 [(4, .ref a5_), (0, .ref a0), (1, .int x1), (2, .int x2), (3, .int x3)] [.int x7_, .ref a6_] _ _ (K, len, I5, J, R)
      refine x_iaload hC hk6 hn6 (by decide) rfl rfl dX8_nought_39 (by omega) (by omega) (fun x8_ e8 => ?_)
      have q8 : x8_.toInt = SV D x1.toInt.toNat (Ad D x1.toInt.toNat (LP1 D) 1) x3.toInt.toNat x2.toInt.toNat := by rw [e8, clx (i := x7_) rfl (by omega), show x7_.toInt.toNat = 60 * x2.toInt.toNat + x3.toInt.toNat by omega]; exact k5_3.spd hs k5_0 hb6 (by omega) (by omega)
      have jb8 := k5_2.svb (s := x1.toInt.toNat) (by omega) (w2 := 1) x3.toInt.toNat x2.toInt.toNat
      refine r_istore hC (lv' := [(5, .int x8_), (4, .ref a5_), (0, .ref a0), (1, .int x1), (2, .int x2), (3, .int x3)]) dX8_nought_40 (by decide) rfl ?_
      refine r_aload hC dX8_nought_42 1 rfl ?_
      refine r_getr hC 0 (ci := 0) rfl u0_in (by decide) mT_2_26 dX8_nought_44 k5_0 rfl rfl hb6 ?_
      refine r_iload_n hC dX8_nought_47 4 rfl ?_
      refine r_iload_n hC dX8_nought_48 5 rfl ?_
      refine r_iconst hC (v := (1)) dX8_nought_49 (by decide) (by decide) (fun x9_ e9 t9 => ?_)
      refine r_iadd hC dX8_nought_50 (fun x10_ e10 => ?_)
      try have t10 : x10_.toInt = x3.toInt + x9_.toInt := by rw [e10]; exact ti_add (by omega) (by omega)
      refine r_callS hC (As := [.int x2, .int x10_]) (rest := [.ref a6_]) (c_X8_row g (xL X) K len I5 J R hs5 x2 x10_ (by omega) (by omega) (by omega) (by omega)) mT_3_192 mT_1_1 mT_3_197 mT_3_191 okX8_row ⟨by decide, by decide⟩ rfl rfl (Nat.le_of_ble_eq_true rfl) ⟨by decide, by decide⟩ dX8_nought_51 (aI0 (F := fun st M => P g X 7 54 [(5, .int x8_), (4, .ref a5_), (0, .ref a0), (1, .int x1), (2, .int x2), (3, .int x3)] st _ _ M) (M := (K, len, I5, J, R)) fun x11_ h11 => ?_)
      have k11_0 := h11
      clear h11
      show P g X 7 54 [(5, .int x8_), (4, .ref a5_), (0, .ref a0), (1, .int x1), (2, .int x2), (3, .int x3)] [.int x11_, .ref a6_] _ _ (K, len, I5, J, R)
      refine x_iaload hC hk6 hn6 (by decide) rfl rfl dX8_nought_54 (by omega) (by omega) (fun x12_ e12 => ?_)
      have q12 : x12_.toInt = SV D x1.toInt.toNat (Ad D x1.toInt.toNat (LP1 D) 1) x10_.toInt.toNat x2.toInt.toNat := by rw [e12, clx (i := x11_) rfl (by omega), show x11_.toInt.toNat = 60 * x2.toInt.toNat + x10_.toInt.toNat by omega]; exact k5_3.spd hs k5_0 hb6 (by omega) (by omega)
      have jb12 := k5_2.svb (s := x1.toInt.toNat) (by omega) (w2 := 1) x10_.toInt.toNat x2.toInt.toNat
      have qbn : x12_.toInt = SV D x1.toInt.toNat (Ad D x1.toInt.toNat (LP1 D) 1) (x3.toInt.toNat + 1) x2.toInt.toNat := by rw [← show x10_.toInt.toNat = x3.toInt.toNat + 1 by omega]; exact q12
      refine r_istore hC (lv' := [(6, .int x12_), (5, .int x8_), (4, .ref a5_), (0, .ref a0), (1, .int x1), (2, .int x2), (3, .int x3)]) dX8_nought_55 (by decide) rfl ?_
      refine r_aload_n hC dX8_nought_57 3 rfl ?_
      refine r_iload_n hC dX8_nought_58 6 rfl ?_
      refine r_iload hC dX8_nought_59 1 rfl ?_
      refine r_iload hC dX8_nought_61 0 rfl ?_
      refine r_callS hC (As := [.int x3, .int x8_, .int x12_]) (rest := [.ref a0]) (f_X8_noughtBy g (xL X) K len I5 J R hs5 x3 x8_ x12_ (by omega) (by omega) (by omega)) mT_4_62 mT_1_1 mT_4_60 mT_4_61 okX8_noughtBy ⟨by decide, by decide⟩ rfl rfl (Nat.le_of_ble_eq_true rfl) ⟨by decide, by decide⟩ dX8_nought_63 (aI0 (F := fun st M => P g X 7 66 [(6, .int x12_), (5, .int x8_), (4, .ref a5_), (0, .ref a0), (1, .int x1), (2, .int x2), (3, .int x3)] st _ _ M) (M := (K, len, I5, J, R)) fun x13_ h13 => ?_)
      obtain ⟨k13_0, k13_1⟩ := h13
      show P g X 7 66 [(6, .int x12_), (5, .int x8_), (4, .ref a5_), (0, .ref a0), (1, .int x1), (2, .int x2), (3, .int x3)] [.int x13_, .ref a0] _ _ (K, len, I5, J, R)
      have lqn : x13_.toInt = Ng x3.toInt (SV D x1.toInt.toNat (Ad D x1.toInt.toNat (LP1 D) 1) x3.toInt.toNat x2.toInt.toNat) (SV D x1.toInt.toNat (Ad D x1.toInt.toNat (LP1 D) 1) (x3.toInt.toNat + 1) x2.toInt.toNat) := by rw [k13_0, ← q8, ← qbn]
      refine r_callV hC (As := [.int x13_]) (rest := []) (ci := 8) (c_X8_answer g (xL X) K len I5 J R hs5 a0 ka0 x13_) mT_3_115 mT_1_1 mT_3_112 mT_3_114 mP_21 okX8_answer ⟨by decide, by decide⟩ rfl (by show kO (K a0) = _; rw [ka0]; rfl) rfl rfl (Nat.le_of_ble_eq_true rfl) ⟨by decide, by decide⟩ dX8_nought_66 (aI1 (F := fun st M => P g X 7 69 [(6, .int x12_), (5, .int x8_), (4, .ref a5_), (0, .ref a0), (1, .int x1), (2, .int x2), (3, .int x3)] st _ _ M) (M := (K, len, I5, J, R)) fun x14_ I14 h14 => ?_)
      obtain ⟨hs14, hf14, k14_0, k14_1⟩ := h14
      show P g X 7 69 [(6, .int x12_), (5, .int x8_), (4, .ref a5_), (0, .ref a0), (1, .int x1), (2, .int x2), (3, .int x3)] [.int x14_] _ _ (K, len, I14, J, R)
      have hF14 : Fr K [(1, 5), (1, 6), (9, 12), (43, 999), (50, 999), (51, 999), (52, 999), (53, 999), (54, 999)] I I14 := hF5.trans hf14 rfl rfl
      have hc14 := k5_2.mv ka hf14 rfl
      have coa5__14 := k5_3.mv hs k5_0 hf14 rfl
      exact r_iret hC hQ hlk hr rfl (by decide) (by decide) dX8_nought_69 ⟨_, _, rfl, rfl, ⟨hs14, hF14, (by exact hc14), (by first | exact Or.inr ⟨by omega, by omega⟩ | exact Or.inl ⟨by omega, (congrArg Int32.toInt k14_0).trans lqn⟩), (by omega)⟩⟩
    · refine r_aload_n hC dX8_nought_16 0 rfl ?_
      refine r_iconst hC (v := (1)) dX8_nought_17 (by decide) (by decide) (fun x15_ e15 t15 => ?_)
      refine r_callV hC (As := [.int x15_]) (rest := []) (ci := 8) (c_X8_refuse g (xL X) K len I J R hs a0 ka0 x15_) mT_2_133 mT_1_1 mT_2_130 mT_2_132 mP_0 okX8_refuse ⟨by decide, by decide⟩ rfl (by show kO (K a0) = _; rw [ka0]; rfl) rfl rfl (Nat.le_of_ble_eq_true rfl) ⟨by decide, by decide⟩ dX8_nought_18 (aI1 (F := fun st M => P g X 7 21 [(0, .ref a0), (1, .int x1), (2, .int x2), (3, .int x3)] st _ _ M) (M := (K, len, I, J, R)) fun x16_ I16 h16 => ?_)
      obtain ⟨hs16, hf16, k16_0, k16_1⟩ := h16
      show P g X 7 21 [(0, .ref a0), (1, .int x1), (2, .int x2), (3, .int x3)] [.int x16_] _ _ (K, len, I16, J, R)
      have hF16 : Fr K [(1, 5), (1, 6), (9, 12), (43, 999), (50, 999), (51, 999), (52, 999), (53, 999), (54, 999)] I I16 := hF.trans hf16 rfl rfl
      have hc16 := hc.mv ka hf16 rfl
      exact r_iret hC hQ hlk hr rfl (by decide) (by decide) dX8_nought_21 ⟨_, _, rfl, rfl, ⟨hs16, hF16, (by exact hc16), (by first | exact Or.inr ⟨by omega, by omega⟩ | exact Or.inl ⟨by omega, (congrArg Int32.toInt k16_0).trans NOlq⟩), (by omega)⟩⟩
  · refine r_if_eq hC (tgt := 16) dX8_nought_7 (by decide) (fun c17 => ?_) (fun c17 => ?_)
    rotate_left
    · exfalso; omega
    refine r_aload_n hC dX8_nought_16 0 rfl ?_
    refine r_iconst hC (v := (1)) dX8_nought_17 (by decide) (by decide) (fun x18_ e18 t18 => ?_)
    refine r_callV hC (As := [.int x18_]) (rest := []) (ci := 8) (c_X8_refuse g (xL X) K len I J R hs a0 ka0 x18_) mT_2_133 mT_1_1 mT_2_130 mT_2_132 mP_0 okX8_refuse ⟨by decide, by decide⟩ rfl (by show kO (K a0) = _; rw [ka0]; rfl) rfl rfl (Nat.le_of_ble_eq_true rfl) ⟨by decide, by decide⟩ dX8_nought_18 (aI1 (F := fun st M => P g X 7 21 [(0, .ref a0), (1, .int x1), (2, .int x2), (3, .int x3)] st _ _ M) (M := (K, len, I, J, R)) fun x19_ I19 h19 => ?_)
    obtain ⟨hs19, hf19, k19_0, k19_1⟩ := h19
    show P g X 7 21 [(0, .ref a0), (1, .int x1), (2, .int x2), (3, .int x3)] [.int x19_] _ _ (K, len, I19, J, R)
    have hF19 : Fr K [(1, 5), (1, 6), (9, 12), (43, 999), (50, 999), (51, 999), (52, 999), (53, 999), (54, 999)] I I19 := hF.trans hf19 rfl rfl
    have hc19 := hc.mv ka hf19 rfl
    exact r_iret hC hQ hlk hr rfl (by decide) (by decide) dX8_nought_21 ⟨_, _, rfl, rfl, ⟨hs19, hF19, (by exact hc19), (by first | exact Or.inr ⟨by omega, by omega⟩ | exact Or.inl ⟨by omega, (congrArg Int32.toInt k19_0).trans NOlq⟩), (by omega)⟩⟩
set_option maxHeartbeats 4000000 in
set_option maxRecDepth 100000 in
theorem f_X10_isLine (g : GG) (l : Launch) (K len : Nat → Nat) (I : Nat → Nat → Int32) (J : Nat → Nat → Int64) (R : Nat → Nat → Option Nat) (hs : Sf K len I R) (a0 : Nat) (ka0 : K a0 = 11) (x1 : Int32) (x2 : Int32) (x3 : Int32) (D : DD) (E : Nat → Nat → Int) (hmx : ∀ hm, R a0 3 = some hm → MC D E a0 hm I R) : Ct g l yX10_isLine cX10_isLine 4 (Option.some Jvm.ClassFile.FieldType.boolean) rmX10_isLine [.ref a0, .int x1, .int x2, .int x3] (K, len, I, J, R) (pI0 (K, len, I, J, R) (fun r => ((R a0 3 = none ∧ r.toInt = 0) ∨ (∃ hm, R a0 3 = some hm ∧ (r.toInt = 1 ∧ ((0 ≤ x1.toInt ∧ x1.toInt < D 0 7) ∧ (0 ≤ x2.toInt ∧ x2.toInt < D 0 5) ∧ 0 ≤ x3.toInt ∧ x3.toInt ≤ 58) ∨ r.toInt = 0 ∧ ¬ ((0 ≤ x1.toInt ∧ x1.toInt < D 0 7) ∧ (0 ≤ x2.toInt ∧ x2.toInt < D 0 5) ∧ 0 ≤ x3.toInt ∧ x3.toInt ≤ 58)))))) := by
  refine Ct_intro (by decide +kernel) (Nat.le_of_ble_eq_true rfl) (fun X hC hL hKK hNm hr hlk hQ => ?_)
  subst hL
  have hC : Cx g X cX10_isLine "HillTapModel" 4 rmX10_isLine := hC
  show P g X 4 0 [(0, .ref a0), (1, .int x1), (2, .int x2), (3, .int x3)] [] 0 0 (K, len, I, J, R)
  have hF : Fr K [] I I := Fr.refl
  have b_x1 := ti_rng x1
  have b_x2 := ti_rng x2
  have b_x3 := ti_rng x3
  rcases hs.2.1.2.2.1 a0 ka0 with hz | ⟨hm, hbm, khm⟩
  · refine r_aload_n hC dX10_isLine_0 0 rfl ?_
    refine r_iload_n hC dX10_isLine_1 1 rfl ?_
    refine r_callV hC (As := [.int x1]) (rest := []) (ci := 10) (f_X10_isStory g (xL X) K len I J R hs a0 ka0 x1) mT_6_119 mT_1_10 mT_6_116 mT_6_118 mP_71 okX10_isStory ⟨by decide, by decide⟩ rfl (by show kO (K a0) = _; rw [ka0]; rfl) rfl rfl (Nat.le_of_ble_eq_true rfl) ⟨by decide, by decide⟩ dX10_isLine_2 (aI0 (F := fun st M => P g X 4 5 [(0, .ref a0), (1, .int x1), (2, .int x2), (3, .int x3)] st _ _ M) (M := (K, len, I, J, R)) fun x1_ h1 => ?_)
    have k1_0 := h1
    clear h1
    show P g X 4 5 [(0, .ref a0), (1, .int x1), (2, .int x2), (3, .int x3)] [.int x1_] _ _ (K, len, I, J, R)
    have kq1 : x1_.toInt = 0 := by rcases k1_0 with ⟨z, y⟩ | ⟨hm9, z, y⟩; exact y; rw [hz] at z; cases z
    clear k1_0
    refine r_if_eq hC (tgt := 30) dX10_isLine_5 (by decide) (fun c2 => ?_) (fun c2 => ?_)
    rotate_left
    · exfalso; omega
    refine r_iconst hC (v := (0)) dX10_isLine_30 (by decide) (by decide) (fun x3_ e3 t3 => ?_)
    exact r_iret hC hQ hlk hr (by rw [e3]; rfl) (by decide) (by decide) dX10_isLine_31 ⟨_, rfl, rfl, (by first | exact Or.inl ⟨hz, by omega⟩ | exact Or.inr ⟨hm, hbm, by omega⟩)⟩
  · obtain ⟨S0, eS0⟩ : ∃ z : Int32, z = I hm 7 := ⟨_, rfl⟩
    have fS0 : S0.toInt = (I hm 7).toInt := by rw [eS0]
    have rS0 := hs.rng khm rfl eS0
    have mc := hmx hm hbm
    obtain ⟨⟨hJ, hR6, hD7⟩, rwm, ⟨hd1, hd2, hd3, hd4, hd5, hd7, hd8, hd9⟩, -⟩ := id mc
    have hcx := CM_x hs khm
    have b5 := hs.rng khm (k := 3) rfl (x := I hm 3) rfl
    have b7 := hs.rng khm (k := 7) rfl (x := I hm 7) rfl
    have b8 := hs.rng khm (k := 8) rfl (x := I hm 8) rfl
    have b20 := hs.rng ka0 (k := 20) rfl (x := I a0 20) rfl
    refine r_aload_n hC dX10_isLine_0 0 rfl ?_
    refine r_iload_n hC dX10_isLine_1 1 rfl ?_
    refine r_callV hC (As := [.int x1]) (rest := []) (ci := 10) (f_X10_isStory g (xL X) K len I J R hs a0 ka0 x1) mT_6_119 mT_1_10 mT_6_116 mT_6_118 mP_71 okX10_isStory ⟨by decide, by decide⟩ rfl (by show kO (K a0) = _; rw [ka0]; rfl) rfl rfl (Nat.le_of_ble_eq_true rfl) ⟨by decide, by decide⟩ dX10_isLine_2 (aI0 (F := fun st M => P g X 4 5 [(0, .ref a0), (1, .int x1), (2, .int x2), (3, .int x3)] st _ _ M) (M := (K, len, I, J, R)) fun x4_ h4 => ?_)
    have k4_0 := h4
    clear h4
    show P g X 4 5 [(0, .ref a0), (1, .int x1), (2, .int x2), (3, .int x3)] [.int x4_] _ _ (K, len, I, J, R)
    have kq4 : x4_.toInt = 1 ∧ (0 ≤ x1.toInt ∧ x1.toInt < D 0 7) ∨ x4_.toInt = 0 ∧ ¬ (0 ≤ x1.toInt ∧ x1.toInt < D 0 7) := by rcases k4_0 with ⟨z, -⟩ | ⟨hm9, z, y⟩ <;> rw [hbm] at z <;> cases z; rw [show (I hm 7).toInt = _ from mc.2.2.1.2.2.2.2.2.1] at y; exact y
    clear k4_0
    refine r_if_eq hC (tgt := 30) dX10_isLine_5 (by decide) (fun c5 => ?_) (fun c5 => ?_)
    · refine r_iconst hC (v := (0)) dX10_isLine_30 (by decide) (by decide) (fun x6_ e6 t6 => ?_)
      exact r_iret hC hQ hlk hr (by rw [e6]; rfl) (by decide) (by decide) dX10_isLine_31 ⟨_, rfl, rfl, (by first | exact Or.inl ⟨hz, by omega⟩ | exact Or.inr ⟨hm, hbm, by omega⟩)⟩
    · refine r_aload_n hC dX10_isLine_8 0 rfl ?_
      refine r_iload_n hC dX10_isLine_9 2 rfl ?_
      refine r_callV hC (As := [.int x2]) (rest := []) (ci := 10) (f_X10_isPeg g (xL X) K len I J R hs a0 ka0 x2) mT_6_123 mT_1_10 mT_6_120 mT_6_122 mP_72 okX10_isPeg ⟨by decide, by decide⟩ rfl (by show kO (K a0) = _; rw [ka0]; rfl) rfl rfl (Nat.le_of_ble_eq_true rfl) ⟨by decide, by decide⟩ dX10_isLine_10 (aI0 (F := fun st M => P g X 4 13 [(0, .ref a0), (1, .int x1), (2, .int x2), (3, .int x3)] st _ _ M) (M := (K, len, I, J, R)) fun x7_ h7 => ?_)
      have k7_0 := h7
      clear h7
      show P g X 4 13 [(0, .ref a0), (1, .int x1), (2, .int x2), (3, .int x3)] [.int x7_] _ _ (K, len, I, J, R)
      have kq7 : x7_.toInt = 1 ∧ (0 ≤ x2.toInt ∧ x2.toInt < D 0 5) ∨ x7_.toInt = 0 ∧ ¬ (0 ≤ x2.toInt ∧ x2.toInt < D 0 5) := by rcases k7_0 with ⟨z, -⟩ | ⟨hm9, z, y⟩ <;> rw [hbm] at z <;> cases z; rw [show (I hm 3).toInt = _ from mc.2.2.1.2.2.2.2.1] at y; exact y
      clear k7_0
      refine r_if_eq hC (tgt := 30) dX10_isLine_13 (by decide) (fun c8 => ?_) (fun c8 => ?_)
      · refine r_iconst hC (v := (0)) dX10_isLine_30 (by decide) (by decide) (fun x9_ e9 t9 => ?_)
        exact r_iret hC hQ hlk hr (by rw [e9]; rfl) (by decide) (by decide) dX10_isLine_31 ⟨_, rfl, rfl, (by first | exact Or.inl ⟨hz, by omega⟩ | exact Or.inr ⟨hm, hbm, by omega⟩)⟩
      · refine r_iload_n hC dX10_isLine_16 3 rfl ?_
        refine r_if_lt hC (tgt := 30) dX10_isLine_17 (by decide) (fun c10 => ?_) (fun c10 => ?_)
        · refine r_iconst hC (v := (0)) dX10_isLine_30 (by decide) (by decide) (fun x11_ e11 t11 => ?_)
          exact r_iret hC hQ hlk hr (by rw [e11]; rfl) (by decide) (by decide) dX10_isLine_31 ⟨_, rfl, rfl, (by first | exact Or.inl ⟨hz, by omega⟩ | exact Or.inr ⟨hm, hbm, by omega⟩)⟩
        · refine r_iload_n hC dX10_isLine_20 3 rfl ?_
          refine r_bipush hC (v := (59)) dX10_isLine_21 (by decide) (by decide) (fun x12_ e12 t12 => ?_)
          refine r_icmp_ge hC (tgt := 30) dX10_isLine_23 (by decide) (fun c13 => ?_) (fun c13 => ?_)
          · refine r_iconst hC (v := (0)) dX10_isLine_30 (by decide) (by decide) (fun x14_ e14 t14 => ?_)
            exact r_iret hC hQ hlk hr (by rw [e14]; rfl) (by decide) (by decide) dX10_isLine_31 ⟨_, rfl, rfl, (by first | exact Or.inl ⟨hz, by omega⟩ | exact Or.inr ⟨hm, hbm, by omega⟩)⟩
          · refine r_iconst hC (v := (1)) dX10_isLine_26 (by decide) (by decide) (fun x15_ e15 t15 => ?_)
            refine r_goto hC (tgt := 31) dX10_isLine_27 (by decide) ?_
            exact r_iret hC hQ hlk hr (by rw [e15]; rfl) (by decide) (by decide) dX10_isLine_31 ⟨_, rfl, rfl, (by first | exact Or.inl ⟨hz, by omega⟩ | exact Or.inr ⟨hm, hbm, by omega⟩)⟩
set_option maxHeartbeats 4000000 in
set_option maxRecDepth 100000 in
theorem f_X10_nought (g : GG) (l : Launch) (K len : Nat → Nat) (I : Nat → Nat → Int32) (J : Nat → Nat → Int64) (R : Nat → Nat → Option Nat) (hs : Sf K len I R) (a0 : Nat) (ka0 : K a0 = 11) (x1 : Int32) (x2 : Int32) (x3 : Int32) (D : DD) (E : Nat → Nat → Int) (hmx : ∀ hm, R a0 3 = some hm → MC D E a0 hm I R) : Ct g l yX10_nought cX10_nought 5 (Option.some Jvm.ClassFile.FieldType.int) rmX10_nought [.ref a0, .int x1, .int x2, .int x3] (K, len, I, J, R) (pI1 (K, len, I, J, R) (fun r I' => Sf K len I' R ∧ Fr K [(11, 0), (11, 1), (11, 2), (11, 19), (85, 999), (86, 999), (87, 999), (88, 999)] I I' ∧ ((R a0 3 = none ∧ r.toInt = -1) ∨ (∃ hm, R a0 3 = some hm ∧ (((0 ≤ x1.toInt ∧ x1.toInt < D 0 7) ∧ (0 ≤ x2.toInt ∧ x2.toInt < D 0 5) ∧ 0 ≤ x3.toInt ∧ x3.toInt ≤ 58) ∧ r.toInt = Ng x3.toInt (SV D x1.toInt.toNat (Ad D x1.toInt.toNat (LP1 D) 1) x3.toInt.toNat x2.toInt.toNat) (SV D x1.toInt.toNat (Ad D x1.toInt.toNat (LP1 D) 1) (x3.toInt.toNat + 1) x2.toInt.toNat) ∨ ¬ ((0 ≤ x1.toInt ∧ x1.toInt < D 0 7) ∧ (0 ≤ x2.toInt ∧ x2.toInt < D 0 5) ∧ 0 ≤ x3.toInt ∧ x3.toInt ≤ 58) ∧ r.toInt = -1))) ∧ ((I' a0 2).toInt = -1))) := by
  refine Ct_intro (by decide +kernel) (Nat.le_of_ble_eq_true rfl) (fun X hC hL hKK hNm hr hlk hQ => ?_)
  subst hL
  have hC : Cx g X cX10_nought "HillTapModel" 5 rmX10_nought := hC
  show P g X 5 0 [(0, .ref a0), (1, .int x1), (2, .int x2), (3, .int x3)] [] 0 0 (K, len, I, J, R)
  have hF : Fr K [(11, 0), (11, 1), (11, 2), (11, 19), (85, 999), (86, 999), (87, 999), (88, 999)] I I := Fr.refl
  obtain ⟨lr, hlr, klr, llr⟩ := hs.row ka0 15 85 60 (by decide) (by decide)
  obtain ⟨sr, hsr, ksr, lsr⟩ := hs.row ka0 16 86 300 (by decide) (by decide)
  obtain ⟨ir, hir, kir, lir⟩ := hs.row ka0 17 87 300 (by decide) (by decide)
  obtain ⟨wr, hwr, kwr, lwr⟩ := hs.row ka0 18 88 300 (by decide) (by decide)
  have b_x1 := ti_rng x1
  have b_x2 := ti_rng x2
  have b_x3 := ti_rng x3
  rcases hs.2.1.2.2.1 a0 ka0 with hz | ⟨hm, hbm, khm⟩
  · refine r_aload_n hC dX10_nought_0 0 rfl ?_
    refine r_iconst hC (v := (0)) dX10_nought_1 (by decide) (by decide) (fun x1_ e1 t1 => ?_)
    refine r_puti hC 0 (ci := 10) rfl u10_in tyX10_ok nmX10 (by decide) mT_4_235 rfl rfl rfl dX10_nought_2 ka0 rfl rfl (fun I2 eI2 => ?_)
    have hs2 := hs.put0 eI2 ka0 rfl rfl rfl (by decide)
    have hF2 := hF.put eI2 ka0 rfl
    refine r_aload_n hC dX10_nought_5 0 rfl ?_
    refine r_iload_n hC dX10_nought_6 1 rfl ?_
    refine r_iload_n hC dX10_nought_7 2 rfl ?_
    refine r_iload_n hC dX10_nought_8 3 rfl ?_
    refine r_callV hC (As := [.int x1, .int x2, .int x3]) (rest := []) (ci := 10) (f_X10_isLine g (xL X) K len I2 J R hs2 a0 ka0 x1 x2 x3 D E (fun hm9 z9 => by rw [hz] at z9; cases z9)) mT_7_4 mT_1_10 mT_7_1 mT_7_3 mP_90 okX10_isLine ⟨by decide, by decide⟩ rfl (by show kO (K a0) = _; rw [ka0]; rfl) rfl rfl (Nat.le_of_ble_eq_true rfl) ⟨by decide, by decide⟩ dX10_nought_9 (aI0 (F := fun st M => P g X 5 12 [(0, .ref a0), (1, .int x1), (2, .int x2), (3, .int x3)] st _ _ M) (M := (K, len, I2, J, R)) fun x3_ h3 => ?_)
    have k3_0 := h3
    clear h3
    show P g X 5 12 [(0, .ref a0), (1, .int x1), (2, .int x2), (3, .int x3)] [.int x3_] _ _ (K, len, I2, J, R)
    have kq3 : x3_.toInt = 0 := by rcases k3_0 with ⟨z, y⟩ | ⟨hm9, z, y⟩; exact y; rw [hz] at z; cases z
    clear k3_0
    refine r_if_ne hC (tgt := 21) dX10_nought_12 (by decide) (fun c4 => ?_) (fun c4 => ?_)
    · exfalso; omega
    refine r_aload_n hC dX10_nought_15 0 rfl ?_
    refine r_iconst hC (v := (1)) dX10_nought_16 (by decide) (by decide) (fun x5_ e5 t5 => ?_)
    refine r_callV hC (As := [.int x5_]) (rest := []) (ci := 10) (c_X10_refused g (xL X) K len I2 J R hs2 a0 ka0 x5_) mT_5_85 mT_1_10 mT_5_82 mT_5_84 mP_48 okX10_refused ⟨by decide, by decide⟩ rfl (by show kO (K a0) = _; rw [ka0]; rfl) rfl rfl (Nat.le_of_ble_eq_true rfl) ⟨by decide, by decide⟩ dX10_nought_17 (aI1 (F := fun st M => P g X 5 20 [(0, .ref a0), (1, .int x1), (2, .int x2), (3, .int x3)] st _ _ M) (M := (K, len, I2, J, R)) fun x6_ I6 h6 => ?_)
    obtain ⟨hs6, hf6, k6_0, k6_1, k6_2⟩ := h6
    show P g X 5 20 [(0, .ref a0), (1, .int x1), (2, .int x2), (3, .int x3)] [.int x6_] _ _ (K, len, I6, J, R)
    have hF6 : Fr K [(11, 0), (11, 1), (11, 2), (11, 19), (85, 999), (86, 999), (87, 999), (88, 999)] I I6 := hF2.trans hf6 rfl rfl
    exact r_iret hC hQ hlk hr rfl (by decide) (by decide) dX10_nought_20 ⟨_, _, rfl, rfl, ⟨hs6, hF6, (by first | exact Or.inl ⟨hz, by omega⟩ | exact Or.inr ⟨hm, hbm, Or.inr ⟨by omega, by omega⟩⟩ | exact Or.inr ⟨hm, hbm, Or.inl ⟨by omega, (congrArg Int32.toInt k6_0).trans NOlq⟩⟩), (by omega)⟩⟩
  · obtain ⟨S0, eS0⟩ : ∃ z : Int32, z = I hm 7 := ⟨_, rfl⟩
    have fS0 : S0.toInt = (I hm 7).toInt := by rw [eS0]
    have rS0 := hs.rng khm rfl eS0
    have mc := hmx hm hbm
    obtain ⟨⟨hJ, hR6, hD7⟩, rwm, ⟨hd1, hd2, hd3, hd4, hd5, hd7, hd8, hd9⟩, -⟩ := id mc
    have hcx := CM_x hs khm
    have b5 := hs.rng khm (k := 3) rfl (x := I hm 3) rfl
    have b7 := hs.rng khm (k := 7) rfl (x := I hm 7) rfl
    have b8 := hs.rng khm (k := 8) rfl (x := I hm 8) rfl
    have b20 := hs.rng ka0 (k := 20) rfl (x := I a0 20) rfl
    refine r_aload_n hC dX10_nought_0 0 rfl ?_
    refine r_iconst hC (v := (0)) dX10_nought_1 (by decide) (by decide) (fun x7_ e7 t7 => ?_)
    refine r_puti hC 0 (ci := 10) rfl u10_in tyX10_ok nmX10 (by decide) mT_4_235 rfl rfl rfl dX10_nought_2 ka0 rfl rfl (fun I8 eI8 => ?_)
    have hs8 := hs.put0 eI8 ka0 rfl rfl rfl (by decide)
    have hF8 := hF.put eI8 ka0 rfl
    refine r_aload_n hC dX10_nought_5 0 rfl ?_
    refine r_iload_n hC dX10_nought_6 1 rfl ?_
    refine r_iload_n hC dX10_nought_7 2 rfl ?_
    refine r_iload_n hC dX10_nought_8 3 rfl ?_
    refine r_callV hC (As := [.int x1, .int x2, .int x3]) (rest := []) (ci := 10) (f_X10_isLine g (xL X) K len I8 J R hs8 a0 ka0 x1 x2 x3 D E (fun hm9 z9 => by rw [hbm] at z9; cases z9; exact (mc.mv hs ka0 khm hF8 rfl))) mT_7_4 mT_1_10 mT_7_1 mT_7_3 mP_90 okX10_isLine ⟨by decide, by decide⟩ rfl (by show kO (K a0) = _; rw [ka0]; rfl) rfl rfl (Nat.le_of_ble_eq_true rfl) ⟨by decide, by decide⟩ dX10_nought_9 (aI0 (F := fun st M => P g X 5 12 [(0, .ref a0), (1, .int x1), (2, .int x2), (3, .int x3)] st _ _ M) (M := (K, len, I8, J, R)) fun x9_ h9 => ?_)
    have k9_0 := h9
    clear h9
    show P g X 5 12 [(0, .ref a0), (1, .int x1), (2, .int x2), (3, .int x3)] [.int x9_] _ _ (K, len, I8, J, R)
    have kq9 : x9_.toInt = 1 ∧ ((0 ≤ x1.toInt ∧ x1.toInt < D 0 7) ∧ (0 ≤ x2.toInt ∧ x2.toInt < D 0 5) ∧ 0 ≤ x3.toInt ∧ x3.toInt ≤ 58) ∨ x9_.toInt = 0 ∧ ¬ ((0 ≤ x1.toInt ∧ x1.toInt < D 0 7) ∧ (0 ≤ x2.toInt ∧ x2.toInt < D 0 5) ∧ 0 ≤ x3.toInt ∧ x3.toInt ≤ 58) := by rcases k9_0 with ⟨z, -⟩ | ⟨hm9, z, y⟩ <;> rw [hbm] at z <;> cases z; exact y
    clear k9_0
    refine r_if_ne hC (tgt := 21) dX10_nought_12 (by decide) (fun c10 => ?_) (fun c10 => ?_)
    · refine r_aload_n hC dX10_nought_21 0 rfl ?_
      refine r_iload_n hC dX10_nought_22 1 rfl ?_
      have hv11 : I8 hm 7 = S0 := (Eq.trans (up2_kk eI8 ka0 khm (by decide)) eS0.symm)
      refine r_callV hC (As := [.int x1]) (rest := []) (ci := 10) (f_X10_runsAsTold g (xL X) K len I8 J R hs8 a0 ka0 x1 hm hbm khm (by rw [hv11]; omega) lr hlr klr llr sr hsr ksr lsr ir hir kir lir wr hwr kwr lwr D E (mc.mv hs ka0 khm hF8 rfl) (by omega) (by omega)) mT_6_127 mT_1_10 mT_6_124 mT_6_126 mP_73 okX10_runsAsTold ⟨by decide, by decide⟩ rfl (by show kO (K a0) = _; rw [ka0]; rfl) rfl rfl (Nat.le_of_ble_eq_true rfl) ⟨by decide, by decide⟩ dX10_nought_23 (aV1 (F := fun st M => P g X 5 26 [(0, .ref a0), (1, .int x1), (2, .int x2), (3, .int x3)] st _ _ M) (M := (K, len, I8, J, R)) fun I12 h12 => ?_)
      obtain ⟨hs12, hf12, k12_0⟩ := h12
      show P g X 5 26 [(0, .ref a0), (1, .int x1), (2, .int x2), (3, .int x3)] [] _ _ (K, len, I12, J, R)
      have hF12 : Fr K [(11, 0), (11, 1), (11, 2), (11, 19), (85, 999), (86, 999), (87, 999), (88, 999)] I I12 := hF8.trans hf12 rfl rfl
      refine r_bipush hC (v := (60)) dX10_nought_26 (by decide) (by decide) (fun x13_ e13 t13 => ?_)
      refine r_iload_n hC dX10_nought_28 2 rfl ?_
      refine r_imul hC dX10_nought_29 (fun x14_ e14 => ?_)
      try have t14 : x14_.toInt = (60) * x2.toInt := by rw [e14]; exact ti_mul (by omega) rfl (by omega) (by omega)
      refine r_iload_n hC dX10_nought_30 3 rfl ?_
      refine r_iadd hC dX10_nought_31 (fun x15_ e15 => ?_)
      try have t15 : x15_.toInt = x14_.toInt + x3.toInt := by rw [e15]; exact ti_add (by omega) (by omega)
      refine r_istore hC (lv' := [(4, .int x15_), (0, .ref a0), (1, .int x1), (2, .int x2), (3, .int x3)]) dX10_nought_32 (by decide) rfl ?_
      refine r_aload_n hC dX10_nought_34 1 rfl ?_
      refine r_iload_n hC dX10_nought_35 4 rfl ?_
      refine r_aload_n hC dX10_nought_36 1 rfl ?_
      refine r_getr hC 16 (ci := 10) rfl u10_in (by decide) mT_5_11 dX10_nought_37 ka0 rfl rfl hsr ?_
      refine r_iload hC dX10_nought_40 0 rfl ?_
      refine x_iaload hC ksr lsr (by decide) rfl rfl dX10_nought_42 (by omega) (by omega) (fun x16_ e16 => ?_)
      have q16 : x16_.toInt = SV D x1.toInt.toNat (Ad D x1.toInt.toNat (LP1 D) 1) x3.toInt.toNat x2.toInt.toNat := by rw [e16, clx (i := x15_) rfl (by omega), show x15_.toInt.toNat = 60 * x2.toInt.toNat + x3.toInt.toNat by omega]; exact k12_0.spd (by omega) (by omega)
      have jb16 := mc.svb (s := x1.toInt.toNat) (show ((x1.toInt.toNat : Nat) : Int) < D 0 7 by omega) (w2 := 1) x3.toInt.toNat x2.toInt.toNat
      refine r_aload_n hC dX10_nought_43 1 rfl ?_
      refine r_getr hC 16 (ci := 10) rfl u10_in (by decide) mT_5_11 dX10_nought_44 ka0 rfl rfl hsr ?_
      refine r_iload hC dX10_nought_47 0 rfl ?_
      refine r_iconst hC (v := (1)) dX10_nought_49 (by decide) (by decide) (fun x17_ e17 t17 => ?_)
      refine r_iadd hC dX10_nought_50 (fun x18_ e18 => ?_)
      try have t18 : x18_.toInt = x15_.toInt + x17_.toInt := by rw [e18]; exact ti_add (by omega) (by omega)
      refine x_iaload hC ksr lsr (by decide) rfl rfl dX10_nought_51 (by omega) (by omega) (fun x19_ e19 => ?_)
      have q19 : x19_.toInt = SV D x1.toInt.toNat (Ad D x1.toInt.toNat (LP1 D) 1) (x3.toInt.toNat + 1) x2.toInt.toNat := by rw [e19, clx (i := x18_) rfl (by omega), show x18_.toInt.toNat = 60 * x2.toInt.toNat + (x3.toInt.toNat + 1) by omega]; exact k12_0.spd (by omega) (by omega)
      have jb19 := mc.svb (s := x1.toInt.toNat) (show ((x1.toInt.toNat : Nat) : Int) < D 0 7 by omega) (w2 := 1) (x3.toInt.toNat + 1) x2.toInt.toNat
      refine r_callS hC (As := [.int x3, .int x16_, .int x19_]) (rest := [.ref a0]) (f_X10_noughtBy g (xL X) K len I12 J R hs12 x3 x16_ x19_ (by omega) (by omega) (by omega)) mT_7_7 mT_1_10 mT_7_5 mT_7_6 okX10_noughtBy ⟨by decide, by decide⟩ rfl rfl (Nat.le_of_ble_eq_true rfl) ⟨by decide, by decide⟩ dX10_nought_52 (aI0 (F := fun st M => P g X 5 55 [(4, .int x15_), (0, .ref a0), (1, .int x1), (2, .int x2), (3, .int x3)] st _ _ M) (M := (K, len, I12, J, R)) fun x20_ h20 => ?_)
      obtain ⟨k20_0, k20_1⟩ := h20
      show P g X 5 55 [(4, .int x15_), (0, .ref a0), (1, .int x1), (2, .int x2), (3, .int x3)] [.int x20_, .ref a0] _ _ (K, len, I12, J, R)
      have lqn : x20_.toInt = Ng x3.toInt (SV D x1.toInt.toNat (Ad D x1.toInt.toNat (LP1 D) 1) x3.toInt.toNat x2.toInt.toNat) (SV D x1.toInt.toNat (Ad D x1.toInt.toNat (LP1 D) 1) (x3.toInt.toNat + 1) x2.toInt.toNat) := by rw [k20_0, ← q16, ← q19]
      refine r_callV hC (As := [.int x20_]) (rest := []) (ci := 10) (c_X10_done g (xL X) K len I12 J R hs12 a0 ka0 x20_) mT_6_79 mT_1_10 mT_6_76 mT_6_78 mP_67 okX10_done ⟨by decide, by decide⟩ rfl (by show kO (K a0) = _; rw [ka0]; rfl) rfl rfl (Nat.le_of_ble_eq_true rfl) ⟨by decide, by decide⟩ dX10_nought_55 (aI1 (F := fun st M => P g X 5 58 [(4, .int x15_), (0, .ref a0), (1, .int x1), (2, .int x2), (3, .int x3)] st _ _ M) (M := (K, len, I12, J, R)) fun x21_ I21 h21 => ?_)
      obtain ⟨hs21, hf21, k21_0, k21_1, k21_2⟩ := h21
      show P g X 5 58 [(4, .int x15_), (0, .ref a0), (1, .int x1), (2, .int x2), (3, .int x3)] [.int x21_] _ _ (K, len, I21, J, R)
      have hF21 : Fr K [(11, 0), (11, 1), (11, 2), (11, 19), (85, 999), (86, 999), (87, 999), (88, 999)] I I21 := hF12.trans hf21 rfl rfl
      have mo21 := k12_0.mv ka0 klr ksr kir kwr hf21 rfl
      exact r_iret hC hQ hlk hr rfl (by decide) (by decide) dX10_nought_58 ⟨_, _, rfl, rfl, ⟨hs21, hF21, (by first | exact Or.inl ⟨hz, by omega⟩ | exact Or.inr ⟨hm, hbm, Or.inr ⟨by omega, by omega⟩⟩ | exact Or.inr ⟨hm, hbm, Or.inl ⟨by omega, (congrArg Int32.toInt k21_0).trans lqn⟩⟩), (by omega)⟩⟩
    · refine r_aload_n hC dX10_nought_15 0 rfl ?_
      refine r_iconst hC (v := (1)) dX10_nought_16 (by decide) (by decide) (fun x22_ e22 t22 => ?_)
      refine r_callV hC (As := [.int x22_]) (rest := []) (ci := 10) (c_X10_refused g (xL X) K len I8 J R hs8 a0 ka0 x22_) mT_5_85 mT_1_10 mT_5_82 mT_5_84 mP_48 okX10_refused ⟨by decide, by decide⟩ rfl (by show kO (K a0) = _; rw [ka0]; rfl) rfl rfl (Nat.le_of_ble_eq_true rfl) ⟨by decide, by decide⟩ dX10_nought_17 (aI1 (F := fun st M => P g X 5 20 [(0, .ref a0), (1, .int x1), (2, .int x2), (3, .int x3)] st _ _ M) (M := (K, len, I8, J, R)) fun x23_ I23 h23 => ?_)
      obtain ⟨hs23, hf23, k23_0, k23_1, k23_2⟩ := h23
      show P g X 5 20 [(0, .ref a0), (1, .int x1), (2, .int x2), (3, .int x3)] [.int x23_] _ _ (K, len, I23, J, R)
      have hF23 : Fr K [(11, 0), (11, 1), (11, 2), (11, 19), (85, 999), (86, 999), (87, 999), (88, 999)] I I23 := hF8.trans hf23 rfl rfl
      exact r_iret hC hQ hlk hr rfl (by decide) (by decide) dX10_nought_20 ⟨_, _, rfl, rfl, ⟨hs23, hF23, (by first | exact Or.inl ⟨hz, by omega⟩ | exact Or.inr ⟨hm, hbm, Or.inr ⟨by omega, by omega⟩⟩ | exact Or.inr ⟨hm, hbm, Or.inl ⟨by omega, (congrArg Int32.toInt k23_0).trans NOlq⟩⟩), (by omega)⟩⟩
set_option maxHeartbeats 4000000 in
set_option maxRecDepth 100000 in
theorem a_X8_peg (g : GG) (l : Launch) (K len : Nat → Nat) (I : Nat → Nat → Int32) (J : Nat → Nat → Int64) (R : Nat → Nat → Option Nat) (hs : Sf K len I R) (a0 : Nat) (ka0 : K a0 = 9) (x1 : Int32) (x2 : Int32) (x3 : Int32) (x4 : Int32) (h : Nat) (hh : R a0 2 = some h) (kh : K h = 2) (lk : Nat) (hlk2 : R h 0 = some lk) (klk : K lk = 3) (rd : Nat) (hrd : R a0 9 = some rd) (krd : K rd = 4) (lv : Nat) (hlv : R a0 4 = some lv) (klv : K lv = 41) (llv : len lv = 60) (kn : Nat) (hkn : R a0 6 = some kn) (kkn : K kn = 43) (lkn : len kn = 6) (cr : Nat) (hcr : R a0 5 = some cr) (kcr1 : K cr = 44) (lcr : len cr = 6) (hu : UU K R) (D : DD) (E : Nat → Nat → Int) (hc : KC D E a0 h lk rd I R) : Ct g l yX8_peg cX8_peg 6 (Option.some Jvm.ClassFile.FieldType.int) rmX8_peg [.ref a0, .int x1, .int x2, .int x3, .int x4] (K, len, I, J, R) (pI1 (K, len, I, J, R) (fun r I' => Sf K len I' R ∧ Fr K [(1, 5), (1, 6), (9, 12), (43, 999), (50, 999), (51, 999), (52, 999), (53, 999), (54, 999)] I I' ∧ (KC D E a0 h lk rd I' R) ∧ ((((0 ≤ x1.toInt ∧ x1.toInt < D 0 7) ∧ (0 ≤ x2.toInt ∧ x2.toInt < D 0 5) ∧ 0 ≤ x3.toInt ∧ x3.toInt ≤ 59) ∧ 0 ≤ x4.toInt ∧ x4.toInt ≤ 2) ∧ r.toInt = (if x4.toInt = 0 then NV D x1.toInt.toNat (Ad D x1.toInt.toNat (LP1 D) 1) x3.toInt.toNat x2.toInt.toNat else if x4.toInt = 1 then SV D x1.toInt.toNat (Ad D x1.toInt.toNat (LP1 D) 1) x3.toInt.toNat x2.toInt.toNat else WV D x1.toInt.toNat (Ad D x1.toInt.toNat (LP1 D) 1) x3.toInt.toNat x2.toInt.toNat) ∨ ¬ (((0 ≤ x1.toInt ∧ x1.toInt < D 0 7) ∧ (0 ≤ x2.toInt ∧ x2.toInt < D 0 5) ∧ 0 ≤ x3.toInt ∧ x3.toInt ≤ 59) ∧ 0 ≤ x4.toInt ∧ x4.toInt ≤ 2) ∧ r.toInt = -1) ∧ ((I' a0 12).toInt ≠ 4))) := by
  refine Ct_intro (by decide +kernel) (Nat.le_of_ble_eq_true rfl) (fun X hC hL hKK hNm hr hlk hQ => ?_)
  subst hL
  have hC : Cx g X cX8_peg "HillTap" 6 rmX8_peg := hC
  show P g X 6 0 [(0, .ref a0), (1, .int x1), (2, .int x2), (3, .int x3), (4, .int x4)] [] 0 0 (K, len, I, J, R)
  have hF : Fr K [(1, 5), (1, 6), (9, 12), (43, 999), (50, 999), (51, 999), (52, 999), (53, 999), (54, 999)] I I := Fr.refl
  have ka : KA a0 h lk rd K len R := ⟨⟨_, hs⟩, hu, ka0, kh, klk, krd⟩
  obtain ⟨sd1, sd2, sd3, sd4, sd5, sd7, sd8, sd9⟩ := id hc.2.1
  have d7b := hs.rng kh (k := 6) rfl (x := I h 6) rfl
  have d5b := hs.rng kh (k := 1) rfl (x := I h 1) rfl
  have d8b := hs.rng kh (k := 8) rfl (x := I h 8) rfl
  have b_x1 := ti_rng x1
  have b_x2 := ti_rng x2
  have b_x3 := ti_rng x3
  have b_x4 := ti_rng x4
  refine r_aload_n hC dX8_peg_0 0 rfl ?_
  refine r_iload_n hC dX8_peg_1 1 rfl ?_
  refine r_iload_n hC dX8_peg_2 2 rfl ?_
  refine r_iload_n hC dX8_peg_3 3 rfl ?_
  refine r_callV hC (As := [.int x1, .int x2, .int x3]) (rest := []) (ci := 8) (f_X8_isPegDay g (xL X) K len I J R hs a0 ka0 x1 x2 x3 h hh kh) mT_3_151 mT_1_1 mT_3_148 mT_3_150 mP_23 okX8_isPegDay ⟨by decide, by decide⟩ rfl (by show kO (K a0) = _; rw [ka0]; rfl) rfl rfl (Nat.le_of_ble_eq_true rfl) ⟨by decide, by decide⟩ dX8_peg_4 (aI0 (F := fun st M => P g X 6 7 [(0, .ref a0), (1, .int x1), (2, .int x2), (3, .int x3), (4, .int x4)] st _ _ M) (M := (K, len, I, J, R)) fun x1_ h1 => ?_)
  have k1_0 := h1
  clear h1
  show P g X 6 7 [(0, .ref a0), (1, .int x1), (2, .int x2), (3, .int x3), (4, .int x4)] [.int x1_] _ _ (K, len, I, J, R)
  rcases k1_0 with ⟨hr1, hw1⟩ | ⟨hr1, hw1⟩
  · refine r_if_ne hC (tgt := 16) dX8_peg_7 (by decide) (fun c2 => ?_) (fun c2 => ?_)
    rotate_left
    · exfalso; omega
    refine r_aload_n hC dX8_peg_16 0 rfl ?_
    refine r_iload_n hC dX8_peg_17 1 rfl ?_
    refine r_callV hC (As := [.int x1]) (rest := []) (ci := 8) (f_X8_courseOf g (xL X) K len I J R hs a0 ka0 x1 h hh kh lk hlk2 klk rd hrd krd lv hlv klv llv kn hkn kkn lkn cr hcr kcr1 lcr hu D E hc (by omega) (by omega)) mT_3_163 mT_1_1 mT_3_160 mT_3_162 mP_26 okX8_courseOf ⟨by decide, by decide⟩ rfl (by show kO (K a0) = _; rw [ka0]; rfl) rfl rfl (Nat.le_of_ble_eq_true rfl) ⟨by decide, by decide⟩ dX8_peg_18 (aR1 (F := fun st M => P g X 6 21 [(0, .ref a0), (1, .int x1), (2, .int x2), (3, .int x3), (4, .int x4)] st _ _ M) (M := (K, len, I, J, R)) fun a3_ I3 h3 => ?_)
    obtain ⟨hs3, hf3, k3_0, k3_1, k3_2, k3_3, k3_4⟩ := h3
    show P g X 6 21 [(0, .ref a0), (1, .int x1), (2, .int x2), (3, .int x3), (4, .int x4)] [.ref a3_] _ _ (K, len, I3, J, R)
    have hF3 : Fr K [(1, 5), (1, 6), (9, 12), (43, 999), (50, 999), (51, 999), (52, 999), (53, 999), (54, 999)] I I3 := hF.trans hf3 rfl rfl
    refine r_astore hC (lv' := [(5, .ref a3_), (0, .ref a0), (1, .int x1), (2, .int x2), (3, .int x3), (4, .int x4)]) dX8_peg_21 (by decide) rfl ?_
    refine r_iload hC dX8_peg_23 5 rfl ?_
    by_cases o4 : x4.toInt < 0 ∨ 2 < x4.toInt
    · refine r_tabOut hC (tgt := 100) dX8_peg_25 o4 (by decide) ?_
      refine r_aload_n hC dX8_peg_100 1 rfl ?_
      refine r_iconst hC (v := (1)) dX8_peg_101 (by decide) (by decide) (fun x5_ e5 t5 => ?_)
      refine r_callV hC (As := [.int x5_]) (rest := []) (ci := 8) (c_X8_refuse g (xL X) K len I3 J R hs3 a0 ka0 x5_) mT_2_133 mT_1_1 mT_2_130 mT_2_132 mP_0 okX8_refuse ⟨by decide, by decide⟩ rfl (by show kO (K a0) = _; rw [ka0]; rfl) rfl rfl (Nat.le_of_ble_eq_true rfl) ⟨by decide, by decide⟩ dX8_peg_102 (aI1 (F := fun st M => P g X 6 105 [(5, .ref a3_), (0, .ref a0), (1, .int x1), (2, .int x2), (3, .int x3), (4, .int x4)] st _ _ M) (M := (K, len, I3, J, R)) fun x6_ I6 h6 => ?_)
      obtain ⟨hs6, hf6, k6_0, k6_1⟩ := h6
      show P g X 6 105 [(5, .ref a3_), (0, .ref a0), (1, .int x1), (2, .int x2), (3, .int x3), (4, .int x4)] [.int x6_] _ _ (K, len, I6, J, R)
      have hF6 : Fr K [(1, 5), (1, 6), (9, 12), (43, 999), (50, 999), (51, 999), (52, 999), (53, 999), (54, 999)] I I6 := hF3.trans hf6 rfl rfl
      have hc6 := k3_2.mv ka hf6 rfl
      have coa3__6 := k3_3.mv hs k3_0 hf6 rfl
      exact r_iret hC hQ hlk hr rfl (by decide) (by decide) dX8_peg_105 ⟨_, _, rfl, rfl, ⟨hs6, hF6, (by exact hc6), (by first | exact Or.inr ⟨by omega, by omega⟩ | exact Or.inl ⟨by omega, (congrArg Int32.toInt k6_0).trans (by first | (rw [if_pos (by omega)]; exact NOlq) | (rw [if_neg (by omega), if_pos (by omega)]; exact NOlq) | (rw [if_neg (by omega), if_neg (by omega)]; exact NOlq))⟩), (by omega)⟩⟩
    · rcases (show x4.toInt = 0 ∨ x4.toInt = 1 ∨ x4.toInt = 2 by omega) with o4 | o4 | o4
      · refine r_tabIn hC (tgt := 52) (off := 27) dX8_peg_25 (by omega) (by omega) (by rw [o4]; decide) (by decide) ?_
        refine r_aload_n hC dX8_peg_52 1 rfl ?_
        refine r_aload hC dX8_peg_53 0 rfl ?_
        obtain ⟨a7_, hb7, hk7, hn7⟩ := hs3.row k3_0 1 51 300 (by decide) (by decide)
        refine r_getr hC 1 (ci := 0) rfl u0_in (by decide) mT_2_29 dX8_peg_55 k3_0 rfl rfl hb7 ?_
        refine r_iload_n hC dX8_peg_58 3 rfl ?_
        refine r_iload_n hC dX8_peg_59 4 rfl ?_
        refine r_callS hC (As := [.int x2, .int x3]) (rest := [.ref a7_, .ref a0]) (c_X8_row g (xL X) K len I3 J R hs3 x2 x3 (by omega) (by omega) (by omega) (by omega)) mT_3_192 mT_1_1 mT_3_197 mT_3_191 okX8_row ⟨by decide, by decide⟩ rfl rfl (Nat.le_of_ble_eq_true rfl) ⟨by decide, by decide⟩ dX8_peg_60 (aI0 (F := fun st M => P g X 6 63 [(5, .ref a3_), (0, .ref a0), (1, .int x1), (2, .int x2), (3, .int x3), (4, .int x4)] st _ _ M) (M := (K, len, I3, J, R)) fun x8_ h8 => ?_)
        have k8_0 := h8
        clear h8
        show P g X 6 63 [(5, .ref a3_), (0, .ref a0), (1, .int x1), (2, .int x2), (3, .int x3), (4, .int x4)] [.int x8_, .ref a7_, .ref a0] _ _ (K, len, I3, J, R)
        refine x_iaload hC hk7 hn7 (by decide) rfl rfl dX8_peg_63 (by omega) (by omega) (fun x9_ e9 => ?_)
        have q9 : x9_.toInt = NV D x1.toInt.toNat (Ad D x1.toInt.toNat (LP1 D) 1) x3.toInt.toNat x2.toInt.toNat := by rw [e9, clx (i := x8_) rfl (by omega), show x8_.toInt.toNat = 60 * x2.toInt.toNat + x3.toInt.toNat by omega]; exact k3_3.inc hs k3_0 hb7 (by omega) (by omega)
        have jb9 := k3_2.nvb (s := x1.toInt.toNat) (by omega) (w2 := 1) x3.toInt.toNat x2.toInt.toNat (by omega)
        refine r_callV hC (As := [.int x9_]) (rest := []) (ci := 8) (c_X8_answer g (xL X) K len I3 J R hs3 a0 ka0 x9_) mT_3_115 mT_1_1 mT_3_112 mT_3_114 mP_21 okX8_answer ⟨by decide, by decide⟩ rfl (by show kO (K a0) = _; rw [ka0]; rfl) rfl rfl (Nat.le_of_ble_eq_true rfl) ⟨by decide, by decide⟩ dX8_peg_64 (aI1 (F := fun st M => P g X 6 67 [(5, .ref a3_), (0, .ref a0), (1, .int x1), (2, .int x2), (3, .int x3), (4, .int x4)] st _ _ M) (M := (K, len, I3, J, R)) fun x10_ I10 h10 => ?_)
        obtain ⟨hs10, hf10, k10_0, k10_1⟩ := h10
        show P g X 6 67 [(5, .ref a3_), (0, .ref a0), (1, .int x1), (2, .int x2), (3, .int x3), (4, .int x4)] [.int x10_] _ _ (K, len, I10, J, R)
        have hF10 : Fr K [(1, 5), (1, 6), (9, 12), (43, 999), (50, 999), (51, 999), (52, 999), (53, 999), (54, 999)] I I10 := hF3.trans hf10 rfl rfl
        have hc10 := k3_2.mv ka hf10 rfl
        have coa3__10 := k3_3.mv hs k3_0 hf10 rfl
        exact r_iret hC hQ hlk hr rfl (by decide) (by decide) dX8_peg_67 ⟨_, _, rfl, rfl, ⟨hs10, hF10, (by exact hc10), (by first | exact Or.inr ⟨by omega, by omega⟩ | exact Or.inl ⟨by omega, (congrArg Int32.toInt k10_0).trans (by first | (rw [if_pos (by omega)]; exact q9) | (rw [if_neg (by omega), if_pos (by omega)]; exact q9) | (rw [if_neg (by omega), if_neg (by omega)]; exact q9))⟩), (by omega)⟩⟩
      · refine r_tabIn hC (tgt := 68) (off := 43) dX8_peg_25 (by omega) (by omega) (by rw [o4]; decide) (by decide) ?_
        refine r_aload_n hC dX8_peg_68 1 rfl ?_
        refine r_aload hC dX8_peg_69 0 rfl ?_
        obtain ⟨a11_, hb11, hk11, hn11⟩ := hs3.row k3_0 0 50 300 (by decide) (by decide)
        refine r_getr hC 0 (ci := 0) rfl u0_in (by decide) mT_2_26 dX8_peg_71 k3_0 rfl rfl hb11 ?_
        refine r_iload_n hC dX8_peg_74 3 rfl ?_
        refine r_iload_n hC dX8_peg_75 4 rfl ?_
        refine r_callS hC (As := [.int x2, .int x3]) (rest := [.ref a11_, .ref a0]) (c_X8_row g (xL X) K len I3 J R hs3 x2 x3 (by omega) (by omega) (by omega) (by omega)) mT_3_192 mT_1_1 mT_3_197 mT_3_191 okX8_row ⟨by decide, by decide⟩ rfl rfl (Nat.le_of_ble_eq_true rfl) ⟨by decide, by decide⟩ dX8_peg_76 (aI0 (F := fun st M => P g X 6 79 [(5, .ref a3_), (0, .ref a0), (1, .int x1), (2, .int x2), (3, .int x3), (4, .int x4)] st _ _ M) (M := (K, len, I3, J, R)) fun x12_ h12 => ?_)
        have k12_0 := h12
        clear h12
        show P g X 6 79 [(5, .ref a3_), (0, .ref a0), (1, .int x1), (2, .int x2), (3, .int x3), (4, .int x4)] [.int x12_, .ref a11_, .ref a0] _ _ (K, len, I3, J, R)
        refine x_iaload hC hk11 hn11 (by decide) rfl rfl dX8_peg_79 (by omega) (by omega) (fun x13_ e13 => ?_)
        have q13 : x13_.toInt = SV D x1.toInt.toNat (Ad D x1.toInt.toNat (LP1 D) 1) x3.toInt.toNat x2.toInt.toNat := by rw [e13, clx (i := x12_) rfl (by omega), show x12_.toInt.toNat = 60 * x2.toInt.toNat + x3.toInt.toNat by omega]; exact k3_3.spd hs k3_0 hb11 (by omega) (by omega)
        have jb13 := k3_2.svb (s := x1.toInt.toNat) (by omega) (w2 := 1) x3.toInt.toNat x2.toInt.toNat
        refine r_callV hC (As := [.int x13_]) (rest := []) (ci := 8) (c_X8_answer g (xL X) K len I3 J R hs3 a0 ka0 x13_) mT_3_115 mT_1_1 mT_3_112 mT_3_114 mP_21 okX8_answer ⟨by decide, by decide⟩ rfl (by show kO (K a0) = _; rw [ka0]; rfl) rfl rfl (Nat.le_of_ble_eq_true rfl) ⟨by decide, by decide⟩ dX8_peg_80 (aI1 (F := fun st M => P g X 6 83 [(5, .ref a3_), (0, .ref a0), (1, .int x1), (2, .int x2), (3, .int x3), (4, .int x4)] st _ _ M) (M := (K, len, I3, J, R)) fun x14_ I14 h14 => ?_)
        obtain ⟨hs14, hf14, k14_0, k14_1⟩ := h14
        show P g X 6 83 [(5, .ref a3_), (0, .ref a0), (1, .int x1), (2, .int x2), (3, .int x3), (4, .int x4)] [.int x14_] _ _ (K, len, I14, J, R)
        have hF14 : Fr K [(1, 5), (1, 6), (9, 12), (43, 999), (50, 999), (51, 999), (52, 999), (53, 999), (54, 999)] I I14 := hF3.trans hf14 rfl rfl
        have hc14 := k3_2.mv ka hf14 rfl
        have coa3__14 := k3_3.mv hs k3_0 hf14 rfl
        exact r_iret hC hQ hlk hr rfl (by decide) (by decide) dX8_peg_83 ⟨_, _, rfl, rfl, ⟨hs14, hF14, (by exact hc14), (by first | exact Or.inr ⟨by omega, by omega⟩ | exact Or.inl ⟨by omega, (congrArg Int32.toInt k14_0).trans (by first | (rw [if_pos (by omega)]; exact q13) | (rw [if_neg (by omega), if_pos (by omega)]; exact q13) | (rw [if_neg (by omega), if_neg (by omega)]; exact q13))⟩), (by omega)⟩⟩
      · refine r_tabIn hC (tgt := 84) (off := 59) dX8_peg_25 (by omega) (by omega) (by rw [o4]; decide) (by decide) ?_
        refine r_aload_n hC dX8_peg_84 1 rfl ?_
        refine r_aload hC dX8_peg_85 0 rfl ?_
        obtain ⟨a15_, hb15, hk15, hn15⟩ := hs3.row k3_0 2 52 300 (by decide) (by decide)
        refine r_getr hC 2 (ci := 0) rfl u0_in (by decide) mT_2_31 dX8_peg_87 k3_0 rfl rfl hb15 ?_
        refine r_iload_n hC dX8_peg_90 3 rfl ?_
        refine r_iload_n hC dX8_peg_91 4 rfl ?_
        refine r_callS hC (As := [.int x2, .int x3]) (rest := [.ref a15_, .ref a0]) (c_X8_row g (xL X) K len I3 J R hs3 x2 x3 (by omega) (by omega) (by omega) (by omega)) mT_3_192 mT_1_1 mT_3_197 mT_3_191 okX8_row ⟨by decide, by decide⟩ rfl rfl (Nat.le_of_ble_eq_true rfl) ⟨by decide, by decide⟩ dX8_peg_92 (aI0 (F := fun st M => P g X 6 95 [(5, .ref a3_), (0, .ref a0), (1, .int x1), (2, .int x2), (3, .int x3), (4, .int x4)] st _ _ M) (M := (K, len, I3, J, R)) fun x16_ h16 => ?_)
        have k16_0 := h16
        clear h16
        show P g X 6 95 [(5, .ref a3_), (0, .ref a0), (1, .int x1), (2, .int x2), (3, .int x3), (4, .int x4)] [.int x16_, .ref a15_, .ref a0] _ _ (K, len, I3, J, R)
        refine x_iaload hC hk15 hn15 (by decide) rfl rfl dX8_peg_95 (by omega) (by omega) (fun x17_ e17 => ?_)
        have q17 : x17_.toInt = WV D x1.toInt.toNat (Ad D x1.toInt.toNat (LP1 D) 1) x3.toInt.toNat x2.toInt.toNat := by rw [e17, clx (i := x16_) rfl (by omega), show x16_.toInt.toNat = 60 * x2.toInt.toNat + x3.toInt.toNat by omega]; exact k3_3.wrn hs k3_0 hb15 (by omega) (by omega)
        refine r_callV hC (As := [.int x17_]) (rest := []) (ci := 8) (c_X8_answer g (xL X) K len I3 J R hs3 a0 ka0 x17_) mT_3_115 mT_1_1 mT_3_112 mT_3_114 mP_21 okX8_answer ⟨by decide, by decide⟩ rfl (by show kO (K a0) = _; rw [ka0]; rfl) rfl rfl (Nat.le_of_ble_eq_true rfl) ⟨by decide, by decide⟩ dX8_peg_96 (aI1 (F := fun st M => P g X 6 99 [(5, .ref a3_), (0, .ref a0), (1, .int x1), (2, .int x2), (3, .int x3), (4, .int x4)] st _ _ M) (M := (K, len, I3, J, R)) fun x18_ I18 h18 => ?_)
        obtain ⟨hs18, hf18, k18_0, k18_1⟩ := h18
        show P g X 6 99 [(5, .ref a3_), (0, .ref a0), (1, .int x1), (2, .int x2), (3, .int x3), (4, .int x4)] [.int x18_] _ _ (K, len, I18, J, R)
        have hF18 : Fr K [(1, 5), (1, 6), (9, 12), (43, 999), (50, 999), (51, 999), (52, 999), (53, 999), (54, 999)] I I18 := hF3.trans hf18 rfl rfl
        have hc18 := k3_2.mv ka hf18 rfl
        have coa3__18 := k3_3.mv hs k3_0 hf18 rfl
        exact r_iret hC hQ hlk hr rfl (by decide) (by decide) dX8_peg_99 ⟨_, _, rfl, rfl, ⟨hs18, hF18, (by exact hc18), (by first | exact Or.inr ⟨by omega, by omega⟩ | exact Or.inl ⟨by omega, (congrArg Int32.toInt k18_0).trans (by first | (rw [if_pos (by omega)]; exact q17) | (rw [if_neg (by omega), if_pos (by omega)]; exact q17) | (rw [if_neg (by omega), if_neg (by omega)]; exact q17))⟩), (by omega)⟩⟩
  · refine r_if_ne hC (tgt := 16) dX8_peg_7 (by decide) (fun c19 => ?_) (fun c19 => ?_)
    · exfalso; omega
    refine r_aload_n hC dX8_peg_10 0 rfl ?_
    refine r_iconst hC (v := (1)) dX8_peg_11 (by decide) (by decide) (fun x20_ e20 t20 => ?_)
    refine r_callV hC (As := [.int x20_]) (rest := []) (ci := 8) (c_X8_refuse g (xL X) K len I J R hs a0 ka0 x20_) mT_2_133 mT_1_1 mT_2_130 mT_2_132 mP_0 okX8_refuse ⟨by decide, by decide⟩ rfl (by show kO (K a0) = _; rw [ka0]; rfl) rfl rfl (Nat.le_of_ble_eq_true rfl) ⟨by decide, by decide⟩ dX8_peg_12 (aI1 (F := fun st M => P g X 6 15 [(0, .ref a0), (1, .int x1), (2, .int x2), (3, .int x3), (4, .int x4)] st _ _ M) (M := (K, len, I, J, R)) fun x21_ I21 h21 => ?_)
    obtain ⟨hs21, hf21, k21_0, k21_1⟩ := h21
    show P g X 6 15 [(0, .ref a0), (1, .int x1), (2, .int x2), (3, .int x3), (4, .int x4)] [.int x21_] _ _ (K, len, I21, J, R)
    have hF21 : Fr K [(1, 5), (1, 6), (9, 12), (43, 999), (50, 999), (51, 999), (52, 999), (53, 999), (54, 999)] I I21 := hF.trans hf21 rfl rfl
    have hc21 := hc.mv ka hf21 rfl
    exact r_iret hC hQ hlk hr rfl (by decide) (by decide) dX8_peg_15 ⟨_, _, rfl, rfl, ⟨hs21, hF21, (by exact hc21), (by first | exact Or.inr ⟨by omega, by omega⟩ | exact Or.inl ⟨by omega, (congrArg Int32.toInt k21_0).trans (by first | (rw [if_pos (by omega)]; exact NOlq) | (rw [if_neg (by omega), if_pos (by omega)]; exact NOlq) | (rw [if_neg (by omega), if_neg (by omega)]; exact NOlq))⟩), (by omega)⟩⟩
set_option maxHeartbeats 4000000 in
set_option maxRecDepth 100000 in
theorem a_X8_struck (g : GG) (l : Launch) (K len : Nat → Nat) (I : Nat → Nat → Int32) (J : Nat → Nat → Int64) (R : Nat → Nat → Option Nat) (hs : Sf K len I R) (a0 : Nat) (ka0 : K a0 = 9) (x1 : Int32) (x2 : Int32) (h : Nat) (hh : R a0 2 = some h) (kh : K h = 2) (lk : Nat) (hlk2 : R h 0 = some lk) (klk : K lk = 3) (rd : Nat) (hrd : R a0 9 = some rd) (krd : K rd = 4) (lv : Nat) (hlv : R a0 4 = some lv) (klv : K lv = 41) (llv : len lv = 60) (kn : Nat) (hkn : R a0 6 = some kn) (kkn : K kn = 43) (lkn : len kn = 6) (cr : Nat) (hcr : R a0 5 = some cr) (kcr1 : K cr = 44) (lcr : len cr = 6) (hu : UU K R) (D : DD) (E : Nat → Nat → Int) (hc : KC D E a0 h lk rd I R) : Ct g l yX8_struck cX8_struck 3 (Option.some Jvm.ClassFile.FieldType.int) rmX8_struck [.ref a0, .int x1, .int x2] (K, len, I, J, R) (pI1 (K, len, I, J, R) (fun r I' => Sf K len I' R ∧ Fr K [(1, 5), (1, 6), (9, 12), (43, 999), (50, 999), (51, 999), (52, 999), (53, 999), (54, 999)] I I' ∧ (KC D E a0 h lk rd I' R) ∧ (((0 ≤ x1.toInt ∧ x1.toInt < D 0 7) ∧ 0 ≤ x2.toInt ∧ x2.toInt < D 0 8) ∧ r.toInt = (if GV D x1.toInt.toNat (Ad D x1.toInt.toNat (LP1 D) 1) 60 ≠ -2 ∧ D 10 x2.toInt.toNat ≤ Wq D x1.toInt.toNat (Ad D x1.toInt.toNat (LP1 D) 1) (LP1 D) 60 then (1 : Int) else 0) ∨ ¬ ((0 ≤ x1.toInt ∧ x1.toInt < D 0 7) ∧ 0 ≤ x2.toInt ∧ x2.toInt < D 0 8) ∧ r.toInt = -1) ∧ ((I' a0 12).toInt ≠ 4))) := by
  refine Ct_intro (by decide +kernel) (Nat.le_of_ble_eq_true rfl) (fun X hC hL hKK hNm hr hlk hQ => ?_)
  subst hL
  have hC : Cx g X cX8_struck "HillTap" 3 rmX8_struck := hC
  show P g X 3 0 [(0, .ref a0), (1, .int x1), (2, .int x2)] [] 0 0 (K, len, I, J, R)
  have hF : Fr K [(1, 5), (1, 6), (9, 12), (43, 999), (50, 999), (51, 999), (52, 999), (53, 999), (54, 999)] I I := Fr.refl
  have ka : KA a0 h lk rd K len R := ⟨⟨_, hs⟩, hu, ka0, kh, klk, krd⟩
  obtain ⟨sd1, sd2, sd3, sd4, sd5, sd7, sd8, sd9⟩ := id hc.2.1
  have d7b := hs.rng kh (k := 6) rfl (x := I h 6) rfl
  have d5b := hs.rng kh (k := 1) rfl (x := I h 1) rfl
  have d8b := hs.rng kh (k := 8) rfl (x := I h 8) rfl
  have b_x1 := ti_rng x1
  have b_x2 := ti_rng x2
  refine r_aload_n hC dX8_struck_0 0 rfl ?_
  refine r_iload_n hC dX8_struck_1 1 rfl ?_
  refine r_callV hC (As := [.int x1]) (rest := []) (ci := 8) (f_X8_isStory g (xL X) K len I J R hs a0 ka0 x1 h hh kh) mT_3_155 mT_1_1 mT_3_152 mT_3_154 mP_24 okX8_isStory ⟨by decide, by decide⟩ rfl (by show kO (K a0) = _; rw [ka0]; rfl) rfl rfl (Nat.le_of_ble_eq_true rfl) ⟨by decide, by decide⟩ dX8_struck_2 (aI0 (F := fun st M => P g X 3 5 [(0, .ref a0), (1, .int x1), (2, .int x2)] st _ _ M) (M := (K, len, I, J, R)) fun x1_ h1 => ?_)
  have k1_0 := h1
  clear h1
  show P g X 3 5 [(0, .ref a0), (1, .int x1), (2, .int x2)] [.int x1_] _ _ (K, len, I, J, R)
  rcases k1_0 with ⟨hr1, hw1⟩ | ⟨hr1, hw1⟩
  · refine r_if_eq hC (tgt := 16) dX8_struck_5 (by decide) (fun c2 => ?_) (fun c2 => ?_)
    · exfalso; omega
    refine r_aload_n hC dX8_struck_8 0 rfl ?_
    refine r_iload_n hC dX8_struck_9 2 rfl ?_
    refine r_callV hC (As := [.int x2]) (rest := []) (ci := 8) (f_X8_isVillage g (xL X) K len I J R hs a0 ka0 x2 h hh kh) mT_4_119 mT_1_1 mT_4_116 mT_4_118 mP_45 okX8_isVillage ⟨by decide, by decide⟩ rfl (by show kO (K a0) = _; rw [ka0]; rfl) rfl rfl (Nat.le_of_ble_eq_true rfl) ⟨by decide, by decide⟩ dX8_struck_10 (aI0 (F := fun st M => P g X 3 13 [(0, .ref a0), (1, .int x1), (2, .int x2)] st _ _ M) (M := (K, len, I, J, R)) fun x3_ h3 => ?_)
    have k3_0 := h3
    clear h3
    show P g X 3 13 [(0, .ref a0), (1, .int x1), (2, .int x2)] [.int x3_] _ _ (K, len, I, J, R)
    rcases k3_0 with ⟨hr3, hw3⟩ | ⟨hr3, hw3⟩
    · refine r_if_ne hC (tgt := 22) dX8_struck_13 (by decide) (fun c4 => ?_) (fun c4 => ?_)
      rotate_left
      · exfalso; omega
      refine r_aload_n hC dX8_struck_22 0 rfl ?_
      refine r_aload_n hC dX8_struck_23 0 rfl ?_
      refine r_iload_n hC dX8_struck_24 1 rfl ?_
      refine r_iload_n hC dX8_struck_25 2 rfl ?_
      refine r_callV hC (As := [.int x1, .int x2]) (rest := [.ref a0]) (ci := 8) (f_X8_strikes g (xL X) K len I J R hs a0 ka0 x1 x2 h hh kh lk hlk2 klk rd hrd krd lv hlv klv llv kn hkn kkn lkn cr hcr kcr1 lcr hu D E hc (by omega) (by omega) (by omega) (by omega)) mT_4_123 mT_1_1 mT_4_120 mT_4_122 mP_46 okX8_strikes ⟨by decide, by decide⟩ rfl (by show kO (K a0) = _; rw [ka0]; rfl) rfl rfl (Nat.le_of_ble_eq_true rfl) ⟨by decide, by decide⟩ dX8_struck_26 (aI1 (F := fun st M => P g X 3 29 [(0, .ref a0), (1, .int x1), (2, .int x2)] st _ _ M) (M := (K, len, I, J, R)) fun x5_ I5 h5 => ?_)
      obtain ⟨hs5, hf5, k5_0, k5_1⟩ := h5
      show P g X 3 29 [(0, .ref a0), (1, .int x1), (2, .int x2)] [.int x5_, .ref a0] _ _ (K, len, I5, J, R)
      have hF5 : Fr K [(1, 5), (1, 6), (9, 12), (43, 999), (50, 999), (51, 999), (52, 999), (53, 999), (54, 999)] I I5 := hF.trans hf5 rfl rfl
      refine r_if_eq hC (tgt := 36) dX8_struck_29 (by decide) (fun c6 => ?_) (fun c6 => ?_)
      · refine r_iconst hC (v := (0)) dX8_struck_36 (by decide) (by decide) (fun x7_ e7 t7 => ?_)
        refine r_callV hC (As := [.int x7_]) (rest := []) (ci := 8) (c_X8_answer g (xL X) K len I5 J R hs5 a0 ka0 x7_) mT_3_115 mT_1_1 mT_3_112 mT_3_114 mP_21 okX8_answer ⟨by decide, by decide⟩ rfl (by show kO (K a0) = _; rw [ka0]; rfl) rfl rfl (Nat.le_of_ble_eq_true rfl) ⟨by decide, by decide⟩ dX8_struck_37 (aI1 (F := fun st M => P g X 3 40 [(0, .ref a0), (1, .int x1), (2, .int x2)] st _ _ M) (M := (K, len, I5, J, R)) fun x8_ I8 h8 => ?_)
        obtain ⟨hs8, hf8, k8_0, k8_1⟩ := h8
        show P g X 3 40 [(0, .ref a0), (1, .int x1), (2, .int x2)] [.int x8_] _ _ (K, len, I8, J, R)
        have hF8 : Fr K [(1, 5), (1, 6), (9, 12), (43, 999), (50, 999), (51, 999), (52, 999), (53, 999), (54, 999)] I I8 := hF5.trans hf8 rfl rfl
        have hc8 := k5_0.mv ka hf8 rfl
        exact r_iret hC hQ hlk hr rfl (by decide) (by decide) dX8_struck_40 ⟨_, _, rfl, rfl, ⟨hs8, hF8, (by exact hc8), (by first | exact Or.inr ⟨by omega, by omega⟩ | exact Or.inl ⟨by omega, (congrArg Int32.toInt k8_0).trans (by first | (rw [if_pos (by omega)]; omega) | (rw [if_neg (by omega)]; omega))⟩), (by omega)⟩⟩
      · refine r_iconst hC (v := (1)) dX8_struck_32 (by decide) (by decide) (fun x9_ e9 t9 => ?_)
        refine r_goto hC (tgt := 37) dX8_struck_33 (by decide) ?_
        refine r_callV hC (As := [.int x9_]) (rest := []) (ci := 8) (c_X8_answer g (xL X) K len I5 J R hs5 a0 ka0 x9_) mT_3_115 mT_1_1 mT_3_112 mT_3_114 mP_21 okX8_answer ⟨by decide, by decide⟩ rfl (by show kO (K a0) = _; rw [ka0]; rfl) rfl rfl (Nat.le_of_ble_eq_true rfl) ⟨by decide, by decide⟩ dX8_struck_37 (aI1 (F := fun st M => P g X 3 40 [(0, .ref a0), (1, .int x1), (2, .int x2)] st _ _ M) (M := (K, len, I5, J, R)) fun x10_ I10 h10 => ?_)
        obtain ⟨hs10, hf10, k10_0, k10_1⟩ := h10
        show P g X 3 40 [(0, .ref a0), (1, .int x1), (2, .int x2)] [.int x10_] _ _ (K, len, I10, J, R)
        have hF10 : Fr K [(1, 5), (1, 6), (9, 12), (43, 999), (50, 999), (51, 999), (52, 999), (53, 999), (54, 999)] I I10 := hF5.trans hf10 rfl rfl
        have hc10 := k5_0.mv ka hf10 rfl
        exact r_iret hC hQ hlk hr rfl (by decide) (by decide) dX8_struck_40 ⟨_, _, rfl, rfl, ⟨hs10, hF10, (by exact hc10), (by first | exact Or.inr ⟨by omega, by omega⟩ | exact Or.inl ⟨by omega, (congrArg Int32.toInt k10_0).trans (by first | (rw [if_pos (by omega)]; omega) | (rw [if_neg (by omega)]; omega))⟩), (by omega)⟩⟩
    · refine r_if_ne hC (tgt := 22) dX8_struck_13 (by decide) (fun c11 => ?_) (fun c11 => ?_)
      · exfalso; omega
      refine r_aload_n hC dX8_struck_16 0 rfl ?_
      refine r_iconst hC (v := (1)) dX8_struck_17 (by decide) (by decide) (fun x12_ e12 t12 => ?_)
      refine r_callV hC (As := [.int x12_]) (rest := []) (ci := 8) (c_X8_refuse g (xL X) K len I J R hs a0 ka0 x12_) mT_2_133 mT_1_1 mT_2_130 mT_2_132 mP_0 okX8_refuse ⟨by decide, by decide⟩ rfl (by show kO (K a0) = _; rw [ka0]; rfl) rfl rfl (Nat.le_of_ble_eq_true rfl) ⟨by decide, by decide⟩ dX8_struck_18 (aI1 (F := fun st M => P g X 3 21 [(0, .ref a0), (1, .int x1), (2, .int x2)] st _ _ M) (M := (K, len, I, J, R)) fun x13_ I13 h13 => ?_)
      obtain ⟨hs13, hf13, k13_0, k13_1⟩ := h13
      show P g X 3 21 [(0, .ref a0), (1, .int x1), (2, .int x2)] [.int x13_] _ _ (K, len, I13, J, R)
      have hF13 : Fr K [(1, 5), (1, 6), (9, 12), (43, 999), (50, 999), (51, 999), (52, 999), (53, 999), (54, 999)] I I13 := hF.trans hf13 rfl rfl
      have hc13 := hc.mv ka hf13 rfl
      exact r_iret hC hQ hlk hr rfl (by decide) (by decide) dX8_struck_21 ⟨_, _, rfl, rfl, ⟨hs13, hF13, (by exact hc13), (by first | exact Or.inr ⟨by omega, by omega⟩ | exact Or.inl ⟨by omega, (congrArg Int32.toInt k13_0).trans (by first | (rw [if_pos (by omega)]; omega) | (rw [if_neg (by omega)]; omega))⟩), (by omega)⟩⟩
  · refine r_if_eq hC (tgt := 16) dX8_struck_5 (by decide) (fun c14 => ?_) (fun c14 => ?_)
    rotate_left
    · exfalso; omega
    refine r_aload_n hC dX8_struck_16 0 rfl ?_
    refine r_iconst hC (v := (1)) dX8_struck_17 (by decide) (by decide) (fun x15_ e15 t15 => ?_)
    refine r_callV hC (As := [.int x15_]) (rest := []) (ci := 8) (c_X8_refuse g (xL X) K len I J R hs a0 ka0 x15_) mT_2_133 mT_1_1 mT_2_130 mT_2_132 mP_0 okX8_refuse ⟨by decide, by decide⟩ rfl (by show kO (K a0) = _; rw [ka0]; rfl) rfl rfl (Nat.le_of_ble_eq_true rfl) ⟨by decide, by decide⟩ dX8_struck_18 (aI1 (F := fun st M => P g X 3 21 [(0, .ref a0), (1, .int x1), (2, .int x2)] st _ _ M) (M := (K, len, I, J, R)) fun x16_ I16 h16 => ?_)
    obtain ⟨hs16, hf16, k16_0, k16_1⟩ := h16
    show P g X 3 21 [(0, .ref a0), (1, .int x1), (2, .int x2)] [.int x16_] _ _ (K, len, I16, J, R)
    have hF16 : Fr K [(1, 5), (1, 6), (9, 12), (43, 999), (50, 999), (51, 999), (52, 999), (53, 999), (54, 999)] I I16 := hF.trans hf16 rfl rfl
    have hc16 := hc.mv ka hf16 rfl
    exact r_iret hC hQ hlk hr rfl (by decide) (by decide) dX8_struck_21 ⟨_, _, rfl, rfl, ⟨hs16, hF16, (by exact hc16), (by first | exact Or.inr ⟨by omega, by omega⟩ | exact Or.inl ⟨by omega, (congrArg Int32.toInt k16_0).trans (by first | (rw [if_pos (by omega)]; omega) | (rw [if_neg (by omega)]; omega))⟩), (by omega)⟩⟩
set_option maxHeartbeats 4000000 in
set_option maxRecDepth 100000 in
theorem f_X10_isVillage (g : GG) (l : Launch) (K len : Nat → Nat) (I : Nat → Nat → Int32) (J : Nat → Nat → Int64) (R : Nat → Nat → Option Nat) (hs : Sf K len I R) (a0 : Nat) (ka0 : K a0 = 11) (x1 : Int32) : Ct g l yX10_isVillage cX10_isVillage 2 (Option.some Jvm.ClassFile.FieldType.boolean) rmX10_isVillage [.ref a0, .int x1] (K, len, I, J, R) (pI0 (K, len, I, J, R) (fun r => ((R a0 3 = none ∧ r.toInt = 0) ∨ (∃ hm, R a0 3 = some hm ∧ (r.toInt = 1 ∧ (0 ≤ x1.toInt ∧ x1.toInt < (I hm 8).toInt) ∨ r.toInt = 0 ∧ ¬ (0 ≤ x1.toInt ∧ x1.toInt < (I hm 8).toInt)))))) := by
  refine Ct_intro (by decide +kernel) (Nat.le_of_ble_eq_true rfl) (fun X hC hL hKK hNm hr hlk hQ => ?_)
  subst hL
  have hC : Cx g X cX10_isVillage "HillTapModel" 2 rmX10_isVillage := hC
  show P g X 2 0 [(0, .ref a0), (1, .int x1)] [] 0 0 (K, len, I, J, R)
  have hF : Fr K [] I I := Fr.refl
  have b_x1 := ti_rng x1
  refine r_aload_n hC dX10_isVillage_0 0 rfl ?_
  rcases hs.2.1.2.2.1 a0 ka0 with hz1 | ⟨a1_, hb1, hk1⟩
  · refine r_getz hC 3 (ci := 10) rfl u10_in (by decide) mT_4_238 dX10_isVillage_1 ka0 rfl rfl hz1 ?_
    refine r_ifnullN hC (tgt := 26) dX10_isVillage_4 (by decide) ?_
    refine r_iconst hC (v := (0)) dX10_isVillage_26 (by decide) (by decide) (fun x2_ e2 t2 => ?_)
    exact r_iret hC hQ hlk hr (by rw [e2]; rfl) (by decide) (by decide) dX10_isVillage_27 ⟨_, rfl, rfl, (by first | exact Or.inl ⟨hz1, by omega⟩ | exact Or.inr ⟨_, hz1, by omega⟩)⟩
  · refine r_getr hC 3 (ci := 10) rfl u10_in (by decide) mT_4_238 dX10_isVillage_1 ka0 rfl rfl hb1 ?_
    refine r_ifnull hC dX10_isVillage_4 ?_
    refine r_iload_n hC dX10_isVillage_7 1 rfl ?_
    refine r_if_lt hC (tgt := 26) dX10_isVillage_8 (by decide) (fun c3 => ?_) (fun c3 => ?_)
    · refine r_iconst hC (v := (0)) dX10_isVillage_26 (by decide) (by decide) (fun x4_ e4 t4 => ?_)
      exact r_iret hC hQ hlk hr (by rw [e4]; rfl) (by decide) (by decide) dX10_isVillage_27 ⟨_, rfl, rfl, (by first | exact Or.inl ⟨hb1, by omega⟩ | exact Or.inr ⟨_, hb1, by omega⟩)⟩
    · refine r_iload_n hC dX10_isVillage_11 1 rfl ?_
      refine r_aload_n hC dX10_isVillage_12 0 rfl ?_
      refine r_getr hC 3 (ci := 10) rfl u10_in (by decide) mT_4_238 dX10_isVillage_13 ka0 rfl rfl hb1 ?_
      refine r_getiN hC 8 (ci := 9) rfl u9_in (by decide) nF_8 dX10_isVillage_16 hk1 rfl rfl (fun x5_ e5 => ?_)
      have r5 := hs.rng hk1 rfl e5
      have f5 : x5_.toInt = (I a1_ 8).toInt := by rw [e5]
      refine r_icmp_ge hC (tgt := 26) dX10_isVillage_19 (by decide) (fun c6 => ?_) (fun c6 => ?_)
      · refine r_iconst hC (v := (0)) dX10_isVillage_26 (by decide) (by decide) (fun x7_ e7 t7 => ?_)
        exact r_iret hC hQ hlk hr (by rw [e7]; rfl) (by decide) (by decide) dX10_isVillage_27 ⟨_, rfl, rfl, (by first | exact Or.inl ⟨hb1, by omega⟩ | exact Or.inr ⟨_, hb1, by omega⟩)⟩
      · refine r_iconst hC (v := (1)) dX10_isVillage_22 (by decide) (by decide) (fun x8_ e8 t8 => ?_)
        refine r_goto hC (tgt := 27) dX10_isVillage_23 (by decide) ?_
        exact r_iret hC hQ hlk hr (by rw [e8]; rfl) (by decide) (by decide) dX10_isVillage_27 ⟨_, rfl, rfl, (by first | exact Or.inl ⟨hb1, by omega⟩ | exact Or.inr ⟨_, hb1, by omega⟩)⟩
set_option maxHeartbeats 4000000 in
set_option maxRecDepth 100000 in
theorem f_X10_isStruck (g : GG) (l : Launch) (K len : Nat → Nat) (I : Nat → Nat → Int32) (J : Nat → Nat → Int64) (R : Nat → Nat → Option Nat) (hs : Sf K len I R) (a0 : Nat) (ka0 : K a0 = 11) (x1 : Int32) (hm : Nat) (hbm : R a0 3 = some hm) (khm : K hm = 10) (lr : Nat) (hlr : R a0 15 = some lr) (klr : K lr = 85) (llr : len lr = 60) (sr : Nat) (hsr : R a0 16 = some sr) (ksr : K sr = 86) (lsr : len sr = 300) (ir : Nat) (hir : R a0 17 = some ir) (kir : K ir = 87) (lir : len ir = 300) (wr : Nat) (hwr : R a0 18 = some wr) (kwr : K wr = 88) (lwr : len wr = 300) (D : DD) (E : Nat → Nat → Int) (mc : MC D E a0 hm I R) (s : Nat) (hsk : (s : Int) < D 0 7) (mo : MO D s (LP1 D) 1 a0 lr sr ir wr I) (p0 : 0 ≤ x1.toInt) (p1 : x1.toInt < D 0 8) : Ct g l yX10_isStruck cX10_isStruck 2 (Option.some Jvm.ClassFile.FieldType.boolean) rmX10_isStruck [.ref a0, .int x1] (K, len, I, J, R) (pI0 (K, len, I, J, R) (fun r => (r.toInt = 1 ∧ (GV D s (Ad D s (LP1 D) 1) 60 ≠ -2 ∧ D 10 x1.toInt.toNat ≤ Wq D s (Ad D s (LP1 D) 1) (LP1 D) 60) ∨ r.toInt = 0 ∧ ¬ (GV D s (Ad D s (LP1 D) 1) 60 ≠ -2 ∧ D 10 x1.toInt.toNat ≤ Wq D s (Ad D s (LP1 D) 1) (LP1 D) 60)))) := by
  refine Ct_intro (by decide +kernel) (Nat.le_of_ble_eq_true rfl) (fun X hC hL hKK hNm hr hlk hQ => ?_)
  subst hL
  have hC : Cx g X cX10_isStruck "HillTapModel" 2 rmX10_isStruck := hC
  show P g X 2 0 [(0, .ref a0), (1, .int x1)] [] 0 0 (K, len, I, J, R)
  have hF : Fr K [] I I := Fr.refl
  obtain ⟨⟨hJ, hR6, hD7⟩, rwm, ⟨hd1, hd2, hd3, hd4, hd5, hd7, hd8, hd9⟩, -⟩ := id mc
  have hcx := CM_x hs khm
  have b5 := hs.rng khm (k := 3) rfl (x := I hm 3) rfl
  have b7 := hs.rng khm (k := 7) rfl (x := I hm 7) rfl
  have b8 := hs.rng khm (k := 8) rfl (x := I hm 8) rfl
  have b20 := hs.rng ka0 (k := 20) rfl (x := I a0 20) rfl
  have b_x1 := ti_rng x1
  refine r_aload_n hC dX10_isStruck_0 0 rfl ?_
  refine r_geti hC 19 (ci := 10) rfl u10_in (by decide) mT_5_14 dX10_isStruck_1 ka0 rfl rfl (fun x1_ e1 => ?_)
  have r1 := hs.rng ka0 rfl e1
  have q1 := hs.gone ka0 e1
  have f1 : x1_.toInt = (I a0 19).toInt := by rw [e1]
  have q1g : x1_.toInt = GV D s (Ad D s (LP1 D) 1) 60 := by rw [e1]; exact mo.2.2
  refine r_bipush hC (v := (-2)) dX10_isStruck_4 (by decide) (by decide) (fun x2_ e2 t2 => ?_)
  refine r_icmp_eq hC (tgt := 29) dX10_isStruck_6 (by decide) (fun c3 => ?_) (fun c3 => ?_)
  · refine r_iconst hC (v := (0)) dX10_isStruck_29 (by decide) (by decide) (fun x4_ e4 t4 => ?_)
    exact r_iret hC hQ hlk hr (by rw [e4]; rfl) (by decide) (by decide) dX10_isStruck_30 ⟨_, rfl, rfl, (by omega)⟩
  · refine r_aload_n hC dX10_isStruck_9 0 rfl ?_
    refine r_getr hC 3 (ci := 10) rfl u10_in (by decide) mT_4_238 dX10_isStruck_10 ka0 rfl rfl hbm ?_
    obtain ⟨a5_, hb5, hk5, hn5⟩ := hs.row khm 20 77 4 (by decide) (by decide)
    refine r_getrN hC 20 (ci := 9) rfl u9_in (by decide) nF_20 dX10_isStruck_13 khm rfl rfl hb5 ?_
    refine r_iload_n hC dX10_isStruck_16 1 rfl ?_
    refine x_iaload hC hk5 hn5 (by decide) rfl rfl dX10_isStruck_17 (by omega) (by omega) (fun x6_ e6 => ?_)
    have q6 : x6_.toInt = D 10 x1.toInt.toNat := by rw [e6, clx (i := x1) rfl (by omega)]; exact mc.hrw (r := 10) (by decide) (by decide) hb5 (by rw [cnt_10]; omega) (fun h9 => absurd h9 (by decide))
    have jb6 : 0 ≤ D 10 x1.toInt.toNat ∧ D 10 x1.toInt.toNat ≤ 999 := hJ.2.2.2.1 10 _ (by decide) (by decide) (by decide)
    refine r_aload_n hC dX10_isStruck_18 0 rfl ?_
    refine r_callV hC (As := []) (rest := [.int x6_]) (ci := 10) (f_X10_waveOf g (xL X) K len I J R hs a0 ka0 hm hbm khm lr hlr klr llr sr hsr ksr lsr ir hir kir lir wr hwr kwr lwr D E mc s hsk mo) mT_6_163 mT_1_10 mT_6_160 mT_6_162 mP_80 okX10_waveOf ⟨by decide, by decide⟩ rfl (by show kO (K a0) = _; rw [ka0]; rfl) rfl rfl (Nat.le_of_ble_eq_true rfl) ⟨by decide, by decide⟩ dX10_isStruck_19 (aI0 (F := fun st M => P g X 2 22 [(0, .ref a0), (1, .int x1)] st _ _ M) (M := (K, len, I, J, R)) fun x7_ h7 => ?_)
    have k7_0 := h7
    clear h7
    show P g X 2 22 [(0, .ref a0), (1, .int x1)] [.int x7_, .int x6_] _ _ (K, len, I, J, R)
    refine r_icmp_gt hC (tgt := 29) dX10_isStruck_22 (by decide) (fun c8 => ?_) (fun c8 => ?_)
    · refine r_iconst hC (v := (0)) dX10_isStruck_29 (by decide) (by decide) (fun x9_ e9 t9 => ?_)
      exact r_iret hC hQ hlk hr (by rw [e9]; rfl) (by decide) (by decide) dX10_isStruck_30 ⟨_, rfl, rfl, (by omega)⟩
    · refine r_iconst hC (v := (1)) dX10_isStruck_25 (by decide) (by decide) (fun x10_ e10 t10 => ?_)
      refine r_goto hC (tgt := 30) dX10_isStruck_26 (by decide) ?_
      exact r_iret hC hQ hlk hr (by rw [e10]; rfl) (by decide) (by decide) dX10_isStruck_30 ⟨_, rfl, rfl, (by omega)⟩
set_option maxHeartbeats 4000000 in
set_option maxRecDepth 100000 in
theorem f_X10_struck (g : GG) (l : Launch) (K len : Nat → Nat) (I : Nat → Nat → Int32) (J : Nat → Nat → Int64) (R : Nat → Nat → Option Nat) (hs : Sf K len I R) (a0 : Nat) (ka0 : K a0 = 11) (x1 : Int32) (x2 : Int32) (D : DD) (E : Nat → Nat → Int) (hmx : ∀ hm, R a0 3 = some hm → MC D E a0 hm I R) : Ct g l yX10_struck cX10_struck 3 (Option.some Jvm.ClassFile.FieldType.int) rmX10_struck [.ref a0, .int x1, .int x2] (K, len, I, J, R) (pI1 (K, len, I, J, R) (fun r I' => Sf K len I' R ∧ Fr K [(11, 0), (11, 1), (11, 2), (11, 19), (85, 999), (86, 999), (87, 999), (88, 999)] I I' ∧ ((R a0 3 = none ∧ r.toInt = -1) ∨ (∃ hm, R a0 3 = some hm ∧ (((0 ≤ x1.toInt ∧ x1.toInt < D 0 7) ∧ 0 ≤ x2.toInt ∧ x2.toInt < D 0 8) ∧ r.toInt = (if GV D x1.toInt.toNat (Ad D x1.toInt.toNat (LP1 D) 1) 60 ≠ -2 ∧ D 10 x2.toInt.toNat ≤ Wq D x1.toInt.toNat (Ad D x1.toInt.toNat (LP1 D) 1) (LP1 D) 60 then (1 : Int) else 0) ∨ ¬ ((0 ≤ x1.toInt ∧ x1.toInt < D 0 7) ∧ 0 ≤ x2.toInt ∧ x2.toInt < D 0 8) ∧ r.toInt = -1))) ∧ ((I' a0 2).toInt = -1))) := by
  refine Ct_intro (by decide +kernel) (Nat.le_of_ble_eq_true rfl) (fun X hC hL hKK hNm hr hlk hQ => ?_)
  subst hL
  have hC : Cx g X cX10_struck "HillTapModel" 3 rmX10_struck := hC
  show P g X 3 0 [(0, .ref a0), (1, .int x1), (2, .int x2)] [] 0 0 (K, len, I, J, R)
  have hF : Fr K [(11, 0), (11, 1), (11, 2), (11, 19), (85, 999), (86, 999), (87, 999), (88, 999)] I I := Fr.refl
  obtain ⟨lr, hlr, klr, llr⟩ := hs.row ka0 15 85 60 (by decide) (by decide)
  obtain ⟨sr, hsr, ksr, lsr⟩ := hs.row ka0 16 86 300 (by decide) (by decide)
  obtain ⟨ir, hir, kir, lir⟩ := hs.row ka0 17 87 300 (by decide) (by decide)
  obtain ⟨wr, hwr, kwr, lwr⟩ := hs.row ka0 18 88 300 (by decide) (by decide)
  have b_x1 := ti_rng x1
  have b_x2 := ti_rng x2
  rcases hs.2.1.2.2.1 a0 ka0 with hz | ⟨hm, hbm, khm⟩
  · refine r_aload_n hC dX10_struck_0 0 rfl ?_
    refine r_iconst hC (v := (0)) dX10_struck_1 (by decide) (by decide) (fun x1_ e1 t1 => ?_)
    refine r_puti hC 0 (ci := 10) rfl u10_in tyX10_ok nmX10 (by decide) mT_4_235 rfl rfl rfl dX10_struck_2 ka0 rfl rfl (fun I2 eI2 => ?_)
    have hs2 := hs.put0 eI2 ka0 rfl rfl rfl (by decide)
    have hF2 := hF.put eI2 ka0 rfl
    refine r_aload_n hC dX10_struck_5 0 rfl ?_
    refine r_iload_n hC dX10_struck_6 1 rfl ?_
    refine r_callV hC (As := [.int x1]) (rest := []) (ci := 10) (f_X10_isStory g (xL X) K len I2 J R hs2 a0 ka0 x1) mT_6_119 mT_1_10 mT_6_116 mT_6_118 mP_71 okX10_isStory ⟨by decide, by decide⟩ rfl (by show kO (K a0) = _; rw [ka0]; rfl) rfl rfl (Nat.le_of_ble_eq_true rfl) ⟨by decide, by decide⟩ dX10_struck_7 (aI0 (F := fun st M => P g X 3 10 [(0, .ref a0), (1, .int x1), (2, .int x2)] st _ _ M) (M := (K, len, I2, J, R)) fun x3_ h3 => ?_)
    have k3_0 := h3
    clear h3
    show P g X 3 10 [(0, .ref a0), (1, .int x1), (2, .int x2)] [.int x3_] _ _ (K, len, I2, J, R)
    have kq3 : x3_.toInt = 0 := by rcases k3_0 with ⟨z, y⟩ | ⟨hm9, z, y⟩; exact y; rw [hz] at z; cases z
    clear k3_0
    refine r_if_eq hC (tgt := 21) dX10_struck_10 (by decide) (fun c4 => ?_) (fun c4 => ?_)
    rotate_left
    · exfalso; omega
    refine r_aload_n hC dX10_struck_21 0 rfl ?_
    refine r_iconst hC (v := (1)) dX10_struck_22 (by decide) (by decide) (fun x5_ e5 t5 => ?_)
    refine r_callV hC (As := [.int x5_]) (rest := []) (ci := 10) (c_X10_refused g (xL X) K len I2 J R hs2 a0 ka0 x5_) mT_5_85 mT_1_10 mT_5_82 mT_5_84 mP_48 okX10_refused ⟨by decide, by decide⟩ rfl (by show kO (K a0) = _; rw [ka0]; rfl) rfl rfl (Nat.le_of_ble_eq_true rfl) ⟨by decide, by decide⟩ dX10_struck_23 (aI1 (F := fun st M => P g X 3 26 [(0, .ref a0), (1, .int x1), (2, .int x2)] st _ _ M) (M := (K, len, I2, J, R)) fun x6_ I6 h6 => ?_)
    obtain ⟨hs6, hf6, k6_0, k6_1, k6_2⟩ := h6
    show P g X 3 26 [(0, .ref a0), (1, .int x1), (2, .int x2)] [.int x6_] _ _ (K, len, I6, J, R)
    have hF6 : Fr K [(11, 0), (11, 1), (11, 2), (11, 19), (85, 999), (86, 999), (87, 999), (88, 999)] I I6 := hF2.trans hf6 rfl rfl
    exact r_iret hC hQ hlk hr rfl (by decide) (by decide) dX10_struck_26 ⟨_, _, rfl, rfl, ⟨hs6, hF6, (by first | exact Or.inl ⟨hz, by omega⟩ | exact Or.inr ⟨hm, hbm, Or.inr ⟨by omega, by omega⟩⟩ | exact Or.inr ⟨hm, hbm, Or.inl ⟨by omega, (congrArg Int32.toInt k6_0).trans (by first | (rw [if_pos (by omega)]; omega) | (rw [if_neg (by omega)]; omega))⟩⟩), (by omega)⟩⟩
  · obtain ⟨S0, eS0⟩ : ∃ z : Int32, z = I hm 7 := ⟨_, rfl⟩
    have fS0 : S0.toInt = (I hm 7).toInt := by rw [eS0]
    have rS0 := hs.rng khm rfl eS0
    have mc := hmx hm hbm
    obtain ⟨⟨hJ, hR6, hD7⟩, rwm, ⟨hd1, hd2, hd3, hd4, hd5, hd7, hd8, hd9⟩, -⟩ := id mc
    have hcx := CM_x hs khm
    have b5 := hs.rng khm (k := 3) rfl (x := I hm 3) rfl
    have b7 := hs.rng khm (k := 7) rfl (x := I hm 7) rfl
    have b8 := hs.rng khm (k := 8) rfl (x := I hm 8) rfl
    have b20 := hs.rng ka0 (k := 20) rfl (x := I a0 20) rfl
    refine r_aload_n hC dX10_struck_0 0 rfl ?_
    refine r_iconst hC (v := (0)) dX10_struck_1 (by decide) (by decide) (fun x7_ e7 t7 => ?_)
    refine r_puti hC 0 (ci := 10) rfl u10_in tyX10_ok nmX10 (by decide) mT_4_235 rfl rfl rfl dX10_struck_2 ka0 rfl rfl (fun I8 eI8 => ?_)
    have hs8 := hs.put0 eI8 ka0 rfl rfl rfl (by decide)
    have hF8 := hF.put eI8 ka0 rfl
    refine r_aload_n hC dX10_struck_5 0 rfl ?_
    refine r_iload_n hC dX10_struck_6 1 rfl ?_
    refine r_callV hC (As := [.int x1]) (rest := []) (ci := 10) (f_X10_isStory g (xL X) K len I8 J R hs8 a0 ka0 x1) mT_6_119 mT_1_10 mT_6_116 mT_6_118 mP_71 okX10_isStory ⟨by decide, by decide⟩ rfl (by show kO (K a0) = _; rw [ka0]; rfl) rfl rfl (Nat.le_of_ble_eq_true rfl) ⟨by decide, by decide⟩ dX10_struck_7 (aI0 (F := fun st M => P g X 3 10 [(0, .ref a0), (1, .int x1), (2, .int x2)] st _ _ M) (M := (K, len, I8, J, R)) fun x9_ h9 => ?_)
    have k9_0 := h9
    clear h9
    show P g X 3 10 [(0, .ref a0), (1, .int x1), (2, .int x2)] [.int x9_] _ _ (K, len, I8, J, R)
    have kq9 : x9_.toInt = 1 ∧ (0 ≤ x1.toInt ∧ x1.toInt < D 0 7) ∨ x9_.toInt = 0 ∧ ¬ (0 ≤ x1.toInt ∧ x1.toInt < D 0 7) := by rcases k9_0 with ⟨z, -⟩ | ⟨hm9, z, y⟩ <;> rw [hbm] at z <;> cases z; rw [show (I8 hm 7).toInt = _ from (mc.mv hs ka0 khm hF8 rfl).2.2.1.2.2.2.2.2.1] at y; exact y
    clear k9_0
    refine r_if_eq hC (tgt := 21) dX10_struck_10 (by decide) (fun c10 => ?_) (fun c10 => ?_)
    · refine r_aload_n hC dX10_struck_21 0 rfl ?_
      refine r_iconst hC (v := (1)) dX10_struck_22 (by decide) (by decide) (fun x11_ e11 t11 => ?_)
      refine r_callV hC (As := [.int x11_]) (rest := []) (ci := 10) (c_X10_refused g (xL X) K len I8 J R hs8 a0 ka0 x11_) mT_5_85 mT_1_10 mT_5_82 mT_5_84 mP_48 okX10_refused ⟨by decide, by decide⟩ rfl (by show kO (K a0) = _; rw [ka0]; rfl) rfl rfl (Nat.le_of_ble_eq_true rfl) ⟨by decide, by decide⟩ dX10_struck_23 (aI1 (F := fun st M => P g X 3 26 [(0, .ref a0), (1, .int x1), (2, .int x2)] st _ _ M) (M := (K, len, I8, J, R)) fun x12_ I12 h12 => ?_)
      obtain ⟨hs12, hf12, k12_0, k12_1, k12_2⟩ := h12
      show P g X 3 26 [(0, .ref a0), (1, .int x1), (2, .int x2)] [.int x12_] _ _ (K, len, I12, J, R)
      have hF12 : Fr K [(11, 0), (11, 1), (11, 2), (11, 19), (85, 999), (86, 999), (87, 999), (88, 999)] I I12 := hF8.trans hf12 rfl rfl
      exact r_iret hC hQ hlk hr rfl (by decide) (by decide) dX10_struck_26 ⟨_, _, rfl, rfl, ⟨hs12, hF12, (by first | exact Or.inl ⟨hz, by omega⟩ | exact Or.inr ⟨hm, hbm, Or.inr ⟨by omega, by omega⟩⟩ | exact Or.inr ⟨hm, hbm, Or.inl ⟨by omega, (congrArg Int32.toInt k12_0).trans (by first | (rw [if_pos (by omega)]; omega) | (rw [if_neg (by omega)]; omega))⟩⟩), (by omega)⟩⟩
    · refine r_aload_n hC dX10_struck_13 0 rfl ?_
      refine r_iload_n hC dX10_struck_14 2 rfl ?_
      refine r_callV hC (As := [.int x2]) (rest := []) (ci := 10) (f_X10_isVillage g (xL X) K len I8 J R hs8 a0 ka0 x2) mT_7_51 mT_1_10 mT_7_48 mT_7_50 mP_94 okX10_isVillage ⟨by decide, by decide⟩ rfl (by show kO (K a0) = _; rw [ka0]; rfl) rfl rfl (Nat.le_of_ble_eq_true rfl) ⟨by decide, by decide⟩ dX10_struck_15 (aI0 (F := fun st M => P g X 3 18 [(0, .ref a0), (1, .int x1), (2, .int x2)] st _ _ M) (M := (K, len, I8, J, R)) fun x13_ h13 => ?_)
      have k13_0 := h13
      clear h13
      show P g X 3 18 [(0, .ref a0), (1, .int x1), (2, .int x2)] [.int x13_] _ _ (K, len, I8, J, R)
      have kq13 : x13_.toInt = 1 ∧ (0 ≤ x2.toInt ∧ x2.toInt < D 0 8) ∨ x13_.toInt = 0 ∧ ¬ (0 ≤ x2.toInt ∧ x2.toInt < D 0 8) := by rcases k13_0 with ⟨z, -⟩ | ⟨hm9, z, y⟩ <;> rw [hbm] at z <;> cases z; rw [show (I8 hm 8).toInt = _ from (mc.mv hs ka0 khm hF8 rfl).2.2.1.2.2.2.2.2.2.1] at y; exact y
      clear k13_0
      refine r_if_ne hC (tgt := 27) dX10_struck_18 (by decide) (fun c14 => ?_) (fun c14 => ?_)
      · refine r_aload_n hC dX10_struck_27 0 rfl ?_
        refine r_iload_n hC dX10_struck_28 1 rfl ?_
        have hv15 : I8 hm 7 = S0 := (Eq.trans (up2_kk eI8 ka0 khm (by decide)) eS0.symm)
        refine r_callV hC (As := [.int x1]) (rest := []) (ci := 10) (f_X10_runsAsTold g (xL X) K len I8 J R hs8 a0 ka0 x1 hm hbm khm (by rw [hv15]; omega) lr hlr klr llr sr hsr ksr lsr ir hir kir lir wr hwr kwr lwr D E (mc.mv hs ka0 khm hF8 rfl) (by omega) (by omega)) mT_6_127 mT_1_10 mT_6_124 mT_6_126 mP_73 okX10_runsAsTold ⟨by decide, by decide⟩ rfl (by show kO (K a0) = _; rw [ka0]; rfl) rfl rfl (Nat.le_of_ble_eq_true rfl) ⟨by decide, by decide⟩ dX10_struck_29 (aV1 (F := fun st M => P g X 3 32 [(0, .ref a0), (1, .int x1), (2, .int x2)] st _ _ M) (M := (K, len, I8, J, R)) fun I16 h16 => ?_)
        obtain ⟨hs16, hf16, k16_0⟩ := h16
        show P g X 3 32 [(0, .ref a0), (1, .int x1), (2, .int x2)] [] _ _ (K, len, I16, J, R)
        have hF16 : Fr K [(11, 0), (11, 1), (11, 2), (11, 19), (85, 999), (86, 999), (87, 999), (88, 999)] I I16 := hF8.trans hf16 rfl rfl
        refine r_aload_n hC dX10_struck_32 0 rfl ?_
        refine r_aload_n hC dX10_struck_33 0 rfl ?_
        refine r_iload_n hC dX10_struck_34 2 rfl ?_
        refine r_callV hC (As := [.int x2]) (rest := [.ref a0]) (ci := 10) (f_X10_isStruck g (xL X) K len I16 J R hs16 a0 ka0 x2 hm hbm khm lr hlr klr llr sr hsr ksr lsr ir hir kir lir wr hwr kwr lwr D E (mc.mv hs ka0 khm hF16 rfl) x1.toInt.toNat (show ((x1.toInt.toNat : Nat) : Int) < D 0 7 by omega) k16_0 (by omega) (by omega)) mT_7_55 mT_1_10 mT_7_52 mT_7_54 mP_95 okX10_isStruck ⟨by decide, by decide⟩ rfl (by show kO (K a0) = _; rw [ka0]; rfl) rfl rfl (Nat.le_of_ble_eq_true rfl) ⟨by decide, by decide⟩ dX10_struck_35 (aI0 (F := fun st M => P g X 3 38 [(0, .ref a0), (1, .int x1), (2, .int x2)] st _ _ M) (M := (K, len, I16, J, R)) fun x17_ h17 => ?_)
        have k17_0 := h17
        clear h17
        show P g X 3 38 [(0, .ref a0), (1, .int x1), (2, .int x2)] [.int x17_, .ref a0] _ _ (K, len, I16, J, R)
        refine r_if_eq hC (tgt := 45) dX10_struck_38 (by decide) (fun c18 => ?_) (fun c18 => ?_)
        · refine r_iconst hC (v := (0)) dX10_struck_45 (by decide) (by decide) (fun x19_ e19 t19 => ?_)
          refine r_callV hC (As := [.int x19_]) (rest := []) (ci := 10) (c_X10_done g (xL X) K len I16 J R hs16 a0 ka0 x19_) mT_6_79 mT_1_10 mT_6_76 mT_6_78 mP_67 okX10_done ⟨by decide, by decide⟩ rfl (by show kO (K a0) = _; rw [ka0]; rfl) rfl rfl (Nat.le_of_ble_eq_true rfl) ⟨by decide, by decide⟩ dX10_struck_46 (aI1 (F := fun st M => P g X 3 49 [(0, .ref a0), (1, .int x1), (2, .int x2)] st _ _ M) (M := (K, len, I16, J, R)) fun x20_ I20 h20 => ?_)
          obtain ⟨hs20, hf20, k20_0, k20_1, k20_2⟩ := h20
          show P g X 3 49 [(0, .ref a0), (1, .int x1), (2, .int x2)] [.int x20_] _ _ (K, len, I20, J, R)
          have hF20 : Fr K [(11, 0), (11, 1), (11, 2), (11, 19), (85, 999), (86, 999), (87, 999), (88, 999)] I I20 := hF16.trans hf20 rfl rfl
          have mo20 := k16_0.mv ka0 klr ksr kir kwr hf20 rfl
          exact r_iret hC hQ hlk hr rfl (by decide) (by decide) dX10_struck_49 ⟨_, _, rfl, rfl, ⟨hs20, hF20, (by first | exact Or.inl ⟨hz, by omega⟩ | exact Or.inr ⟨hm, hbm, Or.inr ⟨by omega, by omega⟩⟩ | exact Or.inr ⟨hm, hbm, Or.inl ⟨by omega, (congrArg Int32.toInt k20_0).trans (by first | (rw [if_pos (by omega)]; omega) | (rw [if_neg (by omega)]; omega))⟩⟩), (by omega)⟩⟩
        · refine r_iconst hC (v := (1)) dX10_struck_41 (by decide) (by decide) (fun x21_ e21 t21 => ?_)
          refine r_goto hC (tgt := 46) dX10_struck_42 (by decide) ?_
          refine r_callV hC (As := [.int x21_]) (rest := []) (ci := 10) (c_X10_done g (xL X) K len I16 J R hs16 a0 ka0 x21_) mT_6_79 mT_1_10 mT_6_76 mT_6_78 mP_67 okX10_done ⟨by decide, by decide⟩ rfl (by show kO (K a0) = _; rw [ka0]; rfl) rfl rfl (Nat.le_of_ble_eq_true rfl) ⟨by decide, by decide⟩ dX10_struck_46 (aI1 (F := fun st M => P g X 3 49 [(0, .ref a0), (1, .int x1), (2, .int x2)] st _ _ M) (M := (K, len, I16, J, R)) fun x22_ I22 h22 => ?_)
          obtain ⟨hs22, hf22, k22_0, k22_1, k22_2⟩ := h22
          show P g X 3 49 [(0, .ref a0), (1, .int x1), (2, .int x2)] [.int x22_] _ _ (K, len, I22, J, R)
          have hF22 : Fr K [(11, 0), (11, 1), (11, 2), (11, 19), (85, 999), (86, 999), (87, 999), (88, 999)] I I22 := hF16.trans hf22 rfl rfl
          have mo22 := k16_0.mv ka0 klr ksr kir kwr hf22 rfl
          exact r_iret hC hQ hlk hr rfl (by decide) (by decide) dX10_struck_49 ⟨_, _, rfl, rfl, ⟨hs22, hF22, (by first | exact Or.inl ⟨hz, by omega⟩ | exact Or.inr ⟨hm, hbm, Or.inr ⟨by omega, by omega⟩⟩ | exact Or.inr ⟨hm, hbm, Or.inl ⟨by omega, (congrArg Int32.toInt k22_0).trans (by first | (rw [if_pos (by omega)]; omega) | (rw [if_neg (by omega)]; omega))⟩⟩), (by omega)⟩⟩
      · refine r_aload_n hC dX10_struck_21 0 rfl ?_
        refine r_iconst hC (v := (1)) dX10_struck_22 (by decide) (by decide) (fun x23_ e23 t23 => ?_)
        refine r_callV hC (As := [.int x23_]) (rest := []) (ci := 10) (c_X10_refused g (xL X) K len I8 J R hs8 a0 ka0 x23_) mT_5_85 mT_1_10 mT_5_82 mT_5_84 mP_48 okX10_refused ⟨by decide, by decide⟩ rfl (by show kO (K a0) = _; rw [ka0]; rfl) rfl rfl (Nat.le_of_ble_eq_true rfl) ⟨by decide, by decide⟩ dX10_struck_23 (aI1 (F := fun st M => P g X 3 26 [(0, .ref a0), (1, .int x1), (2, .int x2)] st _ _ M) (M := (K, len, I8, J, R)) fun x24_ I24 h24 => ?_)
        obtain ⟨hs24, hf24, k24_0, k24_1, k24_2⟩ := h24
        show P g X 3 26 [(0, .ref a0), (1, .int x1), (2, .int x2)] [.int x24_] _ _ (K, len, I24, J, R)
        have hF24 : Fr K [(11, 0), (11, 1), (11, 2), (11, 19), (85, 999), (86, 999), (87, 999), (88, 999)] I I24 := hF8.trans hf24 rfl rfl
        exact r_iret hC hQ hlk hr rfl (by decide) (by decide) dX10_struck_26 ⟨_, _, rfl, rfl, ⟨hs24, hF24, (by first | exact Or.inl ⟨hz, by omega⟩ | exact Or.inr ⟨hm, hbm, Or.inr ⟨by omega, by omega⟩⟩ | exact Or.inr ⟨hm, hbm, Or.inl ⟨by omega, (congrArg Int32.toInt k24_0).trans (by first | (rw [if_pos (by omega)]; omega) | (rw [if_neg (by omega)]; omega))⟩⟩), (by omega)⟩⟩
set_option maxHeartbeats 4000000 in
set_option maxRecDepth 100000 in
theorem a_X8_dead (g : GG) (l : Launch) (K len : Nat → Nat) (I : Nat → Nat → Int32) (J : Nat → Nat → Int64) (R : Nat → Nat → Option Nat) (hs : Sf K len I R) (a0 : Nat) (ka0 : K a0 = 9) (x1 : Int32) (x2 : Int32) (h : Nat) (hh : R a0 2 = some h) (kh : K h = 2) (lk : Nat) (hlk2 : R h 0 = some lk) (klk : K lk = 3) (rd : Nat) (hrd : R a0 9 = some rd) (krd : K rd = 4) (lv : Nat) (hlv : R a0 4 = some lv) (klv : K lv = 41) (llv : len lv = 60) (kn : Nat) (hkn : R a0 6 = some kn) (kkn : K kn = 43) (lkn : len kn = 6) (cr : Nat) (hcr : R a0 5 = some cr) (kcr1 : K cr = 44) (lcr : len cr = 6) (hu : UU K R) (D : DD) (E : Nat → Nat → Int) (hc : KC D E a0 h lk rd I R) : Ct g l yX8_dead cX8_dead 6 (Option.some Jvm.ClassFile.FieldType.int) rmX8_dead [.ref a0, .int x1, .int x2] (K, len, I, J, R) (pI1 (K, len, I, J, R) (fun r I' => Sf K len I' R ∧ Fr K [(1, 5), (1, 6), (9, 12), (43, 999), (50, 999), (51, 999), (52, 999), (53, 999), (54, 999)] I I' ∧ (KC D E a0 h lk rd I' R) ∧ (((0 ≤ x1.toInt ∧ x1.toInt < D 0 7) ∧ 0 ≤ x2.toInt ∧ x2.toInt ≤ 59) ∧ r.toInt = Dd D x1.toInt.toNat x2.toInt (D 0 8).toNat ∨ ¬ ((0 ≤ x1.toInt ∧ x1.toInt < D 0 7) ∧ 0 ≤ x2.toInt ∧ x2.toInt ≤ 59) ∧ r.toInt = -1) ∧ ((I' a0 12).toInt ≠ 4))) := by
  refine Ct_intro (by decide +kernel) (Nat.le_of_ble_eq_true rfl) (fun X hC hL hKK hNm hr hlk hQ => ?_)
  subst hL
  have hC : Cx g X cX8_dead "HillTap" 6 rmX8_dead := hC
  show P g X 6 0 [(0, .ref a0), (1, .int x1), (2, .int x2)] [] 0 0 (K, len, I, J, R)
  have hF : Fr K [(1, 5), (1, 6), (9, 12), (43, 999), (50, 999), (51, 999), (52, 999), (53, 999), (54, 999)] I I := Fr.refl
  have ka : KA a0 h lk rd K len R := ⟨⟨_, hs⟩, hu, ka0, kh, klk, krd⟩
  obtain ⟨sd1, sd2, sd3, sd4, sd5, sd7, sd8, sd9⟩ := id hc.2.1
  have d7b := hs.rng kh (k := 6) rfl (x := I h 6) rfl
  have d5b := hs.rng kh (k := 1) rfl (x := I h 1) rfl
  have d8b := hs.rng kh (k := 8) rfl (x := I h 8) rfl
  have b_x1 := ti_rng x1
  have b_x2 := ti_rng x2
  refine r_aload_n hC dX8_dead_0 0 rfl ?_
  refine r_iload_n hC dX8_dead_1 1 rfl ?_
  refine r_callV hC (As := [.int x1]) (rest := []) (ci := 8) (f_X8_isStory g (xL X) K len I J R hs a0 ka0 x1 h hh kh) mT_3_155 mT_1_1 mT_3_152 mT_3_154 mP_24 okX8_isStory ⟨by decide, by decide⟩ rfl (by show kO (K a0) = _; rw [ka0]; rfl) rfl rfl (Nat.le_of_ble_eq_true rfl) ⟨by decide, by decide⟩ dX8_dead_2 (aI0 (F := fun st M => P g X 6 5 [(0, .ref a0), (1, .int x1), (2, .int x2)] st _ _ M) (M := (K, len, I, J, R)) fun x1_ h1 => ?_)
  have k1_0 := h1
  clear h1
  show P g X 6 5 [(0, .ref a0), (1, .int x1), (2, .int x2)] [.int x1_] _ _ (K, len, I, J, R)
  rcases k1_0 with ⟨hr1, hw1⟩ | ⟨hr1, hw1⟩
  · refine r_if_eq hC (tgt := 15) dX8_dead_5 (by decide) (fun c2 => ?_) (fun c2 => ?_)
    · exfalso; omega
    refine r_iload_n hC dX8_dead_8 2 rfl ?_
    refine r_callS hC (As := [.int x2]) (rest := []) (f_X8_isDay g (xL X) K len I J R hs x2) mT_3_134 mT_1_1 mT_3_132 mT_3_133 okX8_isDay ⟨by decide, by decide⟩ rfl rfl (Nat.le_of_ble_eq_true rfl) ⟨by decide, by decide⟩ dX8_dead_9 (aI0 (F := fun st M => P g X 6 12 [(0, .ref a0), (1, .int x1), (2, .int x2)] st _ _ M) (M := (K, len, I, J, R)) fun x3_ h3 => ?_)
    have k3_0 := h3
    clear h3
    show P g X 6 12 [(0, .ref a0), (1, .int x1), (2, .int x2)] [.int x3_] _ _ (K, len, I, J, R)
    rcases k3_0 with ⟨hr3, hw3⟩ | ⟨hr3, hw3⟩
    · refine r_if_ne hC (tgt := 21) dX8_dead_12 (by decide) (fun c4 => ?_) (fun c4 => ?_)
      rotate_left
      · exfalso; omega
      refine r_aload_n hC dX8_dead_21 0 rfl ?_
      refine r_iload_n hC dX8_dead_22 1 rfl ?_
      refine r_callV hC (As := [.int x1]) (rest := []) (ci := 8) (f_X8_courseOf g (xL X) K len I J R hs a0 ka0 x1 h hh kh lk hlk2 klk rd hrd krd lv hlv klv llv kn hkn kkn lkn cr hcr kcr1 lcr hu D E hc (by omega) (by omega)) mT_3_163 mT_1_1 mT_3_160 mT_3_162 mP_26 okX8_courseOf ⟨by decide, by decide⟩ rfl (by show kO (K a0) = _; rw [ka0]; rfl) rfl rfl (Nat.le_of_ble_eq_true rfl) ⟨by decide, by decide⟩ dX8_dead_23 (aR1 (F := fun st M => P g X 6 26 [(0, .ref a0), (1, .int x1), (2, .int x2)] st _ _ M) (M := (K, len, I, J, R)) fun a5_ I5 h5 => ?_)
      obtain ⟨hs5, hf5, k5_0, k5_1, k5_2, k5_3, k5_4⟩ := h5
      show P g X 6 26 [(0, .ref a0), (1, .int x1), (2, .int x2)] [.ref a5_] _ _ (K, len, I5, J, R)
      have hF5 : Fr K [(1, 5), (1, 6), (9, 12), (43, 999), (50, 999), (51, 999), (52, 999), (53, 999), (54, 999)] I I5 := hF.trans hf5 rfl rfl
      refine r_geti hC 5 (ci := 0) rfl u0_in (by decide) mT_2_36 dX8_dead_26 k5_0 rfl rfl (fun x6_ e6 => ?_)
      have f6 : x6_.toInt = (I5 a5_ 5).toInt := by rw [e6]
      have q6 : x6_.toInt = GV D x1.toInt.toNat (Ad D x1.toInt.toNat (LP1 D) 1) 60 := by rw [e6]; exact k5_3.2.1
      refine r_istore_n hC (lv' := [(3, .int x6_), (0, .ref a0), (1, .int x1), (2, .int x2)]) dX8_dead_29 (by decide) rfl ?_
      refine r_iconst hC (v := (0)) dX8_dead_30 (by decide) (by decide) (fun x7_ e7 t7 => ?_)
      refine r_istore hC (lv' := [(4, .int x7_), (3, .int x6_), (0, .ref a0), (1, .int x1), (2, .int x2)]) dX8_dead_31 (by decide) rfl ?_
      refine r_iconst hC (v := (0)) dX8_dead_33 (by decide) (by decide) (fun x8_ e8 t8 => ?_)
      refine r_istore hC (lv' := [(5, .int x8_), (4, .int x7_), (3, .int x6_), (0, .ref a0), (1, .int x1), (2, .int x2)]) dX8_dead_34 (by decide) rfl ?_
      have LP9 : ∀ (mu : Nat) (x9_5 : Int32) (x9_4 : Int32) (I9 : Nat → Nat → Int32) (hs9 : Sf K len I9 R) (hF9 : Fr K [(1, 5), (1, 6), (9, 12), (43, 999), (50, 999), (51, 999), (52, 999), (53, 999), (54, 999)] I I9) (v9_0 : 0 ≤ x9_5.toInt) (v9_1 : x9_5.toInt ≤ D 0 8) (v9_2 : x9_4.toInt = Dd D x1.toInt.toNat x2.toInt x9_5.toInt.toNat) (v9_3 : 0 ≤ x9_4.toInt ∧ x9_4.toInt ≤ 999 * x9_5.toInt) (v9_4 : KC D E a0 h lk rd I9 R), (4 - x9_5.toInt).toNat = mu → P g X 6 36 [(0, .ref a0), (1, .int x1), (2, .int x2), (3, .int x6_), (4, .int x9_4), (5, .int x9_5)] [] 0 0 (K, len, I9, J, R) := by
        intro mu; induction mu using Nat.strongRecOn with | ind mu ih => ?_
        intro x9_5 x9_4 I9 hs9 hF9 v9_0 v9_1 v9_2 v9_3 v9_4 hmu
        have ih9 := ih
        clear ih
        have hmu9 := hmu
        clear hmu
        refine r_iload hC dX8_dead_36 5 rfl ?_
        refine r_aload_n hC dX8_dead_38 0 rfl ?_
        refine r_getr hC 2 (ci := 8) rfl u8_in (by decide) mT_2_80 dX8_dead_39 ka0 rfl rfl hh ?_
        refine r_geti hC 8 (ci := 1) rfl u1_in (by decide) mT_1_208 dX8_dead_42 kh rfl rfl (fun x10_ e10 => ?_)
        have r10 := hs9.rng kh rfl e10
        have f10 : x10_.toInt = (I9 h 8).toInt := by rw [e10]
        have sc10 : x10_.toInt = D 0 8 := by rw [e10]; exact v9_4.2.1.2.2.2.2.2.2.1
        refine r_icmp_ge hC (tgt := 95) dX8_dead_45 (by decide) (fun c11 => ?_) (fun c11 => ?_)
        · refine r_aload_n hC dX8_dead_95 0 rfl ?_
          refine r_iload hC dX8_dead_96 4 rfl ?_
          have lqd : x9_4.toInt = Dd D x1.toInt.toNat x2.toInt (D 0 8).toNat := by rw [show (D 0 8).toNat = x9_5.toInt.toNat by omega]; exact v9_2
          refine r_callV hC (As := [.int x9_4]) (rest := []) (ci := 8) (c_X8_answer g (xL X) K len I9 J R hs9 a0 ka0 x9_4) mT_3_115 mT_1_1 mT_3_112 mT_3_114 mP_21 okX8_answer ⟨by decide, by decide⟩ rfl (by show kO (K a0) = _; rw [ka0]; rfl) rfl rfl (Nat.le_of_ble_eq_true rfl) ⟨by decide, by decide⟩ dX8_dead_98 (aI1 (F := fun st M => P g X 6 101 [(0, .ref a0), (1, .int x1), (2, .int x2), (3, .int x6_), (4, .int x9_4), (5, .int x9_5)] st _ _ M) (M := (K, len, I9, J, R)) fun x12_ I12 h12 => ?_)
          obtain ⟨hs12, hf12, k12_0, k12_1⟩ := h12
          show P g X 6 101 [(0, .ref a0), (1, .int x1), (2, .int x2), (3, .int x6_), (4, .int x9_4), (5, .int x9_5)] [.int x12_] _ _ (K, len, I12, J, R)
          have hF12 : Fr K [(1, 5), (1, 6), (9, 12), (43, 999), (50, 999), (51, 999), (52, 999), (53, 999), (54, 999)] I I12 := hF9.trans hf12 rfl rfl
          have hc12 := v9_4.mv ka hf12 rfl
          exact r_iret hC hQ hlk hr rfl (by decide) (by decide) dX8_dead_101 ⟨_, _, rfl, rfl, ⟨hs12, hF12, (by exact hc12), (by first | exact Or.inr ⟨by omega, by omega⟩ | exact Or.inl ⟨by omega, (congrArg Int32.toInt k12_0).trans lqd⟩), (by omega)⟩⟩
        · refine r_aload_n hC dX8_dead_48 0 rfl ?_
          refine r_iload_n hC dX8_dead_49 1 rfl ?_
          refine r_iload hC dX8_dead_50 5 rfl ?_
          refine r_callV hC (As := [.int x1, .int x9_5]) (rest := []) (ci := 8) (f_X8_strikes g (xL X) K len I9 J R hs9 a0 ka0 x1 x9_5 h hh kh lk hlk2 klk rd hrd krd lv hlv klv llv kn hkn kkn lkn cr hcr kcr1 lcr hu D E v9_4 (by omega) (by omega) (by omega) (by omega)) mT_4_123 mT_1_1 mT_4_120 mT_4_122 mP_46 okX8_strikes ⟨by decide, by decide⟩ rfl (by show kO (K a0) = _; rw [ka0]; rfl) rfl rfl (Nat.le_of_ble_eq_true rfl) ⟨by decide, by decide⟩ dX8_dead_52 (aI1 (F := fun st M => P g X 6 55 [(0, .ref a0), (1, .int x1), (2, .int x2), (3, .int x6_), (4, .int x9_4), (5, .int x9_5)] st _ _ M) (M := (K, len, I9, J, R)) fun x13_ I13 h13 => ?_)
          obtain ⟨hs13, hf13, k13_0, k13_1⟩ := h13
          show P g X 6 55 [(0, .ref a0), (1, .int x1), (2, .int x2), (3, .int x6_), (4, .int x9_4), (5, .int x9_5)] [.int x13_] _ _ (K, len, I13, J, R)
          have hF13 : Fr K [(1, 5), (1, 6), (9, 12), (43, 999), (50, 999), (51, 999), (52, 999), (53, 999), (54, 999)] I I13 := hF9.trans hf13 rfl rfl
          refine r_if_eq hC (tgt := 89) dX8_dead_55 (by decide) (fun c14 => ?_) (fun c14 => ?_)
          · obtain ⟨x15_, e15⟩ : ∃ z : Int32, z = x9_5 + Int32.ofInt (1) := ⟨_, rfl⟩
            refine r_iinc hC (j := 5) (v := x15_) (lv' := [(5, .int x15_), (0, .ref a0), (1, .int x1), (2, .int x2), (3, .int x6_), (4, .int x9_4)]) dX8_dead_89 rfl (by rw [e15]) (by decide) rfl ?_
            try have t15 : x15_.toInt = x9_5.toInt + (1) := by rw [e15]; exact (ti_add (b := Int32.ofInt (1)) (by show _ ≤ _ + (1 : Int); omega) (by show _ + (1 : Int) ≤ _; omega))
            refine r_goto hC (tgt := 36) dX8_dead_92 (by decide) ?_
            refine r_sub [1, 2, 3, 4, 5, 0] rfl ?_
            exact ih9 ((4 - x15_.toInt).toNat) (by omega) x15_ x9_4 I13 hs13 hF13 (by omega) (by omega) (by first | (rw [show x15_.toInt.toNat = 0 by omega]; show _ = (0 : Int); omega) | (rw [show x15_.toInt.toNat = x9_5.toInt.toNat + 1 by omega, Dd_t (by omega)]; omega) | (rw [show x15_.toInt.toNat = x9_5.toInt.toNat + 1 by omega, Dd_n (by omega)]; omega)) (by omega) (by exact k13_0) rfl
          · refine r_iload_n hC dX8_dead_58 2 rfl ?_
            refine r_aload_n hC dX8_dead_59 0 rfl ?_
            refine r_getr hC 2 (ci := 8) rfl u8_in (by decide) mT_2_80 dX8_dead_60 ka0 rfl rfl hh ?_
            obtain ⟨a16_, hb16, hk16, hn16⟩ := hs13.row kh 11 60 4 (by decide) (by decide)
            refine r_getr hC 11 (ci := 1) rfl u1_in (by decide) mT_1_217 dX8_dead_63 kh rfl rfl hb16 ?_
            refine r_iload hC dX8_dead_66 5 rfl ?_
            refine x_iaload hC hk16 hn16 (by decide) rfl rfl dX8_dead_68 (by omega) (by omega) (fun x17_ e17 => ?_)
            have q17 : x17_.toInt = D 12 x9_5.toInt.toNat := by rw [e17, clx (i := x9_5) rfl (by omega)]; exact k13_0.1 12 _ _ _ (cCt (r := 12) rfl hb16) (by rw [cnt_12]; omega) (fun h9 => absurd h9 (by decide))
            have jb17 : 0 ≤ D 12 x9_5.toInt.toNat ∧ D 12 x9_5.toInt.toNat ≤ 30 := ((k13_0.2.2.1 (by omega)).1).2.2.2.1 12 _ (by decide) (by decide) (by decide)
            refine r_iadd hC dX8_dead_69 (fun x18_ e18 => ?_)
            try have t18 : x18_.toInt = x2.toInt + x17_.toInt := by rw [e18]; exact ti_add (by omega) (by omega)
            refine r_iload_n hC dX8_dead_70 3 rfl ?_
            refine r_icmp_le hC (tgt := 89) dX8_dead_71 (by decide) (fun c19 => ?_) (fun c19 => ?_)
            · obtain ⟨x20_, e20⟩ : ∃ z : Int32, z = x9_5 + Int32.ofInt (1) := ⟨_, rfl⟩
              refine r_iinc hC (j := 5) (v := x20_) (lv' := [(5, .int x20_), (0, .ref a0), (1, .int x1), (2, .int x2), (3, .int x6_), (4, .int x9_4)]) dX8_dead_89 rfl (by rw [e20]) (by decide) rfl ?_
              try have t20 : x20_.toInt = x9_5.toInt + (1) := by rw [e20]; exact (ti_add (b := Int32.ofInt (1)) (by show _ ≤ _ + (1 : Int); omega) (by show _ + (1 : Int) ≤ _; omega))
              refine r_goto hC (tgt := 36) dX8_dead_92 (by decide) ?_
              refine r_sub [1, 2, 3, 4, 5, 0] rfl ?_
              exact ih9 ((4 - x20_.toInt).toNat) (by omega) x20_ x9_4 I13 hs13 hF13 (by omega) (by omega) (by first | (rw [show x20_.toInt.toNat = 0 by omega]; show _ = (0 : Int); omega) | (rw [show x20_.toInt.toNat = x9_5.toInt.toNat + 1 by omega, Dd_t (by omega)]; omega) | (rw [show x20_.toInt.toNat = x9_5.toInt.toNat + 1 by omega, Dd_n (by omega)]; omega)) (by omega) (by exact k13_0) rfl
            · refine r_iload hC dX8_dead_74 4 rfl ?_
              refine r_aload_n hC dX8_dead_76 0 rfl ?_
              refine r_getr hC 2 (ci := 8) rfl u8_in (by decide) mT_2_80 dX8_dead_77 ka0 rfl rfl hh ?_
              obtain ⟨a21_, hb21, hk21, hn21⟩ := hs13.row kh 10 59 4 (by decide) (by decide)
              refine r_getr hC 10 (ci := 1) rfl u1_in (by decide) mT_1_214 dX8_dead_80 kh rfl rfl hb21 ?_
              refine r_iload hC dX8_dead_83 5 rfl ?_
              refine x_iaload hC hk21 hn21 (by decide) rfl rfl dX8_dead_85 (by omega) (by omega) (fun x22_ e22 => ?_)
              have q22 : x22_.toInt = D 11 x9_5.toInt.toNat := by rw [e22, clx (i := x9_5) rfl (by omega)]; exact k13_0.1 11 _ _ _ (cCt (r := 11) rfl hb21) (by rw [cnt_11]; omega) (fun h9 => absurd h9 (by decide))
              have jb22 : 0 ≤ D 11 x9_5.toInt.toNat ∧ D 11 x9_5.toInt.toNat ≤ 999 := ((k13_0.2.2.1 (by omega)).1).2.2.2.1 11 _ (by decide) (by decide) (by decide)
              refine r_iadd hC dX8_dead_86 (fun x23_ e23 => ?_)
              try have t23 : x23_.toInt = x9_4.toInt + x22_.toInt := by rw [e23]; exact ti_add (by omega) (by omega)
              refine r_istore hC (lv' := [(4, .int x23_), (0, .ref a0), (1, .int x1), (2, .int x2), (3, .int x6_), (5, .int x9_5)]) dX8_dead_87 (by decide) rfl ?_
              obtain ⟨x24_, e24⟩ : ∃ z : Int32, z = x9_5 + Int32.ofInt (1) := ⟨_, rfl⟩
              refine r_iinc hC (j := 5) (v := x24_) (lv' := [(5, .int x24_), (4, .int x23_), (0, .ref a0), (1, .int x1), (2, .int x2), (3, .int x6_)]) dX8_dead_89 rfl (by rw [e24]) (by decide) rfl ?_
              try have t24 : x24_.toInt = x9_5.toInt + (1) := by rw [e24]; exact (ti_add (b := Int32.ofInt (1)) (by show _ ≤ _ + (1 : Int); omega) (by show _ + (1 : Int) ≤ _; omega))
              refine r_goto hC (tgt := 36) dX8_dead_92 (by decide) ?_
              refine r_sub [2, 3, 4, 5, 1, 0] rfl ?_
              exact ih9 ((4 - x24_.toInt).toNat) (by omega) x24_ x23_ I13 hs13 hF13 (by omega) (by omega) (by first | (rw [show x24_.toInt.toNat = 0 by omega]; show _ = (0 : Int); omega) | (rw [show x24_.toInt.toNat = x9_5.toInt.toNat + 1 by omega, Dd_t (by omega)]; omega) | (rw [show x24_.toInt.toNat = x9_5.toInt.toNat + 1 by omega, Dd_n (by omega)]; omega)) (by omega) (by exact k13_0) rfl
      refine r_sub [3, 4, 5, 2, 1, 0] rfl ?_
      exact LP9 _ x8_ x7_ I5 hs5 hF5 (by omega) (by omega) (by first | (rw [show x8_.toInt.toNat = 0 by omega]; show _ = (0 : Int); omega) | (rw [show x8_.toInt.toNat = x9_5.toInt.toNat + 1 by omega, Dd_t (by omega)]; omega) | (rw [show x8_.toInt.toNat = x9_5.toInt.toNat + 1 by omega, Dd_n (by omega)]; omega)) (by omega) (by exact k5_2) rfl
    · refine r_if_ne hC (tgt := 21) dX8_dead_12 (by decide) (fun c25 => ?_) (fun c25 => ?_)
      · exfalso; omega
      refine r_aload_n hC dX8_dead_15 0 rfl ?_
      refine r_iconst hC (v := (1)) dX8_dead_16 (by decide) (by decide) (fun x26_ e26 t26 => ?_)
      refine r_callV hC (As := [.int x26_]) (rest := []) (ci := 8) (c_X8_refuse g (xL X) K len I J R hs a0 ka0 x26_) mT_2_133 mT_1_1 mT_2_130 mT_2_132 mP_0 okX8_refuse ⟨by decide, by decide⟩ rfl (by show kO (K a0) = _; rw [ka0]; rfl) rfl rfl (Nat.le_of_ble_eq_true rfl) ⟨by decide, by decide⟩ dX8_dead_17 (aI1 (F := fun st M => P g X 6 20 [(0, .ref a0), (1, .int x1), (2, .int x2)] st _ _ M) (M := (K, len, I, J, R)) fun x27_ I27 h27 => ?_)
      obtain ⟨hs27, hf27, k27_0, k27_1⟩ := h27
      show P g X 6 20 [(0, .ref a0), (1, .int x1), (2, .int x2)] [.int x27_] _ _ (K, len, I27, J, R)
      have hF27 : Fr K [(1, 5), (1, 6), (9, 12), (43, 999), (50, 999), (51, 999), (52, 999), (53, 999), (54, 999)] I I27 := hF.trans hf27 rfl rfl
      have hc27 := hc.mv ka hf27 rfl
      exact r_iret hC hQ hlk hr rfl (by decide) (by decide) dX8_dead_20 ⟨_, _, rfl, rfl, ⟨hs27, hF27, (by exact hc27), (by first | exact Or.inr ⟨by omega, by omega⟩ | exact Or.inl ⟨by omega, (congrArg Int32.toInt k27_0).trans NOlq⟩), (by omega)⟩⟩
  · refine r_if_eq hC (tgt := 15) dX8_dead_5 (by decide) (fun c28 => ?_) (fun c28 => ?_)
    rotate_left
    · exfalso; omega
    refine r_aload_n hC dX8_dead_15 0 rfl ?_
    refine r_iconst hC (v := (1)) dX8_dead_16 (by decide) (by decide) (fun x29_ e29 t29 => ?_)
    refine r_callV hC (As := [.int x29_]) (rest := []) (ci := 8) (c_X8_refuse g (xL X) K len I J R hs a0 ka0 x29_) mT_2_133 mT_1_1 mT_2_130 mT_2_132 mP_0 okX8_refuse ⟨by decide, by decide⟩ rfl (by show kO (K a0) = _; rw [ka0]; rfl) rfl rfl (Nat.le_of_ble_eq_true rfl) ⟨by decide, by decide⟩ dX8_dead_17 (aI1 (F := fun st M => P g X 6 20 [(0, .ref a0), (1, .int x1), (2, .int x2)] st _ _ M) (M := (K, len, I, J, R)) fun x30_ I30 h30 => ?_)
    obtain ⟨hs30, hf30, k30_0, k30_1⟩ := h30
    show P g X 6 20 [(0, .ref a0), (1, .int x1), (2, .int x2)] [.int x30_] _ _ (K, len, I30, J, R)
    have hF30 : Fr K [(1, 5), (1, 6), (9, 12), (43, 999), (50, 999), (51, 999), (52, 999), (53, 999), (54, 999)] I I30 := hF.trans hf30 rfl rfl
    have hc30 := hc.mv ka hf30 rfl
    exact r_iret hC hQ hlk hr rfl (by decide) (by decide) dX8_dead_20 ⟨_, _, rfl, rfl, ⟨hs30, hF30, (by exact hc30), (by first | exact Or.inr ⟨by omega, by omega⟩ | exact Or.inl ⟨by omega, (congrArg Int32.toInt k30_0).trans NOlq⟩), (by omega)⟩⟩
set_option maxHeartbeats 4000000 in
set_option maxRecDepth 100000 in
theorem f_X10_dead (g : GG) (l : Launch) (K len : Nat → Nat) (I : Nat → Nat → Int32) (J : Nat → Nat → Int64) (R : Nat → Nat → Option Nat) (hs : Sf K len I R) (a0 : Nat) (ka0 : K a0 = 11) (x1 : Int32) (x2 : Int32) (D : DD) (E : Nat → Nat → Int) (hmx : ∀ hm, R a0 3 = some hm → MC D E a0 hm I R) : Ct g l yX10_dead cX10_dead 5 (Option.some Jvm.ClassFile.FieldType.int) rmX10_dead [.ref a0, .int x1, .int x2] (K, len, I, J, R) (pI1 (K, len, I, J, R) (fun r I' => Sf K len I' R ∧ Fr K [(11, 0), (11, 1), (11, 2), (11, 19), (85, 999), (86, 999), (87, 999), (88, 999)] I I' ∧ ((R a0 3 = none ∧ r.toInt = -1) ∨ (∃ hm, R a0 3 = some hm ∧ (((0 ≤ x1.toInt ∧ x1.toInt < D 0 7) ∧ 0 ≤ x2.toInt ∧ x2.toInt ≤ 59) ∧ r.toInt = Dd D x1.toInt.toNat x2.toInt (D 0 8).toNat ∨ ¬ ((0 ≤ x1.toInt ∧ x1.toInt < D 0 7) ∧ 0 ≤ x2.toInt ∧ x2.toInt ≤ 59) ∧ r.toInt = -1))) ∧ ((I' a0 2).toInt = -1))) := by
  refine Ct_intro (by decide +kernel) (Nat.le_of_ble_eq_true rfl) (fun X hC hL hKK hNm hr hlk hQ => ?_)
  subst hL
  have hC : Cx g X cX10_dead "HillTapModel" 5 rmX10_dead := hC
  show P g X 5 0 [(0, .ref a0), (1, .int x1), (2, .int x2)] [] 0 0 (K, len, I, J, R)
  have hF : Fr K [(11, 0), (11, 1), (11, 2), (11, 19), (85, 999), (86, 999), (87, 999), (88, 999)] I I := Fr.refl
  obtain ⟨lr, hlr, klr, llr⟩ := hs.row ka0 15 85 60 (by decide) (by decide)
  obtain ⟨sr, hsr, ksr, lsr⟩ := hs.row ka0 16 86 300 (by decide) (by decide)
  obtain ⟨ir, hir, kir, lir⟩ := hs.row ka0 17 87 300 (by decide) (by decide)
  obtain ⟨wr, hwr, kwr, lwr⟩ := hs.row ka0 18 88 300 (by decide) (by decide)
  have b_x1 := ti_rng x1
  have b_x2 := ti_rng x2
  rcases hs.2.1.2.2.1 a0 ka0 with hz | ⟨hm, hbm, khm⟩
  · refine r_aload_n hC dX10_dead_0 0 rfl ?_
    refine r_iconst hC (v := (0)) dX10_dead_1 (by decide) (by decide) (fun x1_ e1 t1 => ?_)
    refine r_puti hC 0 (ci := 10) rfl u10_in tyX10_ok nmX10 (by decide) mT_4_235 rfl rfl rfl dX10_dead_2 ka0 rfl rfl (fun I2 eI2 => ?_)
    have hs2 := hs.put0 eI2 ka0 rfl rfl rfl (by decide)
    have hF2 := hF.put eI2 ka0 rfl
    refine r_aload_n hC dX10_dead_5 0 rfl ?_
    refine r_iload_n hC dX10_dead_6 1 rfl ?_
    refine r_callV hC (As := [.int x1]) (rest := []) (ci := 10) (f_X10_isStory g (xL X) K len I2 J R hs2 a0 ka0 x1) mT_6_119 mT_1_10 mT_6_116 mT_6_118 mP_71 okX10_isStory ⟨by decide, by decide⟩ rfl (by show kO (K a0) = _; rw [ka0]; rfl) rfl rfl (Nat.le_of_ble_eq_true rfl) ⟨by decide, by decide⟩ dX10_dead_7 (aI0 (F := fun st M => P g X 5 10 [(0, .ref a0), (1, .int x1), (2, .int x2)] st _ _ M) (M := (K, len, I2, J, R)) fun x3_ h3 => ?_)
    have k3_0 := h3
    clear h3
    show P g X 5 10 [(0, .ref a0), (1, .int x1), (2, .int x2)] [.int x3_] _ _ (K, len, I2, J, R)
    have kq3 : x3_.toInt = 0 := by rcases k3_0 with ⟨z, y⟩ | ⟨hm9, z, y⟩; exact y; rw [hz] at z; cases z
    clear k3_0
    refine r_if_eq hC (tgt := 21) dX10_dead_10 (by decide) (fun c4 => ?_) (fun c4 => ?_)
    rotate_left
    · exfalso; omega
    refine r_aload_n hC dX10_dead_21 0 rfl ?_
    refine r_iconst hC (v := (1)) dX10_dead_22 (by decide) (by decide) (fun x5_ e5 t5 => ?_)
    refine r_callV hC (As := [.int x5_]) (rest := []) (ci := 10) (c_X10_refused g (xL X) K len I2 J R hs2 a0 ka0 x5_) mT_5_85 mT_1_10 mT_5_82 mT_5_84 mP_48 okX10_refused ⟨by decide, by decide⟩ rfl (by show kO (K a0) = _; rw [ka0]; rfl) rfl rfl (Nat.le_of_ble_eq_true rfl) ⟨by decide, by decide⟩ dX10_dead_23 (aI1 (F := fun st M => P g X 5 26 [(0, .ref a0), (1, .int x1), (2, .int x2)] st _ _ M) (M := (K, len, I2, J, R)) fun x6_ I6 h6 => ?_)
    obtain ⟨hs6, hf6, k6_0, k6_1, k6_2⟩ := h6
    show P g X 5 26 [(0, .ref a0), (1, .int x1), (2, .int x2)] [.int x6_] _ _ (K, len, I6, J, R)
    have hF6 : Fr K [(11, 0), (11, 1), (11, 2), (11, 19), (85, 999), (86, 999), (87, 999), (88, 999)] I I6 := hF2.trans hf6 rfl rfl
    exact r_iret hC hQ hlk hr rfl (by decide) (by decide) dX10_dead_26 ⟨_, _, rfl, rfl, ⟨hs6, hF6, (by first | exact Or.inl ⟨hz, by omega⟩ | exact Or.inr ⟨hm, hbm, Or.inr ⟨by omega, by omega⟩⟩ | exact Or.inr ⟨hm, hbm, Or.inl ⟨by omega, (congrArg Int32.toInt k6_0).trans NOlq⟩⟩), (by omega)⟩⟩
  · obtain ⟨S0, eS0⟩ : ∃ z : Int32, z = I hm 7 := ⟨_, rfl⟩
    have fS0 : S0.toInt = (I hm 7).toInt := by rw [eS0]
    have rS0 := hs.rng khm rfl eS0
    have mc := hmx hm hbm
    obtain ⟨⟨hJ, hR6, hD7⟩, rwm, ⟨hd1, hd2, hd3, hd4, hd5, hd7, hd8, hd9⟩, -⟩ := id mc
    have hcx := CM_x hs khm
    have b5 := hs.rng khm (k := 3) rfl (x := I hm 3) rfl
    have b7 := hs.rng khm (k := 7) rfl (x := I hm 7) rfl
    have b8 := hs.rng khm (k := 8) rfl (x := I hm 8) rfl
    have b20 := hs.rng ka0 (k := 20) rfl (x := I a0 20) rfl
    refine r_aload_n hC dX10_dead_0 0 rfl ?_
    refine r_iconst hC (v := (0)) dX10_dead_1 (by decide) (by decide) (fun x7_ e7 t7 => ?_)
    refine r_puti hC 0 (ci := 10) rfl u10_in tyX10_ok nmX10 (by decide) mT_4_235 rfl rfl rfl dX10_dead_2 ka0 rfl rfl (fun I8 eI8 => ?_)
    have hs8 := hs.put0 eI8 ka0 rfl rfl rfl (by decide)
    have hF8 := hF.put eI8 ka0 rfl
    refine r_aload_n hC dX10_dead_5 0 rfl ?_
    refine r_iload_n hC dX10_dead_6 1 rfl ?_
    refine r_callV hC (As := [.int x1]) (rest := []) (ci := 10) (f_X10_isStory g (xL X) K len I8 J R hs8 a0 ka0 x1) mT_6_119 mT_1_10 mT_6_116 mT_6_118 mP_71 okX10_isStory ⟨by decide, by decide⟩ rfl (by show kO (K a0) = _; rw [ka0]; rfl) rfl rfl (Nat.le_of_ble_eq_true rfl) ⟨by decide, by decide⟩ dX10_dead_7 (aI0 (F := fun st M => P g X 5 10 [(0, .ref a0), (1, .int x1), (2, .int x2)] st _ _ M) (M := (K, len, I8, J, R)) fun x9_ h9 => ?_)
    have k9_0 := h9
    clear h9
    show P g X 5 10 [(0, .ref a0), (1, .int x1), (2, .int x2)] [.int x9_] _ _ (K, len, I8, J, R)
    have kq9 : x9_.toInt = 1 ∧ (0 ≤ x1.toInt ∧ x1.toInt < D 0 7) ∨ x9_.toInt = 0 ∧ ¬ (0 ≤ x1.toInt ∧ x1.toInt < D 0 7) := by rcases k9_0 with ⟨z, -⟩ | ⟨hm9, z, y⟩ <;> rw [hbm] at z <;> cases z; rw [show (I8 hm 7).toInt = _ from (mc.mv hs ka0 khm hF8 rfl).2.2.1.2.2.2.2.2.1] at y; exact y
    clear k9_0
    refine r_if_eq hC (tgt := 21) dX10_dead_10 (by decide) (fun c10 => ?_) (fun c10 => ?_)
    · refine r_aload_n hC dX10_dead_21 0 rfl ?_
      refine r_iconst hC (v := (1)) dX10_dead_22 (by decide) (by decide) (fun x11_ e11 t11 => ?_)
      refine r_callV hC (As := [.int x11_]) (rest := []) (ci := 10) (c_X10_refused g (xL X) K len I8 J R hs8 a0 ka0 x11_) mT_5_85 mT_1_10 mT_5_82 mT_5_84 mP_48 okX10_refused ⟨by decide, by decide⟩ rfl (by show kO (K a0) = _; rw [ka0]; rfl) rfl rfl (Nat.le_of_ble_eq_true rfl) ⟨by decide, by decide⟩ dX10_dead_23 (aI1 (F := fun st M => P g X 5 26 [(0, .ref a0), (1, .int x1), (2, .int x2)] st _ _ M) (M := (K, len, I8, J, R)) fun x12_ I12 h12 => ?_)
      obtain ⟨hs12, hf12, k12_0, k12_1, k12_2⟩ := h12
      show P g X 5 26 [(0, .ref a0), (1, .int x1), (2, .int x2)] [.int x12_] _ _ (K, len, I12, J, R)
      have hF12 : Fr K [(11, 0), (11, 1), (11, 2), (11, 19), (85, 999), (86, 999), (87, 999), (88, 999)] I I12 := hF8.trans hf12 rfl rfl
      exact r_iret hC hQ hlk hr rfl (by decide) (by decide) dX10_dead_26 ⟨_, _, rfl, rfl, ⟨hs12, hF12, (by first | exact Or.inl ⟨hz, by omega⟩ | exact Or.inr ⟨hm, hbm, Or.inr ⟨by omega, by omega⟩⟩ | exact Or.inr ⟨hm, hbm, Or.inl ⟨by omega, (congrArg Int32.toInt k12_0).trans NOlq⟩⟩), (by omega)⟩⟩
    · refine r_aload_n hC dX10_dead_13 0 rfl ?_
      refine r_iload_n hC dX10_dead_14 2 rfl ?_
      refine r_callV hC (As := [.int x2]) (rest := []) (ci := 10) (f_X10_isDay g (xL X) K len I8 J R hs8 a0 ka0 x2) mT_6_95 mT_1_10 mT_6_92 mT_6_94 mP_68 okX10_isDay ⟨by decide, by decide⟩ rfl (by show kO (K a0) = _; rw [ka0]; rfl) rfl rfl (Nat.le_of_ble_eq_true rfl) ⟨by decide, by decide⟩ dX10_dead_15 (aI0 (F := fun st M => P g X 5 18 [(0, .ref a0), (1, .int x1), (2, .int x2)] st _ _ M) (M := (K, len, I8, J, R)) fun x13_ h13 => ?_)
      have k13_0 := h13
      clear h13
      show P g X 5 18 [(0, .ref a0), (1, .int x1), (2, .int x2)] [.int x13_] _ _ (K, len, I8, J, R)
      have kq13 : x13_.toInt = 1 ∧ (0 ≤ x2.toInt ∧ x2.toInt ≤ 59) ∨ x13_.toInt = 0 ∧ ¬ (0 ≤ x2.toInt ∧ x2.toInt ≤ 59) := by rcases k13_0 with ⟨z, -⟩ | ⟨hm9, z, y⟩ <;> rw [hbm] at z <;> cases z; exact y
      clear k13_0
      refine r_if_ne hC (tgt := 27) dX10_dead_18 (by decide) (fun c14 => ?_) (fun c14 => ?_)
      · refine r_aload_n hC dX10_dead_27 0 rfl ?_
        refine r_iload_n hC dX10_dead_28 1 rfl ?_
        have hv15 : I8 hm 7 = S0 := (Eq.trans (up2_kk eI8 ka0 khm (by decide)) eS0.symm)
        refine r_callV hC (As := [.int x1]) (rest := []) (ci := 10) (f_X10_runsAsTold g (xL X) K len I8 J R hs8 a0 ka0 x1 hm hbm khm (by rw [hv15]; omega) lr hlr klr llr sr hsr ksr lsr ir hir kir lir wr hwr kwr lwr D E (mc.mv hs ka0 khm hF8 rfl) (by omega) (by omega)) mT_6_127 mT_1_10 mT_6_124 mT_6_126 mP_73 okX10_runsAsTold ⟨by decide, by decide⟩ rfl (by show kO (K a0) = _; rw [ka0]; rfl) rfl rfl (Nat.le_of_ble_eq_true rfl) ⟨by decide, by decide⟩ dX10_dead_29 (aV1 (F := fun st M => P g X 5 32 [(0, .ref a0), (1, .int x1), (2, .int x2)] st _ _ M) (M := (K, len, I8, J, R)) fun I16 h16 => ?_)
        obtain ⟨hs16, hf16, k16_0⟩ := h16
        show P g X 5 32 [(0, .ref a0), (1, .int x1), (2, .int x2)] [] _ _ (K, len, I16, J, R)
        have hF16 : Fr K [(11, 0), (11, 1), (11, 2), (11, 19), (85, 999), (86, 999), (87, 999), (88, 999)] I I16 := hF8.trans hf16 rfl rfl
        refine r_iconst hC (v := (0)) dX10_dead_32 (by decide) (by decide) (fun x17_ e17 t17 => ?_)
        refine r_istore_n hC (lv' := [(3, .int x17_), (0, .ref a0), (1, .int x1), (2, .int x2)]) dX10_dead_33 (by decide) rfl ?_
        refine r_iconst hC (v := (0)) dX10_dead_34 (by decide) (by decide) (fun x18_ e18 t18 => ?_)
        refine r_istore hC (lv' := [(4, .int x18_), (3, .int x17_), (0, .ref a0), (1, .int x1), (2, .int x2)]) dX10_dead_35 (by decide) rfl ?_
        have LP19 : ∀ (mu : Nat) (x19_4 : Int32) (x19_3 : Int32) (v19_0 : 0 ≤ x19_4.toInt) (v19_1 : x19_4.toInt ≤ D 0 8) (v19_2 : x19_3.toInt = Dd D x1.toInt.toNat x2.toInt x19_4.toInt.toNat) (v19_3 : 0 ≤ x19_3.toInt ∧ x19_3.toInt ≤ 999 * x19_4.toInt), (4 - x19_4.toInt).toNat = mu → P g X 5 37 [(0, .ref a0), (1, .int x1), (2, .int x2), (3, .int x19_3), (4, .int x19_4)] [] 0 0 (K, len, I16, J, R) := by
          intro mu; induction mu using Nat.strongRecOn with | ind mu ih => ?_
          intro x19_4 x19_3 v19_0 v19_1 v19_2 v19_3 hmu
          have ih19 := ih
          clear ih
          have hmu19 := hmu
          clear hmu
          refine r_iload hC dX10_dead_37 4 rfl ?_
          refine r_aload_n hC dX10_dead_39 0 rfl ?_
          refine r_getr hC 3 (ci := 10) rfl u10_in (by decide) mT_4_238 dX10_dead_40 ka0 rfl rfl hbm ?_
          refine r_getiN hC 8 (ci := 9) rfl u9_in (by decide) nF_8 dX10_dead_43 khm rfl rfl (fun x20_ e20 => ?_)
          have r20 := hs16.rng khm rfl e20
          have f20 : x20_.toInt = (I16 hm 8).toInt := by rw [e20]
          have sc20 : x20_.toInt = D 0 8 := by rw [e20]; exact (mc.mv hs ka0 khm hF16 rfl).2.2.1.2.2.2.2.2.2.1
          refine r_icmp_ge hC (tgt := 100) dX10_dead_46 (by decide) (fun c21 => ?_) (fun c21 => ?_)
          · refine r_aload_n hC dX10_dead_100 0 rfl ?_
            refine r_iload_n hC dX10_dead_101 3 rfl ?_
            have lqd : x19_3.toInt = Dd D x1.toInt.toNat x2.toInt (D 0 8).toNat := by rw [show (D 0 8).toNat = x19_4.toInt.toNat by omega]; exact v19_2
            refine r_callV hC (As := [.int x19_3]) (rest := []) (ci := 10) (c_X10_done g (xL X) K len I16 J R hs16 a0 ka0 x19_3) mT_6_79 mT_1_10 mT_6_76 mT_6_78 mP_67 okX10_done ⟨by decide, by decide⟩ rfl (by show kO (K a0) = _; rw [ka0]; rfl) rfl rfl (Nat.le_of_ble_eq_true rfl) ⟨by decide, by decide⟩ dX10_dead_102 (aI1 (F := fun st M => P g X 5 105 [(0, .ref a0), (1, .int x1), (2, .int x2), (3, .int x19_3), (4, .int x19_4)] st _ _ M) (M := (K, len, I16, J, R)) fun x22_ I22 h22 => ?_)
            obtain ⟨hs22, hf22, k22_0, k22_1, k22_2⟩ := h22
            show P g X 5 105 [(0, .ref a0), (1, .int x1), (2, .int x2), (3, .int x19_3), (4, .int x19_4)] [.int x22_] _ _ (K, len, I22, J, R)
            have hF22 : Fr K [(11, 0), (11, 1), (11, 2), (11, 19), (85, 999), (86, 999), (87, 999), (88, 999)] I I22 := hF16.trans hf22 rfl rfl
            have mo22 := k16_0.mv ka0 klr ksr kir kwr hf22 rfl
            exact r_iret hC hQ hlk hr rfl (by decide) (by decide) dX10_dead_105 ⟨_, _, rfl, rfl, ⟨hs22, hF22, (by first | exact Or.inl ⟨hz, by omega⟩ | exact Or.inr ⟨hm, hbm, Or.inr ⟨by omega, by omega⟩⟩ | exact Or.inr ⟨hm, hbm, Or.inl ⟨by omega, (congrArg Int32.toInt k22_0).trans lqd⟩⟩), (by omega)⟩⟩
          · refine r_iload_n hC dX10_dead_49 3 rfl ?_
            refine r_aload_n hC dX10_dead_50 0 rfl ?_
            refine r_iload hC dX10_dead_51 4 rfl ?_
            refine r_callV hC (As := [.int x19_4]) (rest := [.int x19_3]) (ci := 10) (f_X10_isStruck g (xL X) K len I16 J R hs16 a0 ka0 x19_4 hm hbm khm lr hlr klr llr sr hsr ksr lsr ir hir kir lir wr hwr kwr lwr D E (mc.mv hs ka0 khm hF16 rfl) x1.toInt.toNat (show ((x1.toInt.toNat : Nat) : Int) < D 0 7 by omega) k16_0 (by omega) (by omega)) mT_7_55 mT_1_10 mT_7_52 mT_7_54 mP_95 okX10_isStruck ⟨by decide, by decide⟩ rfl (by show kO (K a0) = _; rw [ka0]; rfl) rfl rfl (Nat.le_of_ble_eq_true rfl) ⟨by decide, by decide⟩ dX10_dead_53 (aI0 (F := fun st M => P g X 5 56 [(0, .ref a0), (1, .int x1), (2, .int x2), (3, .int x19_3), (4, .int x19_4)] st _ _ M) (M := (K, len, I16, J, R)) fun x23_ h23 => ?_)
            have k23_0 := h23
            clear h23
            show P g X 5 56 [(0, .ref a0), (1, .int x1), (2, .int x2), (3, .int x19_3), (4, .int x19_4)] [.int x23_, .int x19_3] _ _ (K, len, I16, J, R)
            refine r_if_eq hC (tgt := 91) dX10_dead_56 (by decide) (fun c24 => ?_) (fun c24 => ?_)
            · refine r_iconst hC (v := (0)) dX10_dead_91 (by decide) (by decide) (fun x25_ e25 t25 => ?_)
              refine r_iadd hC dX10_dead_92 (fun x26_ e26 => ?_)
              try have t26 : x26_.toInt = x19_3.toInt + x25_.toInt := by rw [e26]; exact ti_add (by omega) (by omega)
              refine r_istore_n hC (lv' := [(3, .int x26_), (0, .ref a0), (1, .int x1), (2, .int x2), (4, .int x19_4)]) dX10_dead_93 (by decide) rfl ?_
              obtain ⟨x27_, e27⟩ : ∃ z : Int32, z = x19_4 + Int32.ofInt (1) := ⟨_, rfl⟩
              refine r_iinc hC (j := 4) (v := x27_) (lv' := [(4, .int x27_), (3, .int x26_), (0, .ref a0), (1, .int x1), (2, .int x2)]) dX10_dead_94 rfl (by rw [e27]) (by decide) rfl ?_
              try have t27 : x27_.toInt = x19_4.toInt + (1) := by rw [e27]; exact (ti_add (b := Int32.ofInt (1)) (by show _ ≤ _ + (1 : Int); omega) (by show _ + (1 : Int) ≤ _; omega))
              refine r_goto hC (tgt := 37) dX10_dead_97 (by decide) ?_
              refine r_sub [2, 3, 4, 1, 0] rfl ?_
              exact ih19 ((4 - x27_.toInt).toNat) (by omega) x27_ x26_ (by omega) (by omega) (by first | (rw [show x27_.toInt.toNat = 0 by omega]; show _ = (0 : Int); omega) | (rw [show x27_.toInt.toNat = x19_4.toInt.toNat + 1 by omega, Dd_t (by omega)]; omega) | (rw [show x27_.toInt.toNat = x19_4.toInt.toNat + 1 by omega, Dd_n (by omega)]; omega)) (by omega) rfl
            · refine r_iload_n hC dX10_dead_59 2 rfl ?_
              refine r_aload_n hC dX10_dead_60 0 rfl ?_
              refine r_getr hC 3 (ci := 10) rfl u10_in (by decide) mT_4_238 dX10_dead_61 ka0 rfl rfl hbm ?_
              obtain ⟨a28_, hb28, hk28, hn28⟩ := hs16.row khm 22 79 4 (by decide) (by decide)
              refine r_getrN hC 22 (ci := 9) rfl u9_in (by decide) nF_22 dX10_dead_64 khm rfl rfl hb28 ?_
              refine r_iload hC dX10_dead_67 4 rfl ?_
              refine x_iaload hC hk28 hn28 (by decide) rfl rfl dX10_dead_69 (by omega) (by omega) (fun x29_ e29 => ?_)
              have q29 : x29_.toInt = D 12 x19_4.toInt.toNat := by rw [e29, clx (i := x19_4) rfl (by omega)]; exact (mc.mv hs ka0 khm hF16 rfl).hrw (r := 12) (by decide) (by decide) hb28 (by rw [cnt_12]; omega) (fun h9 => absurd h9 (by decide))
              have jb29 : 0 ≤ D 12 x19_4.toInt.toNat ∧ D 12 x19_4.toInt.toNat ≤ 30 := hJ.2.2.2.1 12 _ (by decide) (by decide) (by decide)
              refine r_iadd hC dX10_dead_70 (fun x30_ e30 => ?_)
              try have t30 : x30_.toInt = x2.toInt + x29_.toInt := by rw [e30]; exact ti_add (by omega) (by omega)
              refine r_aload_n hC dX10_dead_71 0 rfl ?_
              refine r_geti hC 19 (ci := 10) rfl u10_in (by decide) mT_5_14 dX10_dead_72 ka0 rfl rfl (fun x31_ e31 => ?_)
              have r31 := hs16.rng ka0 rfl e31
              have q31 := hs16.gone ka0 e31
              have f31 : x31_.toInt = (I16 a0 19).toInt := by rw [e31]
              have q31g : x31_.toInt = GV D x1.toInt.toNat (Ad D x1.toInt.toNat (LP1 D) 1) 60 := by rw [e31]; exact k16_0.2.2
              refine r_icmp_le hC (tgt := 91) dX10_dead_75 (by decide) (fun c32 => ?_) (fun c32 => ?_)
              · refine r_iconst hC (v := (0)) dX10_dead_91 (by decide) (by decide) (fun x33_ e33 t33 => ?_)
                refine r_iadd hC dX10_dead_92 (fun x34_ e34 => ?_)
                try have t34 : x34_.toInt = x19_3.toInt + x33_.toInt := by rw [e34]; exact ti_add (by omega) (by omega)
                refine r_istore_n hC (lv' := [(3, .int x34_), (0, .ref a0), (1, .int x1), (2, .int x2), (4, .int x19_4)]) dX10_dead_93 (by decide) rfl ?_
                obtain ⟨x35_, e35⟩ : ∃ z : Int32, z = x19_4 + Int32.ofInt (1) := ⟨_, rfl⟩
                refine r_iinc hC (j := 4) (v := x35_) (lv' := [(4, .int x35_), (3, .int x34_), (0, .ref a0), (1, .int x1), (2, .int x2)]) dX10_dead_94 rfl (by rw [e35]) (by decide) rfl ?_
                try have t35 : x35_.toInt = x19_4.toInt + (1) := by rw [e35]; exact (ti_add (b := Int32.ofInt (1)) (by show _ ≤ _ + (1 : Int); omega) (by show _ + (1 : Int) ≤ _; omega))
                refine r_goto hC (tgt := 37) dX10_dead_97 (by decide) ?_
                refine r_sub [2, 3, 4, 1, 0] rfl ?_
                exact ih19 ((4 - x35_.toInt).toNat) (by omega) x35_ x34_ (by omega) (by omega) (by first | (rw [show x35_.toInt.toNat = 0 by omega]; show _ = (0 : Int); omega) | (rw [show x35_.toInt.toNat = x19_4.toInt.toNat + 1 by omega, Dd_t (by omega)]; omega) | (rw [show x35_.toInt.toNat = x19_4.toInt.toNat + 1 by omega, Dd_n (by omega)]; omega)) (by omega) rfl
              · refine r_aload_n hC dX10_dead_78 0 rfl ?_
                refine r_getr hC 3 (ci := 10) rfl u10_in (by decide) mT_4_238 dX10_dead_79 ka0 rfl rfl hbm ?_
                obtain ⟨a36_, hb36, hk36, hn36⟩ := hs16.row khm 21 78 4 (by decide) (by decide)
                refine r_getrN hC 21 (ci := 9) rfl u9_in (by decide) nF_21 dX10_dead_82 khm rfl rfl hb36 ?_
                refine r_iload hC dX10_dead_85 4 rfl ?_
                refine x_iaload hC hk36 hn36 (by decide) rfl rfl dX10_dead_87 (by omega) (by omega) (fun x37_ e37 => ?_)
                have q37 : x37_.toInt = D 11 x19_4.toInt.toNat := by rw [e37, clx (i := x19_4) rfl (by omega)]; exact (mc.mv hs ka0 khm hF16 rfl).hrw (r := 11) (by decide) (by decide) hb36 (by rw [cnt_11]; omega) (fun h9 => absurd h9 (by decide))
                have jb37 : 0 ≤ D 11 x19_4.toInt.toNat ∧ D 11 x19_4.toInt.toNat ≤ 999 := hJ.2.2.2.1 11 _ (by decide) (by decide) (by decide)
                refine r_goto hC (tgt := 92) dX10_dead_88 (by decide) ?_
                refine r_iadd hC dX10_dead_92 (fun x38_ e38 => ?_)
                try have t38 : x38_.toInt = x19_3.toInt + x37_.toInt := by rw [e38]; exact ti_add (by omega) (by omega)
                refine r_istore_n hC (lv' := [(3, .int x38_), (0, .ref a0), (1, .int x1), (2, .int x2), (4, .int x19_4)]) dX10_dead_93 (by decide) rfl ?_
                obtain ⟨x39_, e39⟩ : ∃ z : Int32, z = x19_4 + Int32.ofInt (1) := ⟨_, rfl⟩
                refine r_iinc hC (j := 4) (v := x39_) (lv' := [(4, .int x39_), (3, .int x38_), (0, .ref a0), (1, .int x1), (2, .int x2)]) dX10_dead_94 rfl (by rw [e39]) (by decide) rfl ?_
                try have t39 : x39_.toInt = x19_4.toInt + (1) := by rw [e39]; exact (ti_add (b := Int32.ofInt (1)) (by show _ ≤ _ + (1 : Int); omega) (by show _ + (1 : Int) ≤ _; omega))
                refine r_goto hC (tgt := 37) dX10_dead_97 (by decide) ?_
                refine r_sub [2, 3, 4, 1, 0] rfl ?_
                exact ih19 ((4 - x39_.toInt).toNat) (by omega) x39_ x38_ (by omega) (by omega) (by first | (rw [show x39_.toInt.toNat = 0 by omega]; show _ = (0 : Int); omega) | (rw [show x39_.toInt.toNat = x19_4.toInt.toNat + 1 by omega, Dd_t (by omega)]; omega) | (rw [show x39_.toInt.toNat = x19_4.toInt.toNat + 1 by omega, Dd_n (by omega)]; omega)) (by omega) rfl
        refine r_sub [2, 3, 4, 1, 0] rfl ?_
        exact LP19 _ x18_ x17_ (by omega) (by omega) (by first | (rw [show x18_.toInt.toNat = 0 by omega]; show _ = (0 : Int); omega) | (rw [show x18_.toInt.toNat = x19_4.toInt.toNat + 1 by omega, Dd_t (by omega)]; omega) | (rw [show x18_.toInt.toNat = x19_4.toInt.toNat + 1 by omega, Dd_n (by omega)]; omega)) (by omega) rfl
      · refine r_aload_n hC dX10_dead_21 0 rfl ?_
        refine r_iconst hC (v := (1)) dX10_dead_22 (by decide) (by decide) (fun x40_ e40 t40 => ?_)
        refine r_callV hC (As := [.int x40_]) (rest := []) (ci := 10) (c_X10_refused g (xL X) K len I8 J R hs8 a0 ka0 x40_) mT_5_85 mT_1_10 mT_5_82 mT_5_84 mP_48 okX10_refused ⟨by decide, by decide⟩ rfl (by show kO (K a0) = _; rw [ka0]; rfl) rfl rfl (Nat.le_of_ble_eq_true rfl) ⟨by decide, by decide⟩ dX10_dead_23 (aI1 (F := fun st M => P g X 5 26 [(0, .ref a0), (1, .int x1), (2, .int x2)] st _ _ M) (M := (K, len, I8, J, R)) fun x41_ I41 h41 => ?_)
        obtain ⟨hs41, hf41, k41_0, k41_1, k41_2⟩ := h41
        show P g X 5 26 [(0, .ref a0), (1, .int x1), (2, .int x2)] [.int x41_] _ _ (K, len, I41, J, R)
        have hF41 : Fr K [(11, 0), (11, 1), (11, 2), (11, 19), (85, 999), (86, 999), (87, 999), (88, 999)] I I41 := hF8.trans hf41 rfl rfl
        exact r_iret hC hQ hlk hr rfl (by decide) (by decide) dX10_dead_26 ⟨_, _, rfl, rfl, ⟨hs41, hF41, (by first | exact Or.inl ⟨hz, by omega⟩ | exact Or.inr ⟨hm, hbm, Or.inr ⟨by omega, by omega⟩⟩ | exact Or.inr ⟨hm, hbm, Or.inl ⟨by omega, (congrArg Int32.toInt k41_0).trans NOlq⟩⟩), (by omega)⟩⟩
