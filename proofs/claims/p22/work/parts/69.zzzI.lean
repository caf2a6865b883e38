def Ng (day a b : Int) : Int := if 0 < a ∧ a < b then day + b / (b - a) else -2
def Sb (most best v : Int) : Int := if v ≠ -2 ∧ (best = -2 ∨ (most ≠ 0 ∧ best < v) ∨ (most = 0 ∧ v < best)) then v else best
def Sr (day a b off most i best : Int) : Nat → Int
  | 0 => best
  | j + 1 => Sb most (Sr day a b off most i best j) (Ng day (a + i * off) (b + ((j : Int) - 1) * off))
def So (day a b off most : Int) : Nat → Int
  | 0 => -2
  | i + 1 => Sr day a b off most ((i : Int) - 1) (So day a b off most i) 3
section ANS1
variable {D : DD} {s n : Nat} {day a b off most i j best v : Int}
theorem Nb_t (h : 0 < a ∧ a < b) : Ng day a b = day + b / (b - a) := by unfold Ng; rw [if_pos h]
theorem Nb_n (h : ¬ (0 < a ∧ a < b)) : Ng day a b = -2 := by unfold Ng; rw [if_neg h]
theorem dv_b {x y : Int} (h : 0 ≤ x) (hy : 0 < y) : 0 ≤ x / y ∧ x / y ≤ x := ⟨Int.ediv_nonneg h (by omega), Int.ediv_le_self _ h⟩
theorem tmul3 {x y z : Int32} (e : z = x * y) (hx : -1 ≤ x.toInt ∧ x.toInt ≤ 1) (hy : 0 ≤ y.toInt ∧ y.toInt ≤ 20) : z.toInt = x.toInt * y.toInt ∧ -20 ≤ x.toInt * y.toInt ∧ x.toInt * y.toInt ≤ 20 := by
  have h : -20 ≤ x.toInt * y.toInt ∧ x.toInt * y.toInt ≤ 20 := by
    have : x.toInt = -1 ∨ x.toInt = 0 ∨ x.toInt = 1 := by omega
    rcases this with z | z | z <;> rw [z] <;> omega
  exact ⟨by rw [e]; exact ti_mul rfl rfl (by omega) (by omega), h⟩
theorem Sr_s (hj : (n : Int) - 1 = j) (hv : v = Ng day (a + i * off) (b + j * off)) {w : Int} (hb : best = Sr day a b off most i w n) : Sr day a b off most i w (n + 1) = Sb most best v := by rw [hb, hv, ← hj]; rfl
theorem Sb_t (h : v ≠ -2 ∧ (best = -2 ∨ (most ≠ 0 ∧ best < v) ∨ (most = 0 ∧ v < best))) : Sb most best v = v := by unfold Sb; rw [if_pos h]
theorem Sb_n (h : ¬ (v ≠ -2 ∧ (best = -2 ∨ (most ≠ 0 ∧ best < v) ∨ (most = 0 ∧ v < best)))) : Sb most best v = best := by unfold Sb; rw [if_neg h]
theorem So_s (hi : (n : Int) - 1 = i) : So day a b off most (n + 1) = Sr day a b off most i (So day a b off most n) 3 := by rw [← hi]; rfl
end ANS1
set_option maxHeartbeats 4000000 in
set_option maxRecDepth 100000 in
theorem f_X8_noughtBy (g : GG) (l : Launch) (K len : Nat → Nat) (I : Nat → Nat → Int32) (J : Nat → Nat → Int64) (R : Nat → Nat → Option Nat) (hs : Sf K len I R) (x0 : Int32) (x1 : Int32) (x2 : Int32) (p0 : 0 ≤ x0.toInt ∧ x0.toInt ≤ 59) (p1 : -40 ≤ x1.toInt ∧ x1.toInt ≤ 31000) (p2 : -40 ≤ x2.toInt ∧ x2.toInt ≤ 31000) : Ct g l yX8_noughtBy cX8_noughtBy 3 (Option.some Jvm.ClassFile.FieldType.int) rmX8_noughtBy [.int x0, .int x1, .int x2] (K, len, I, J, R) (pI0 (K, len, I, J, R) (fun r => (r.toInt = Ng x0.toInt x1.toInt x2.toInt) ∧ (-2 ≤ r.toInt ∧ r.toInt ≤ 32000))) := by
  refine Ct_intro (by decide +kernel) (Nat.le_of_ble_eq_true rfl) (fun X hC hL hKK hNm hr hlk hQ => ?_)
  subst hL
  have hC : Cx g X cX8_noughtBy "HillTap" 3 rmX8_noughtBy := hC
  show P g X 3 0 [(0, .int x0), (1, .int x1), (2, .int x2)] [] 0 0 (K, len, I, J, R)
  have hF : Fr K [] I I := Fr.refl
  have b_x0 := ti_rng x0
  have b_x1 := ti_rng x1
  have b_x2 := ti_rng x2
  refine r_iload_n hC dX8_noughtBy_0 1 rfl ?_
  refine r_if_le hC (tgt := 9) dX8_noughtBy_1 (by decide) (fun c1 => ?_) (fun c1 => ?_)
  · refine r_bipush hC (v := (-2)) dX8_noughtBy_9 (by decide) (by decide) (fun x2_ e2 t2 => ?_)
    exact r_iret hC hQ hlk hr rfl (by decide) (by decide) dX8_noughtBy_11 ⟨_, rfl, rfl, ⟨(by first | (rw [Nb_n (by omega)]; omega) | (rw [Nb_t (by omega), show x2.toInt - x1.toInt = NOnd.toInt by omega, ← tdNOnq]; omega)), (by omega)⟩⟩
  · refine r_iload_n hC dX8_noughtBy_4 2 rfl ?_
    refine r_iload_n hC dX8_noughtBy_5 1 rfl ?_
    refine r_icmp_gt hC (tgt := 12) dX8_noughtBy_6 (by decide) (fun c3 => ?_) (fun c3 => ?_)
    · refine r_iload_n hC dX8_noughtBy_12 0 rfl ?_
      refine r_iload_n hC dX8_noughtBy_13 2 rfl ?_
      refine r_iload_n hC dX8_noughtBy_14 2 rfl ?_
      refine r_iload_n hC dX8_noughtBy_15 1 rfl ?_
      refine r_isub hC dX8_noughtBy_16 (fun x4_ e4 => ?_)
      try have t4 : x4_.toInt = x2.toInt - x1.toInt := by rw [e4]; exact ti_sub (by omega) (by omega)
      refine r_idiv hC dX8_noughtBy_17 (ne_0 (by omega)) (fun x5_ e5 => ?_)
      have td5 : x5_.toInt = x2.toInt / x4_.toInt := by rw [e5]; exact ti_div (by omega) (by omega)
      have qb : 0 ≤ x5_.toInt ∧ x5_.toInt ≤ x2.toInt := by rw [td5]; exact dv_b (by omega) (by omega)
      refine r_iadd hC dX8_noughtBy_18 (fun x6_ e6 => ?_)
      try have t6 : x6_.toInt = x0.toInt + x5_.toInt := by rw [e6]; exact ti_add (by omega) (by omega)
      exact r_iret hC hQ hlk hr rfl (by decide) (by decide) dX8_noughtBy_19 ⟨_, rfl, rfl, ⟨(by first | (rw [Nb_n (by omega)]; omega) | (rw [Nb_t (by omega), show x2.toInt - x1.toInt = x4_.toInt by omega, ← td5]; omega)), (by omega)⟩⟩
    · refine r_bipush hC (v := (-2)) dX8_noughtBy_9 (by decide) (by decide) (fun x7_ e7 t7 => ?_)
      exact r_iret hC hQ hlk hr rfl (by decide) (by decide) dX8_noughtBy_11 ⟨_, rfl, rfl, ⟨(by first | (rw [Nb_n (by omega)]; omega) | (rw [Nb_t (by omega), show x2.toInt - x1.toInt = NOnd.toInt by omega, ← tdNOnq]; omega)), (by omega)⟩⟩
set_option maxHeartbeats 4000000 in
set_option maxRecDepth 100000 in
theorem f_X10_noughtBy (g : GG) (l : Launch) (K len : Nat → Nat) (I : Nat → Nat → Int32) (J : Nat → Nat → Int64) (R : Nat → Nat → Option Nat) (hs : Sf K len I R) (x0 : Int32) (x1 : Int32) (x2 : Int32) (p0 : 0 ≤ x0.toInt ∧ x0.toInt ≤ 59) (p1 : -40 ≤ x1.toInt ∧ x1.toInt ≤ 31000) (p2 : -40 ≤ x2.toInt ∧ x2.toInt ≤ 31000) : Ct g l yX10_noughtBy cX10_noughtBy 3 (Option.some Jvm.ClassFile.FieldType.int) rmX10_noughtBy [.int x0, .int x1, .int x2] (K, len, I, J, R) (pI0 (K, len, I, J, R) (fun r => (r.toInt = Ng x0.toInt x1.toInt x2.toInt) ∧ (-2 ≤ r.toInt ∧ r.toInt ≤ 32000))) := by
  refine Ct_intro (by decide +kernel) (Nat.le_of_ble_eq_true rfl) (fun X hC hL hKK hNm hr hlk hQ => ?_)
  subst hL
  have hC : Cx g X cX10_noughtBy "HillTapModel" 3 rmX10_noughtBy := hC
  show P g X 3 0 [(0, .int x0), (1, .int x1), (2, .int x2)] [] 0 0 (K, len, I, J, R)
  have hF : Fr K [] I I := Fr.refl
  have b_x0 := ti_rng x0
  have b_x1 := ti_rng x1
  have b_x2 := ti_rng x2
  refine r_iload_n hC dX10_noughtBy_0 1 rfl ?_
  refine r_if_le hC (tgt := 19) dX10_noughtBy_1 (by decide) (fun c1 => ?_) (fun c1 => ?_)
  · refine r_bipush hC (v := (-2)) dX10_noughtBy_19 (by decide) (by decide) (fun x2_ e2 t2 => ?_)
    exact r_iret hC hQ hlk hr rfl (by decide) (by decide) dX10_noughtBy_21 ⟨_, rfl, rfl, ⟨(by first | (rw [Nb_n (by omega)]; omega) | (rw [Nb_t (by omega), show x2.toInt - x1.toInt = NOnd.toInt by omega, ← tdNOnq]; omega)), (by omega)⟩⟩
  · refine r_iload_n hC dX10_noughtBy_4 2 rfl ?_
    refine r_iload_n hC dX10_noughtBy_5 1 rfl ?_
    refine r_icmp_le hC (tgt := 19) dX10_noughtBy_6 (by decide) (fun c3 => ?_) (fun c3 => ?_)
    · refine r_bipush hC (v := (-2)) dX10_noughtBy_19 (by decide) (by decide) (fun x4_ e4 t4 => ?_)
      exact r_iret hC hQ hlk hr rfl (by decide) (by decide) dX10_noughtBy_21 ⟨_, rfl, rfl, ⟨(by first | (rw [Nb_n (by omega)]; omega) | (rw [Nb_t (by omega), show x2.toInt - x1.toInt = NOnd.toInt by omega, ← tdNOnq]; omega)), (by omega)⟩⟩
    · refine r_iload_n hC dX10_noughtBy_9 0 rfl ?_
      refine r_iload_n hC dX10_noughtBy_10 2 rfl ?_
      refine r_iload_n hC dX10_noughtBy_11 2 rfl ?_
      refine r_iload_n hC dX10_noughtBy_12 1 rfl ?_
      refine r_isub hC dX10_noughtBy_13 (fun x5_ e5 => ?_)
      try have t5 : x5_.toInt = x2.toInt - x1.toInt := by rw [e5]; exact ti_sub (by omega) (by omega)
      refine r_idiv hC dX10_noughtBy_14 (ne_0 (by omega)) (fun x6_ e6 => ?_)
      have td6 : x6_.toInt = x2.toInt / x5_.toInt := by rw [e6]; exact ti_div (by omega) (by omega)
      have qb : 0 ≤ x6_.toInt ∧ x6_.toInt ≤ x2.toInt := by rw [td6]; exact dv_b (by omega) (by omega)
      refine r_iadd hC dX10_noughtBy_15 (fun x7_ e7 => ?_)
      try have t7 : x7_.toInt = x0.toInt + x6_.toInt := by rw [e7]; exact ti_add (by omega) (by omega)
      refine r_goto hC (tgt := 21) dX10_noughtBy_16 (by decide) ?_
      exact r_iret hC hQ hlk hr rfl (by decide) (by decide) dX10_noughtBy_21 ⟨_, rfl, rfl, ⟨(by first | (rw [Nb_n (by omega)]; omega) | (rw [Nb_t (by omega), show x2.toInt - x1.toInt = x5_.toInt by omega, ← td6]; omega)), (by omega)⟩⟩
set_option maxHeartbeats 4000000 in
set_option maxRecDepth 100000 in
theorem f_X10_isLine (g : GG) (l : Launch) (K len : Nat → Nat) (I : Nat → Nat → Int32) (J : Nat → Nat → Int64) (R : Nat → Nat → Option Nat) (hs : Sf K len I R) (a0 : Nat) (ka0 : K a0 = 11) (x1 : Int32) (x2 : Int32) (x3 : Int32) (D : DD) (E : Nat → Nat → Int) (hmx : ∀ hm, R a0 3 = some hm → MC D E a0 hm I R) : Ct g l yX10_isLine cX10_isLine 4 (Option.some Jvm.ClassFile.FieldType.boolean) rmX10_isLine [.ref a0, .int x1, .int x2, .int x3] (K, len, I, J, R) (pI0 (K, len, I, J, R) (fun r => ((R a0 3 = none ∧ r.toInt = 0) ∨ (∃ hm, R a0 3 = some hm ∧ (r.toInt = 1 ∧ ((0 ≤ x1.toInt ∧ x1.toInt < D 0 7) ∧ (0 ≤ x2.toInt ∧ x2.toInt < D 0 5) ∧ 0 ≤ x3.toInt ∧ x3.toInt ≤ 58) ∨ r.toInt = 0 ∧ ¬ ((0 ≤ x1.toInt ∧ x1.toInt < D 0 7) ∧ (0 ≤ x2.toInt ∧ x2.toInt < D 0 5) ∧ 0 ≤ x3.toInt ∧ x3.toInt ≤ 58)))))) := by
  refine Ct_intro (by decide +kernel) (Nat.le_of_ble_eq_true rfl) (fun X hC hL hKK hNm hr hlk hQ => ?_)
  subst hL
  have hC : Cx g X cX10_isLine "HillTapModel" 4 rmX10_isLine := hC
  show P g X 4 0 [(0, .ref a0), (1, .int x1), (2, .int x2), (3, .int x3)] [] 0 0 (K, len, I, J, R)
  have hF : Fr K [] I I := Fr.refl
  have b_x1 := ti_rng x1
  have b_x2 := ti_rng x2
  have b_x3 := ti_rng x3
  rcases hs.2.1.2.2.1 a0 ka0 with hz | ⟨hm, hbm, khm⟩
  · refine r_aload_n hC dX10_isLine_0 0 rfl ?_
    refine r_iload_n hC dX10_isLine_1 1 rfl ?_
    refine r_callV hC (As := [.int x1]) (rest := []) (ci := 10) (f_X10_isStory g (xL X) K len I J R hs a0 ka0 x1) mT_6_119 mT_1_10 mT_6_116 mT_6_118 mP_71 okX10_isStory ⟨by decide, by decide⟩ rfl (by show kO (K a0) = _; rw [ka0]; rfl) rfl rfl (Nat.le_of_ble_eq_true rfl) ⟨by decide, by decide⟩ dX10_isLine_2 (aI0 (F := fun st M => P g X 4 5 [(0, .ref a0), (1, .int x1), (2, .int x2), (3, .int x3)] st _ _ M) (M := (K, len, I, J, R)) fun x1_ h1 => ?_)
    have k1_0 := h1
    clear h1
    show P g X 4 5 [(0, .ref a0), (1, .int x1), (2, .int x2), (3, .int x3)] [.int x1_] _ _ (K, len, I, J, R)
    have kq1 : x1_.toInt = 0 := by rcases k1_0 with ⟨z, y⟩ | ⟨hm9, z, y⟩; exact y; rw [hz] at z; cases z
    clear k1_0
    refine r_if_eq hC (tgt := 30) dX10_isLine_5 (by decide) (fun c2 => ?_) (fun c2 => ?_)
    rotate_left
    · exfalso; omega
    refine r_iconst hC (v := (0)) dX10_isLine_30 (by decide) (by decide) (fun x3_ e3 t3 => ?_)
    exact r_iret hC hQ hlk hr (by rw [e3]; rfl) (by decide) (by decide) dX10_isLine_31 ⟨_, rfl, rfl, (by first | exact Or.inl ⟨hz, by omega⟩ | exact Or.inr ⟨hm, hbm, by omega⟩)⟩
  · obtain ⟨S0, eS0⟩ : ∃ z : Int32, z = I hm 7 := ⟨_, rfl⟩
    have fS0 : S0.toInt = (I hm 7).toInt := by rw [eS0]
    have rS0 := hs.rng khm rfl eS0
    have mc := hmx hm hbm
    obtain ⟨⟨hJ, hR6, hD7⟩, rwm, ⟨hd1, hd2, hd3, hd4, hd5, hd7, hd8, hd9⟩, -⟩ := id mc
    have hcx := CM_x hs khm
    have b5 := hs.rng khm (k := 3) rfl (x := I hm 3) rfl
    have b7 := hs.rng khm (k := 7) rfl (x := I hm 7) rfl
    have b8 := hs.rng khm (k := 8) rfl (x := I hm 8) rfl
    have b20 := hs.rng ka0 (k := 20) rfl (x := I a0 20) rfl
    refine r_aload_n hC dX10_isLine_0 0 rfl ?_
    refine r_iload_n hC dX10_isLine_1 1 rfl ?_
    refine r_callV hC (As := [.int x1]) (rest := []) (ci := 10) (f_X10_isStory g (xL X) K len I J R hs a0 ka0 x1) mT_6_119 mT_1_10 mT_6_116 mT_6_118 mP_71 okX10_isStory ⟨by decide, by decide⟩ rfl (by show kO (K a0) = _; rw [ka0]; rfl) rfl rfl (Nat.le_of_ble_eq_true rfl) ⟨by decide, by decide⟩ dX10_isLine_2 (aI0 (F := fun st M => P g X 4 5 [(0, .ref a0), (1, .int x1), (2, .int x2), (3, .int x3)] st _ _ M) (M := (K, len, I, J, R)) fun x4_ h4 => ?_)
    have k4_0 := h4
    clear h4
    show P g X 4 5 [(0, .ref a0), (1, .int x1), (2, .int x2), (3, .int x3)] [.int x4_] _ _ (K, len, I, J, R)
    have kq4 : x4_.toInt = 1 ∧ (0 ≤ x1.toInt ∧ x1.toInt < D 0 7) ∨ x4_.toInt = 0 ∧ ¬ (0 ≤ x1.toInt ∧ x1.toInt < D 0 7) := by rcases k4_0 with ⟨z, -⟩ | ⟨hm9, z, y⟩ <;> rw [hbm] at z <;> cases z; rw [show (I hm 7).toInt = _ from mc.2.2.1.2.2.2.2.2.1] at y; exact y
    clear k4_0
    refine r_if_eq hC (tgt := 30) dX10_isLine_5 (by decide) (fun c5 => ?_) (fun c5 => ?_)
    · refine r_iconst hC (v := (0)) dX10_isLine_30 (by decide) (by decide) (fun x6_ e6 t6 => ?_)
      exact r_iret hC hQ hlk hr (by rw [e6]; rfl) (by decide) (by decide) dX10_isLine_31 ⟨_, rfl, rfl, (by first | exact Or.inl ⟨hz, by omega⟩ | exact Or.inr ⟨hm, hbm, by omega⟩)⟩
    · refine r_aload_n hC dX10_isLine_8 0 rfl ?_
      refine r_iload_n hC dX10_isLine_9 2 rfl ?_
      refine r_callV hC (As := [.int x2]) (rest := []) (ci := 10) (f_X10_isPeg g (xL X) K len I J R hs a0 ka0 x2) mT_6_123 mT_1_10 mT_6_120 mT_6_122 mP_72 okX10_isPeg ⟨by decide, by decide⟩ rfl (by show kO (K a0) = _; rw [ka0]; rfl) rfl rfl (Nat.le_of_ble_eq_true rfl) ⟨by decide, by decide⟩ dX10_isLine_10 (aI0 (F := fun st M => P g X 4 13 [(0, .ref a0), (1, .int x1), (2, .int x2), (3, .int x3)] st _ _ M) (M := (K, len, I, J, R)) fun x7_ h7 => ?_)
      have k7_0 := h7
      clear h7
      show P g X 4 13 [(0, .ref a0), (1, .int x1), (2, .int x2), (3, .int x3)] [.int x7_] _ _ (K, len, I, J, R)
      have kq7 : x7_.toInt = 1 ∧ (0 ≤ x2.toInt ∧ x2.toInt < D 0 5) ∨ x7_.toInt = 0 ∧ ¬ (0 ≤ x2.toInt ∧ x2.toInt < D 0 5) := by rcases k7_0 with ⟨z, -⟩ | ⟨hm9, z, y⟩ <;> rw [hbm] at z <;> cases z; rw [show (I hm 3).toInt = _ from mc.2.2.1.2.2.2.2.1] at y; exact y
      clear k7_0
      refine r_if_eq hC (tgt := 30) dX10_isLine_13 (by decide) (fun c8 => ?_) (fun c8 => ?_)
      · refine r_iconst hC (v := (0)) dX10_isLine_30 (by decide) (by decide) (fun x9_ e9 t9 => ?_)
        exact r_iret hC hQ hlk hr (by rw [e9]; rfl) (by decide) (by decide) dX10_isLine_31 ⟨_, rfl, rfl, (by first | exact Or.inl ⟨hz, by omega⟩ | exact Or.inr ⟨hm, hbm, by omega⟩)⟩
      · refine r_iload_n hC dX10_isLine_16 3 rfl ?_
        refine r_if_lt hC (tgt := 30) dX10_isLine_17 (by decide) (fun c10 => ?_) (fun c10 => ?_)
        · refine r_iconst hC (v := (0)) dX10_isLine_30 (by decide) (by decide) (fun x11_ e11 t11 => ?_)
          exact r_iret hC hQ hlk hr (by rw [e11]; rfl) (by decide) (by decide) dX10_isLine_31 ⟨_, rfl, rfl, (by first | exact Or.inl ⟨hz, by omega⟩ | exact Or.inr ⟨hm, hbm, by omega⟩)⟩
        · refine r_iload_n hC dX10_isLine_20 3 rfl ?_
          refine r_bipush hC (v := (59)) dX10_isLine_21 (by decide) (by decide) (fun x12_ e12 t12 => ?_)
          refine r_icmp_ge hC (tgt := 30) dX10_isLine_23 (by decide) (fun c13 => ?_) (fun c13 => ?_)
          · refine r_iconst hC (v := (0)) dX10_isLine_30 (by decide) (by decide) (fun x14_ e14 t14 => ?_)
            exact r_iret hC hQ hlk hr (by rw [e14]; rfl) (by decide) (by decide) dX10_isLine_31 ⟨_, rfl, rfl, (by first | exact Or.inl ⟨hz, by omega⟩ | exact Or.inr ⟨hm, hbm, by omega⟩)⟩
          · refine r_iconst hC (v := (1)) dX10_isLine_26 (by decide) (by decide) (fun x15_ e15 t15 => ?_)
            refine r_goto hC (tgt := 31) dX10_isLine_27 (by decide) ?_
            exact r_iret hC hQ hlk hr (by rw [e15]; rfl) (by decide) (by decide) dX10_isLine_31 ⟨_, rfl, rfl, (by first | exact Or.inl ⟨hz, by omega⟩ | exact Or.inr ⟨hm, hbm, by omega⟩)⟩
