def Lv (D : DD) (d : Int) : Int := if 0 ≤ d then LP1 D d.toNat else D 0 1
def Lc (D : DD) : Nat → Int
  | 0 => 0
  | d + 1 => Lc D d + (if Lv D (d : Int) < Lv D ((d : Int) - 1) ∧ ((d : Int) = 0 ∨ Lv D ((d : Int) - 2) ≤ Lv D ((d : Int) - 1)) then 1 else 0)
section ANS2
variable {D : DD} {s n k m : Nat} {i v : Int} {f : Nat → Int}
theorem Lv_p (h : 0 ≤ i) : Lv D i = LP1 D i.toNat := by unfold Lv; rw [if_pos h]
theorem Lv_n (h : i < 0) : Lv D i = D 0 1 := by unfold Lv; rw [if_neg (by omega)]
theorem Lc_t (hn : (n : Int) = i) (h : Lv D i < Lv D (i - 1) ∧ (i = 0 ∨ Lv D (i - 2) ≤ Lv D (i - 1))) : Lc D (n + 1) = Lc D n + 1 := by subst hn; simp only [Lc]; rw [if_pos h]
theorem Lc_n (hn : (n : Int) = i) (h : ¬ (Lv D i < Lv D (i - 1) ∧ (i = 0 ∨ Lv D (i - 2) ≤ Lv D (i - 1)))) : Lc D (n + 1) = Lc D n := by subst hn; simp only [Lc]; rw [if_neg h]; omega
end ANS2
set_option maxHeartbeats 4000000 in
set_option maxRecDepth 100000 in
theorem f_X8_falls (g : GG) (l : Launch) (K len : Nat → Nat) (I : Nat → Nat → Int32) (J : Nat → Nat → Int64) (R : Nat → Nat → Option Nat) (hs : Sf K len I R) (a0 : Nat) (ka0 : K a0 = 9) (x1 : Int32) (h : Nat) (hh : R a0 2 = some h) (kh : K h = 2) (lk : Nat) (hlk2 : R h 0 = some lk) (klk : K lk = 3) (rd : Nat) (hrd : R a0 9 = some rd) (krd : K rd = 4) (lv : Nat) (hlv : R a0 4 = some lv) (klv : K lv = 41) (llv : len lv = 60) (kn : Nat) (hkn : R a0 6 = some kn) (kkn : K kn = 43) (lkn : len kn = 6) (cr : Nat) (hcr : R a0 5 = some cr) (kcr1 : K cr = 44) (lcr : len cr = 6) (hu : UU K R) (D : DD) (E : Nat → Nat → Int) (hc : KC D E a0 h lk rd I R) (h17 : 1 ≤ D 0 7) : Ct g l yX8_falls cX8_falls 3 (Option.some Jvm.ClassFile.FieldType.boolean) rmX8_falls [.ref a0, .int x1] (K, len, I, J, R) (pI0 (K, len, I, J, R) (fun r => (r.toInt = 1 ∧ ((0 ≤ x1.toInt ∧ x1.toInt ≤ 59) ∧ Lv D x1.toInt < Lv D (x1.toInt - 1)) ∨ r.toInt = 0 ∧ ¬ ((0 ≤ x1.toInt ∧ x1.toInt ≤ 59) ∧ Lv D x1.toInt < Lv D (x1.toInt - 1))))) := by
  refine Ct_intro (by decide +kernel) (Nat.le_of_ble_eq_true rfl) (fun X hC hL hKK hNm hr hlk hQ => ?_)
  subst hL
  have hC : Cx g X cX8_falls "HillTap" 3 rmX8_falls := hC
  show P g X 3 0 [(0, .ref a0), (1, .int x1)] [] 0 0 (K, len, I, J, R)
  have hF : Fr K [] I I := Fr.refl
  have ka : KA a0 h lk rd K len R := ⟨⟨_, hs⟩, hu, ka0, kh, klk, krd⟩
  obtain ⟨sd1, sd2, sd3, sd4, sd5, sd7, sd8, sd9⟩ := id hc.2.1
  have d7b := hs.rng kh (k := 6) rfl (x := I h 6) rfl
  have d5b := hs.rng kh (k := 1) rfl (x := I h 1) rfl
  have d8b := hs.rng kh (k := 8) rfl (x := I h 8) rfl
  have b_x1 := ti_rng x1
  refine r_iload_n hC dX8_falls_0 1 rfl ?_
  refine r_callS hC (As := [.int x1]) (rest := []) (f_X8_isDay g (xL X) K len I J R hs x1) mT_3_134 mT_1_1 mT_3_132 mT_3_133 okX8_isDay ⟨by decide, by decide⟩ rfl rfl (Nat.le_of_ble_eq_true rfl) ⟨by decide, by decide⟩ dX8_falls_1 (aI0 (F := fun st M => P g X 3 4 [(0, .ref a0), (1, .int x1)] st _ _ M) (M := (K, len, I, J, R)) fun x1_ h1 => ?_)
  have k1_0 := h1
  clear h1
  show P g X 3 4 [(0, .ref a0), (1, .int x1)] [.int x1_] _ _ (K, len, I, J, R)
  rcases k1_0 with ⟨hr1, hw1⟩ | ⟨hr1, hw1⟩
  · refine r_if_ne hC (tgt := 9) dX8_falls_4 (by decide) (fun c2 => ?_) (fun c2 => ?_)
    rotate_left
    · exfalso; omega
    refine r_iload_n hC dX8_falls_9 1 rfl ?_
    refine r_if_le hC (tgt := 24) dX8_falls_10 (by decide) (fun c3 => ?_) (fun c3 => ?_)
    · refine r_aload_n hC dX8_falls_24 0 rfl ?_
      refine r_getr hC 2 (ci := 8) rfl u8_in (by decide) mT_2_80 dX8_falls_25 ka0 rfl rfl hh ?_
      refine r_getr hC 0 (ci := 1) rfl u1_in (by decide) mT_1_182 dX8_falls_28 kh rfl rfl hlk2 ?_
      refine r_geti hC 1 (ci := 2) rfl u2_in (by decide) mT_1_122 dX8_falls_31 klk rfl rfl (fun x4_ e4 => ?_)
      have f4 : x4_.toInt = (I lk 1).toInt := by rw [e4]
      have sc4 : x4_.toInt = D 0 1 := by rw [e4]; exact hc.2.1.1
      have qa : x4_.toInt = Lv D (x1.toInt - 1) := by first | (rw [Lv_p (by omega), show (x1.toInt - 1).toNat = x1.toInt.toNat by omega]; exact rfl) | (rw [Lv_n (by omega)]; omega)
      refine r_istore_n hC (lv' := [(2, .int x4_), (0, .ref a0), (1, .int x1)]) dX8_falls_34 (by decide) rfl ?_
      refine r_aload_n hC dX8_falls_35 1 rfl ?_
      refine r_getr hC 4 (ci := 8) rfl u8_in (by decide) mT_2_82 dX8_falls_36 ka0 rfl rfl hlv ?_
      refine r_iload_n hC dX8_falls_39 2 rfl ?_
      refine x_iaload hC klv llv (by decide) rfl rfl dX8_falls_40 (by omega) (by omega) (fun x5_ e5 => ?_)
      have ql5 := hc.lev (by omega) hlv x1.toInt.toNat (by omega)
      have q5 : x5_.toInt = LP1 D x1.toInt.toNat := by rw [e5, clx (i := x1) rfl (by omega)]; exact ql5.1
      have qd : x5_.toInt = Lv D x1.toInt := by rw [Lv_p (by omega)]; exact q5
      refine r_iload_n hC dX8_falls_41 0 rfl ?_
      refine r_icmp_ge hC (tgt := 49) dX8_falls_42 (by decide) (fun c6 => ?_) (fun c6 => ?_)
      · refine r_iconst hC (v := (0)) dX8_falls_49 (by decide) (by decide) (fun x7_ e7 t7 => ?_)
        exact r_iret hC hQ hlk hr (by rw [e7]; rfl) (by decide) (by decide) dX8_falls_50 ⟨_, rfl, rfl, (by omega)⟩
      · refine r_iconst hC (v := (1)) dX8_falls_45 (by decide) (by decide) (fun x8_ e8 t8 => ?_)
        refine r_goto hC (tgt := 50) dX8_falls_46 (by decide) ?_
        exact r_iret hC hQ hlk hr (by rw [e8]; rfl) (by decide) (by decide) dX8_falls_50 ⟨_, rfl, rfl, (by omega)⟩
    · refine r_aload_n hC dX8_falls_13 0 rfl ?_
      refine r_getr hC 4 (ci := 8) rfl u8_in (by decide) mT_2_82 dX8_falls_14 ka0 rfl rfl hlv ?_
      refine r_iload_n hC dX8_falls_17 1 rfl ?_
      refine r_iconst hC (v := (1)) dX8_falls_18 (by decide) (by decide) (fun x9_ e9 t9 => ?_)
      refine r_isub hC dX8_falls_19 (fun x10_ e10 => ?_)
      try have t10 : x10_.toInt = x1.toInt - x9_.toInt := by rw [e10]; exact ti_sub (by omega) (by omega)
      refine x_iaload hC klv llv (by decide) rfl rfl dX8_falls_20 (by omega) (by omega) (fun x11_ e11 => ?_)
      have ql11 := hc.lev (by omega) hlv x10_.toInt.toNat (by omega)
      have q11 : x11_.toInt = LP1 D x10_.toInt.toNat := by rw [e11, clx (i := x10_) rfl (by omega)]; exact ql11.1
      refine r_goto hC (tgt := 34) dX8_falls_21 (by decide) ?_
      have qa : x11_.toInt = Lv D (x1.toInt - 1) := by first | (rw [Lv_p (by omega), show (x1.toInt - 1).toNat = x10_.toInt.toNat by omega]; exact q11) | (rw [Lv_n (by omega)]; omega)
      refine r_istore_n hC (lv' := [(2, .int x11_), (0, .ref a0), (1, .int x1)]) dX8_falls_34 (by decide) rfl ?_
      refine r_aload_n hC dX8_falls_35 1 rfl ?_
      refine r_getr hC 4 (ci := 8) rfl u8_in (by decide) mT_2_82 dX8_falls_36 ka0 rfl rfl hlv ?_
      refine r_iload_n hC dX8_falls_39 2 rfl ?_
      refine x_iaload hC klv llv (by decide) rfl rfl dX8_falls_40 (by omega) (by omega) (fun x12_ e12 => ?_)
      have ql12 := hc.lev (by omega) hlv x1.toInt.toNat (by omega)
      have q12 : x12_.toInt = LP1 D x1.toInt.toNat := by rw [e12, clx (i := x1) rfl (by omega)]; exact ql12.1
      have qd : x12_.toInt = Lv D x1.toInt := by rw [Lv_p (by omega)]; exact q12
      refine r_iload_n hC dX8_falls_41 0 rfl ?_
      refine r_icmp_ge hC (tgt := 49) dX8_falls_42 (by decide) (fun c13 => ?_) (fun c13 => ?_)
      · refine r_iconst hC (v := (0)) dX8_falls_49 (by decide) (by decide) (fun x14_ e14 t14 => ?_)
        exact r_iret hC hQ hlk hr (by rw [e14]; rfl) (by decide) (by decide) dX8_falls_50 ⟨_, rfl, rfl, (by omega)⟩
      · refine r_iconst hC (v := (1)) dX8_falls_45 (by decide) (by decide) (fun x15_ e15 t15 => ?_)
        refine r_goto hC (tgt := 50) dX8_falls_46 (by decide) ?_
        exact r_iret hC hQ hlk hr (by rw [e15]; rfl) (by decide) (by decide) dX8_falls_50 ⟨_, rfl, rfl, (by omega)⟩
  · refine r_if_ne hC (tgt := 9) dX8_falls_4 (by decide) (fun c16 => ?_) (fun c16 => ?_)
    · exfalso; omega
    refine r_iconst hC (v := (0)) dX8_falls_7 (by decide) (by decide) (fun x17_ e17 t17 => ?_)
    exact r_iret hC hQ hlk hr (by rw [e17]; rfl) (by decide) (by decide) dX8_falls_8 ⟨_, rfl, rfl, (by omega)⟩
set_option maxHeartbeats 4000000 in
set_option maxRecDepth 100000 in
theorem f_X8_isLetting (g : GG) (l : Launch) (K len : Nat → Nat) (I : Nat → Nat → Int32) (J : Nat → Nat → Int64) (R : Nat → Nat → Option Nat) (hs : Sf K len I R) (a0 : Nat) (ka0 : K a0 = 9) (x1 : Int32) (h : Nat) (hh : R a0 2 = some h) (kh : K h = 2) (lk : Nat) (hlk2 : R h 0 = some lk) (klk : K lk = 3) (rd : Nat) (hrd : R a0 9 = some rd) (krd : K rd = 4) (lv : Nat) (hlv : R a0 4 = some lv) (klv : K lv = 41) (llv : len lv = 60) (kn : Nat) (hkn : R a0 6 = some kn) (kkn : K kn = 43) (lkn : len kn = 6) (cr : Nat) (hcr : R a0 5 = some cr) (kcr1 : K cr = 44) (lcr : len cr = 6) (hu : UU K R) (D : DD) (E : Nat → Nat → Int) (hc : KC D E a0 h lk rd I R) (h17 : 1 ≤ D 0 7) (p0 : 0 ≤ x1.toInt ∧ x1.toInt ≤ 59) : Ct g l yX8_isLetting cX8_isLetting 2 (Option.some Jvm.ClassFile.FieldType.boolean) rmX8_isLetting [.ref a0, .int x1] (K, len, I, J, R) (pI0 (K, len, I, J, R) (fun r => (r.toInt = 1 ∧ (Lv D x1.toInt < Lv D (x1.toInt - 1) ∧ (x1.toInt = 0 ∨ Lv D (x1.toInt - 2) ≤ Lv D (x1.toInt - 1))) ∨ r.toInt = 0 ∧ ¬ (Lv D x1.toInt < Lv D (x1.toInt - 1) ∧ (x1.toInt = 0 ∨ Lv D (x1.toInt - 2) ≤ Lv D (x1.toInt - 1)))))) := by
  refine Ct_intro (by decide +kernel) (Nat.le_of_ble_eq_true rfl) (fun X hC hL hKK hNm hr hlk hQ => ?_)
  subst hL
  have hC : Cx g X cX8_isLetting "HillTap" 2 rmX8_isLetting := hC
  show P g X 2 0 [(0, .ref a0), (1, .int x1)] [] 0 0 (K, len, I, J, R)
  have hF : Fr K [] I I := Fr.refl
  have ka : KA a0 h lk rd K len R := ⟨⟨_, hs⟩, hu, ka0, kh, klk, krd⟩
  obtain ⟨sd1, sd2, sd3, sd4, sd5, sd7, sd8, sd9⟩ := id hc.2.1
  have d7b := hs.rng kh (k := 6) rfl (x := I h 6) rfl
  have d5b := hs.rng kh (k := 1) rfl (x := I h 1) rfl
  have d8b := hs.rng kh (k := 8) rfl (x := I h 8) rfl
  have b_x1 := ti_rng x1
  refine r_aload_n hC dX8_isLetting_0 0 rfl ?_
  refine r_iload_n hC dX8_isLetting_1 1 rfl ?_
  refine r_callV hC (As := [.int x1]) (rest := []) (ci := 8) (f_X8_falls g (xL X) K len I J R hs a0 ka0 x1 h hh kh lk hlk2 klk rd hrd krd lv hlv klv llv kn hkn kkn lkn cr hcr kcr1 lcr hu D E hc (by omega)) mT_4_35 mT_1_1 mT_4_32 mT_4_34 mP_39 okX8_falls ⟨by decide, by decide⟩ rfl (by show kO (K a0) = _; rw [ka0]; rfl) rfl rfl (Nat.le_of_ble_eq_true rfl) ⟨by decide, by decide⟩ dX8_isLetting_2 (aI0 (F := fun st M => P g X 2 5 [(0, .ref a0), (1, .int x1)] st _ _ M) (M := (K, len, I, J, R)) fun x1_ h1 => ?_)
  have k1_0 := h1
  clear h1
  show P g X 2 5 [(0, .ref a0), (1, .int x1)] [.int x1_] _ _ (K, len, I, J, R)
  refine r_if_eq hC (tgt := 22) dX8_isLetting_5 (by decide) (fun c2 => ?_) (fun c2 => ?_)
  · refine r_iconst hC (v := (0)) dX8_isLetting_22 (by decide) (by decide) (fun x3_ e3 t3 => ?_)
    exact r_iret hC hQ hlk hr (by rw [e3]; rfl) (by decide) (by decide) dX8_isLetting_23 ⟨_, rfl, rfl, (by omega)⟩
  · refine r_aload_n hC dX8_isLetting_8 0 rfl ?_
    refine r_iload_n hC dX8_isLetting_9 1 rfl ?_
    refine r_iconst hC (v := (1)) dX8_isLetting_10 (by decide) (by decide) (fun x4_ e4 t4 => ?_)
    refine r_isub hC dX8_isLetting_11 (fun x5_ e5 => ?_)
    try have t5 : x5_.toInt = x1.toInt - x4_.toInt := by rw [e5]; exact ti_sub (by omega) (by omega)
    refine r_callV hC (As := [.int x5_]) (rest := []) (ci := 8) (f_X8_falls g (xL X) K len I J R hs a0 ka0 x5_ h hh kh lk hlk2 klk rd hrd krd lv hlv klv llv kn hkn kkn lkn cr hcr kcr1 lcr hu D E hc (by omega)) mT_4_35 mT_1_1 mT_4_32 mT_4_34 mP_39 okX8_falls ⟨by decide, by decide⟩ rfl (by show kO (K a0) = _; rw [ka0]; rfl) rfl rfl (Nat.le_of_ble_eq_true rfl) ⟨by decide, by decide⟩ dX8_isLetting_12 (aI0 (F := fun st M => P g X 2 15 [(0, .ref a0), (1, .int x1)] st _ _ M) (M := (K, len, I, J, R)) fun x6_ h6 => ?_)
    have k6_0 := h6
    clear h6
    show P g X 2 15 [(0, .ref a0), (1, .int x1)] [.int x6_] _ _ (K, len, I, J, R)
    have qf : x6_.toInt = 1 ∧ ((0 ≤ x1.toInt - 1 ∧ x1.toInt - 1 ≤ 59) ∧ Lv D (x1.toInt - 1) < Lv D (x1.toInt - 2)) ∨ x6_.toInt = 0 ∧ ¬ ((0 ≤ x1.toInt - 1 ∧ x1.toInt - 1 ≤ 59) ∧ Lv D (x1.toInt - 1) < Lv D (x1.toInt - 2)) := by have h9 := k6_0; rw [show x5_.toInt = x1.toInt - 1 by omega, show x1.toInt - 1 - 1 = x1.toInt - 2 by omega] at h9; exact h9
    clear k6_0
    refine r_if_ne hC (tgt := 22) dX8_isLetting_15 (by decide) (fun c7 => ?_) (fun c7 => ?_)
    · refine r_iconst hC (v := (0)) dX8_isLetting_22 (by decide) (by decide) (fun x8_ e8 t8 => ?_)
      exact r_iret hC hQ hlk hr (by rw [e8]; rfl) (by decide) (by decide) dX8_isLetting_23 ⟨_, rfl, rfl, (by omega)⟩
    · refine r_iconst hC (v := (1)) dX8_isLetting_18 (by decide) (by decide) (fun x9_ e9 t9 => ?_)
      refine r_goto hC (tgt := 23) dX8_isLetting_19 (by decide) ?_
      exact r_iret hC hQ hlk hr (by rw [e9]; rfl) (by decide) (by decide) dX8_isLetting_23 ⟨_, rfl, rfl, (by omega)⟩
set_option maxHeartbeats 4000000 in
set_option maxRecDepth 100000 in
theorem f_X8_countLettings (g : GG) (l : Launch) (K len : Nat → Nat) (I : Nat → Nat → Int32) (J : Nat → Nat → Int64) (R : Nat → Nat → Option Nat) (hs : Sf K len I R) (a0 : Nat) (ka0 : K a0 = 9) (h : Nat) (hh : R a0 2 = some h) (kh : K h = 2) (lk : Nat) (hlk2 : R h 0 = some lk) (klk : K lk = 3) (rd : Nat) (hrd : R a0 9 = some rd) (krd : K rd = 4) (lv : Nat) (hlv : R a0 4 = some lv) (klv : K lv = 41) (llv : len lv = 60) (kn : Nat) (hkn : R a0 6 = some kn) (kkn : K kn = 43) (lkn : len kn = 6) (cr : Nat) (hcr : R a0 5 = some cr) (kcr1 : K cr = 44) (lcr : len cr = 6) (hu : UU K R) (D : DD) (E : Nat → Nat → Int) (hc : KC D E a0 h lk rd I R) (h17 : 1 ≤ D 0 7) : Ct g l yX8_countLettings cX8_countLettings 3 (Option.some Jvm.ClassFile.FieldType.int) rmX8_countLettings [.ref a0] (K, len, I, J, R) (pI0 (K, len, I, J, R) (fun r => (r.toInt = Lc D 60) ∧ (0 ≤ r.toInt ∧ r.toInt ≤ 60))) := by
  refine Ct_intro (by decide +kernel) (Nat.le_of_ble_eq_true rfl) (fun X hC hL hKK hNm hr hlk hQ => ?_)
  subst hL
  have hC : Cx g X cX8_countLettings "HillTap" 3 rmX8_countLettings := hC
  show P g X 3 0 [(0, .ref a0)] [] 0 0 (K, len, I, J, R)
  have hF : Fr K [] I I := Fr.refl
  have ka : KA a0 h lk rd K len R := ⟨⟨_, hs⟩, hu, ka0, kh, klk, krd⟩
  obtain ⟨sd1, sd2, sd3, sd4, sd5, sd7, sd8, sd9⟩ := id hc.2.1
  have d7b := hs.rng kh (k := 6) rfl (x := I h 6) rfl
  have d5b := hs.rng kh (k := 1) rfl (x := I h 1) rfl
  have d8b := hs.rng kh (k := 8) rfl (x := I h 8) rfl
  refine r_iconst hC (v := (0)) dX8_countLettings_0 (by decide) (by decide) (fun x1_ e1 t1 => ?_)
  refine r_istore_n hC (lv' := [(1, .int x1_), (0, .ref a0)]) dX8_countLettings_1 (by decide) rfl ?_
  refine r_iconst hC (v := (0)) dX8_countLettings_2 (by decide) (by decide) (fun x2_ e2 t2 => ?_)
  refine r_istore_n hC (lv' := [(2, .int x2_), (1, .int x1_), (0, .ref a0)]) dX8_countLettings_3 (by decide) rfl ?_
  have LP3 : ∀ (mu : Nat) (x3_2 : Int32) (x3_1 : Int32) (v3_0 : 0 ≤ x3_2.toInt) (v3_1 : x3_2.toInt ≤ 60) (v3_2 : x3_1.toInt = Lc D x3_2.toInt.toNat) (v3_3 : 0 ≤ x3_1.toInt ∧ x3_1.toInt ≤ x3_2.toInt), (60 - x3_2.toInt).toNat = mu → P g X 3 4 [(0, .ref a0), (1, .int x3_1), (2, .int x3_2)] [] 0 0 (K, len, I, J, R) := by
    intro mu; induction mu using Nat.strongRecOn with | ind mu ih => ?_
    intro x3_2 x3_1 v3_0 v3_1 v3_2 v3_3 hmu
    have ih3 := ih
    clear ih
    have hmu3 := hmu
    clear hmu
    refine r_iload_n hC dX8_countLettings_4 2 rfl ?_
    refine r_bipush hC (v := (60)) dX8_countLettings_5 (by decide) (by decide) (fun x4_ e4 t4 => ?_)
    refine r_icmp_ge hC (tgt := 27) dX8_countLettings_7 (by decide) (fun c5 => ?_) (fun c5 => ?_)
    · refine r_iload_n hC dX8_countLettings_27 1 rfl ?_
      exact r_iret hC hQ hlk hr rfl (by decide) (by decide) dX8_countLettings_28 ⟨_, rfl, rfl, ⟨(by rw [show 60 = x3_2.toInt.toNat by omega]; exact v3_2), (by omega)⟩⟩
    · refine r_aload_n hC dX8_countLettings_10 0 rfl ?_
      refine r_iload_n hC dX8_countLettings_11 2 rfl ?_
      refine r_callV hC (As := [.int x3_2]) (rest := []) (ci := 8) (f_X8_isLetting g (xL X) K len I J R hs a0 ka0 x3_2 h hh kh lk hlk2 klk rd hrd krd lv hlv klv llv kn hkn kkn lkn cr hcr kcr1 lcr hu D E hc (by omega) (by omega)) mT_4_31 mT_1_1 mT_4_28 mT_4_30 mP_38 okX8_isLetting ⟨by decide, by decide⟩ rfl (by show kO (K a0) = _; rw [ka0]; rfl) rfl rfl (Nat.le_of_ble_eq_true rfl) ⟨by decide, by decide⟩ dX8_countLettings_12 (aI0 (F := fun st M => P g X 3 15 [(0, .ref a0), (1, .int x3_1), (2, .int x3_2)] st _ _ M) (M := (K, len, I, J, R)) fun x6_ h6 => ?_)
      have k6_0 := h6
      clear h6
      show P g X 3 15 [(0, .ref a0), (1, .int x3_1), (2, .int x3_2)] [.int x6_] _ _ (K, len, I, J, R)
      refine r_if_eq hC (tgt := 21) dX8_countLettings_15 (by decide) (fun c7 => ?_) (fun c7 => ?_)
      · obtain ⟨x8_, e8⟩ : ∃ z : Int32, z = x3_2 + Int32.ofInt (1) := ⟨_, rfl⟩
        refine r_iinc hC (j := 2) (v := x8_) (lv' := [(2, .int x8_), (0, .ref a0), (1, .int x3_1)]) dX8_countLettings_21 rfl (by rw [e8]) (by decide) rfl ?_
        try have t8 : x8_.toInt = x3_2.toInt + (1) := by rw [e8]; exact (ti_add (b := Int32.ofInt (1)) (by show _ ≤ _ + (1 : Int); omega) (by show _ + (1 : Int) ≤ _; omega))
        refine r_goto hC (tgt := 4) dX8_countLettings_24 (by decide) ?_
        refine r_sub [1, 2, 0] rfl ?_
        exact ih3 ((60 - x8_.toInt).toNat) (by omega) x8_ x3_1 (by omega) (by omega) (by first | (rw [show x8_.toInt.toNat = 0 by omega]; show _ = (0 : Int); omega) | (rw [show x8_.toInt.toNat = x3_2.toInt.toNat + 1 by omega, Lc_t (i := x3_2.toInt) (by omega) (by omega)]; omega) | (rw [show x8_.toInt.toNat = x3_2.toInt.toNat + 1 by omega, Lc_n (i := x3_2.toInt) (by omega) (by omega)]; omega)) (by omega) rfl
      · obtain ⟨x9_, e9⟩ : ∃ z : Int32, z = x3_1 + Int32.ofInt (1) := ⟨_, rfl⟩
        refine r_iinc hC (j := 1) (v := x9_) (lv' := [(1, .int x9_), (0, .ref a0), (2, .int x3_2)]) dX8_countLettings_18 rfl (by rw [e9]) (by decide) rfl ?_
        try have t9 : x9_.toInt = x3_1.toInt + (1) := by rw [e9]; exact (ti_add (b := Int32.ofInt (1)) (by show _ ≤ _ + (1 : Int); omega) (by show _ + (1 : Int) ≤ _; omega))
        obtain ⟨x10_, e10⟩ : ∃ z : Int32, z = x3_2 + Int32.ofInt (1) := ⟨_, rfl⟩
        refine r_iinc hC (j := 2) (v := x10_) (lv' := [(2, .int x10_), (1, .int x9_), (0, .ref a0)]) dX8_countLettings_21 rfl (by rw [e10]) (by decide) rfl ?_
        try have t10 : x10_.toInt = x3_2.toInt + (1) := by rw [e10]; exact (ti_add (b := Int32.ofInt (1)) (by show _ ≤ _ + (1 : Int); omega) (by show _ + (1 : Int) ≤ _; omega))
        refine r_goto hC (tgt := 4) dX8_countLettings_24 (by decide) ?_
        refine r_sub [2, 1, 0] rfl ?_
        exact ih3 ((60 - x10_.toInt).toNat) (by omega) x10_ x9_ (by omega) (by omega) (by first | (rw [show x10_.toInt.toNat = 0 by omega]; show _ = (0 : Int); omega) | (rw [show x10_.toInt.toNat = x3_2.toInt.toNat + 1 by omega, Lc_t (i := x3_2.toInt) (by omega) (by omega)]; omega) | (rw [show x10_.toInt.toNat = x3_2.toInt.toNat + 1 by omega, Lc_n (i := x3_2.toInt) (by omega) (by omega)]; omega)) (by omega) rfl
  refine r_sub [2, 1, 0] rfl ?_
  exact LP3 _ x2_ x1_ (by omega) (by omega) (by first | (rw [show x2_.toInt.toNat = 0 by omega]; show _ = (0 : Int); omega) | (rw [show x2_.toInt.toNat = x3_2.toInt.toNat + 1 by omega, Lc_t (i := x3_2.toInt) (by omega) (by omega)]; omega) | (rw [show x2_.toInt.toNat = x3_2.toInt.toNat + 1 by omega, Lc_n (i := x3_2.toInt) (by omega) (by omega)]; omega)) (by omega) rfl
set_option maxHeartbeats 4000000 in
set_option maxRecDepth 100000 in
theorem a_X8_lettings (g : GG) (l : Launch) (K len : Nat → Nat) (I : Nat → Nat → Int32) (J : Nat → Nat → Int64) (R : Nat → Nat → Option Nat) (hs : Sf K len I R) (a0 : Nat) (ka0 : K a0 = 9) (h : Nat) (hh : R a0 2 = some h) (kh : K h = 2) (lk : Nat) (hlk2 : R h 0 = some lk) (klk : K lk = 3) (rd : Nat) (hrd : R a0 9 = some rd) (krd : K rd = 4) (lv : Nat) (hlv : R a0 4 = some lv) (klv : K lv = 41) (llv : len lv = 60) (kn : Nat) (hkn : R a0 6 = some kn) (kkn : K kn = 43) (lkn : len kn = 6) (cr : Nat) (hcr : R a0 5 = some cr) (kcr1 : K cr = 44) (lcr : len cr = 6) (hu : UU K R) (D : DD) (E : Nat → Nat → Int) (hc : KC D E a0 h lk rd I R) : Ct g l yX8_lettings cX8_lettings 1 (Option.some Jvm.ClassFile.FieldType.int) rmX8_lettings [.ref a0] (K, len, I, J, R) (pI1 (K, len, I, J, R) (fun r I' => Sf K len I' R ∧ Fr K [(9, 12)] I I' ∧ (KC D E a0 h lk rd I' R) ∧ ((1 ≤ D 0 7) ∧ r.toInt = Lc D 60 ∨ ¬ (1 ≤ D 0 7) ∧ r.toInt = -1) ∧ ((I' a0 12).toInt ≠ 4))) := by
  refine Ct_intro (by decide +kernel) (Nat.le_of_ble_eq_true rfl) (fun X hC hL hKK hNm hr hlk hQ => ?_)
  subst hL
  have hC : Cx g X cX8_lettings "HillTap" 1 rmX8_lettings := hC
  show P g X 1 0 [(0, .ref a0)] [] 0 0 (K, len, I, J, R)
  have hF : Fr K [(9, 12)] I I := Fr.refl
  have ka : KA a0 h lk rd K len R := ⟨⟨_, hs⟩, hu, ka0, kh, klk, krd⟩
  obtain ⟨sd1, sd2, sd3, sd4, sd5, sd7, sd8, sd9⟩ := id hc.2.1
  have d7b := hs.rng kh (k := 6) rfl (x := I h 6) rfl
  have d5b := hs.rng kh (k := 1) rfl (x := I h 1) rfl
  have d8b := hs.rng kh (k := 8) rfl (x := I h 8) rfl
  refine r_aload_n hC dX8_lettings_0 0 rfl ?_
  refine r_callV hC (As := []) (rest := []) (ci := 8) (f_X8_noHill g (xL X) K len I J R hs a0 ka0 h hh kh) mT_3_131 mT_1_1 mT_3_128 mT_3_130 mP_22 okX8_noHill ⟨by decide, by decide⟩ rfl (by show kO (K a0) = _; rw [ka0]; rfl) rfl rfl (Nat.le_of_ble_eq_true rfl) ⟨by decide, by decide⟩ dX8_lettings_1 (aI0 (F := fun st M => P g X 1 4 [(0, .ref a0)] st _ _ M) (M := (K, len, I, J, R)) fun x1_ h1 => ?_)
  have k1_0 := h1
  clear h1
  show P g X 1 4 [(0, .ref a0)] [.int x1_] _ _ (K, len, I, J, R)
  rcases k1_0 with ⟨hr1, hw1⟩ | ⟨hr1, hw1⟩
  · refine r_if_eq hC (tgt := 13) dX8_lettings_4 (by decide) (fun c2 => ?_) (fun c2 => ?_)
    · exfalso; omega
    refine r_aload_n hC dX8_lettings_7 0 rfl ?_
    refine r_iconst hC (v := (1)) dX8_lettings_8 (by decide) (by decide) (fun x3_ e3 t3 => ?_)
    refine r_callV hC (As := [.int x3_]) (rest := []) (ci := 8) (c_X8_refuse g (xL X) K len I J R hs a0 ka0 x3_) mT_2_133 mT_1_1 mT_2_130 mT_2_132 mP_0 okX8_refuse ⟨by decide, by decide⟩ rfl (by show kO (K a0) = _; rw [ka0]; rfl) rfl rfl (Nat.le_of_ble_eq_true rfl) ⟨by decide, by decide⟩ dX8_lettings_9 (aI1 (F := fun st M => P g X 1 12 [(0, .ref a0)] st _ _ M) (M := (K, len, I, J, R)) fun x4_ I4 h4 => ?_)
    obtain ⟨hs4, hf4, k4_0, k4_1⟩ := h4
    show P g X 1 12 [(0, .ref a0)] [.int x4_] _ _ (K, len, I4, J, R)
    have hF4 : Fr K [(9, 12)] I I4 := hF.trans hf4 rfl rfl
    have hc4 := hc.mv ka hf4 rfl
    exact r_iret hC hQ hlk hr rfl (by decide) (by decide) dX8_lettings_12 ⟨_, _, rfl, rfl, ⟨hs4, hF4, (by exact hc4), (by first | exact Or.inr ⟨by omega, by omega⟩ | exact Or.inl ⟨by omega, (congrArg Int32.toInt k4_0).trans NOlq⟩), (by omega)⟩⟩
  · refine r_if_eq hC (tgt := 13) dX8_lettings_4 (by decide) (fun c5 => ?_) (fun c5 => ?_)
    rotate_left
    · exfalso; omega
    refine r_aload_n hC dX8_lettings_13 0 rfl ?_
    refine r_aload_n hC dX8_lettings_14 0 rfl ?_
    refine r_callV hC (As := []) (rest := [.ref a0]) (ci := 8) (f_X8_countLettings g (xL X) K len I J R hs a0 ka0 h hh kh lk hlk2 klk rd hrd krd lv hlv klv llv kn hkn kkn lkn cr hcr kcr1 lcr hu D E hc (by omega)) mT_4_27 mT_1_1 mT_4_24 mT_4_26 mP_37 okX8_countLettings ⟨by decide, by decide⟩ rfl (by show kO (K a0) = _; rw [ka0]; rfl) rfl rfl (Nat.le_of_ble_eq_true rfl) ⟨by decide, by decide⟩ dX8_lettings_15 (aI0 (F := fun st M => P g X 1 18 [(0, .ref a0)] st _ _ M) (M := (K, len, I, J, R)) fun x6_ h6 => ?_)
    obtain ⟨k6_0, k6_1⟩ := h6
    show P g X 1 18 [(0, .ref a0)] [.int x6_, .ref a0] _ _ (K, len, I, J, R)
    refine r_callV hC (As := [.int x6_]) (rest := []) (ci := 8) (c_X8_answer g (xL X) K len I J R hs a0 ka0 x6_) mT_3_115 mT_1_1 mT_3_112 mT_3_114 mP_21 okX8_answer ⟨by decide, by decide⟩ rfl (by show kO (K a0) = _; rw [ka0]; rfl) rfl rfl (Nat.le_of_ble_eq_true rfl) ⟨by decide, by decide⟩ dX8_lettings_18 (aI1 (F := fun st M => P g X 1 21 [(0, .ref a0)] st _ _ M) (M := (K, len, I, J, R)) fun x7_ I7 h7 => ?_)
    obtain ⟨hs7, hf7, k7_0, k7_1⟩ := h7
    show P g X 1 21 [(0, .ref a0)] [.int x7_] _ _ (K, len, I7, J, R)
    have hF7 : Fr K [(9, 12)] I I7 := hF.trans hf7 rfl rfl
    have hc7 := hc.mv ka hf7 rfl
    exact r_iret hC hQ hlk hr rfl (by decide) (by decide) dX8_lettings_21 ⟨_, _, rfl, rfl, ⟨hs7, hF7, (by exact hc7), (by first | exact Or.inr ⟨by omega, by omega⟩ | exact Or.inl ⟨by omega, (congrArg Int32.toInt k7_0).trans k6_0⟩), (by omega)⟩⟩
