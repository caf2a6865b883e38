def Lv (D : DD) (d : Int) : Int := if 0 ≤ d then LP1 D d.toNat else D 0 1
def Lc (D : DD) : Nat → Int
  | 0 => 0
  | d + 1 => Lc D d + (if Lv D (d : Int) < Lv D ((d : Int) - 1) ∧ ((d : Int) = 0 ∨ Lv D ((d : Int) - 2) ≤ Lv D ((d : Int) - 1)) then 1 else 0)
def Tp (D : DD) (s : Nat) : Nat → Int
  | 0 => 0
  | d + 1 => if Tp D s d < 0 then Tp D s d else if Lv D (d : Int) < Lv D ((d : Int) - 1) ∧ ((d : Int) = 0 ∨ Lv D ((d : Int) - 2) ≤ Lv D ((d : Int) - 1)) then (if Tg D s (Ad D s (LP1 D) 1) (min ((d : Int) + 5) 59) < Tg D s (Ad D s (LP1 D) 1) ((d : Int) - 1) ∧ (GV D s (Ad D s (LP1 D) 1) 60 = -2 ∨ min ((d : Int) + 5) 59 < GV D s (Ad D s (LP1 D) 1) 60) then Tp D s d + 1 else -(Tp D s d) - 1) else Tp D s d
def TapV (D : DD) (s : Nat) : Int := if Tp D s 60 < 0 then -(Tp D s 60) - 1 else Tp D s 60
def Fo (f : Nat → Int) (v : Int) : Nat → Int
  | 0 => -2
  | k + 1 => if Fo f v k ≠ -2 then Fo f v k else if f k = v then (k : Int) else -2
section ANS2
variable {D : DD} {s n k m : Nat} {i v : Int} {f : Nat → Int}
theorem Lv_p (h : 0 ≤ i) : Lv D i = LP1 D i.toNat := by unfold Lv; rw [if_pos h]
theorem Lv_n (h : i < 0) : Lv D i = D 0 1 := by unfold Lv; rw [if_neg (by omega)]
theorem Lc_t (hn : (n : Int) = i) (h : Lv D i < Lv D (i - 1) ∧ (i = 0 ∨ Lv D (i - 2) ≤ Lv D (i - 1))) : Lc D (n + 1) = Lc D n + 1 := by subst hn; simp only [Lc]; rw [if_pos h]
theorem Lc_n (hn : (n : Int) = i) (h : ¬ (Lv D i < Lv D (i - 1) ∧ (i = 0 ∨ Lv D (i - 2) ≤ Lv D (i - 1)))) : Lc D (n + 1) = Lc D n := by subst hn; simp only [Lc]; rw [if_neg h]; omega
theorem Tp_n (hn : (n : Int) = i) (h : ¬ (Lv D i < Lv D (i - 1) ∧ (i = 0 ∨ Lv D (i - 2) ≤ Lv D (i - 1)))) : Tp D s (n + 1) = Tp D s n := by subst hn; simp only [Tp]; rw [if_neg h]; split <;> rfl
theorem Tp_h (hn : (n : Int) = i) (h0 : 0 ≤ Tp D s n) (h : Lv D i < Lv D (i - 1) ∧ (i = 0 ∨ Lv D (i - 2) ≤ Lv D (i - 1))) (h2 : Tg D s (Ad D s (LP1 D) 1) (min (i + 5) 59) < Tg D s (Ad D s (LP1 D) 1) (i - 1) ∧ (GV D s (Ad D s (LP1 D) 1) 60 = -2 ∨ min (i + 5) 59 < GV D s (Ad D s (LP1 D) 1) 60)) : Tp D s (n + 1) = Tp D s n + 1 := by subst hn; simp only [Tp]; rw [if_neg (by omega), if_pos h, if_pos h2]
theorem Tp_f (hn : (n : Int) = i) (h0 : 0 ≤ Tp D s n) (h : Lv D i < Lv D (i - 1) ∧ (i = 0 ∨ Lv D (i - 2) ≤ Lv D (i - 1))) (h2 : ¬ (Tg D s (Ad D s (LP1 D) 1) (min (i + 5) 59) < Tg D s (Ad D s (LP1 D) 1) (i - 1) ∧ (GV D s (Ad D s (LP1 D) 1) 60 = -2 ∨ min (i + 5) 59 < GV D s (Ad D s (LP1 D) 1) 60))) : Tp D s (n + 1) = -(Tp D s n) - 1 := by subst hn; simp only [Tp]; rw [if_neg (by omega), if_pos h, if_neg h2]
theorem Tp_k (h : Tp D s k < 0) : ∀ m, Tp D s (k + m) = Tp D s k
  | 0 => rfl
  | m + 1 => by
    have h1 := Tp_k h m
    show Tp D s (k + m + 1) = _
    simp only [Tp]; rw [if_pos (by omega), h1]
theorem TapV_f (hn : (n : Int) = i) (h60 : n < 60) (h0 : 0 ≤ Tp D s n) (h : Lv D i < Lv D (i - 1) ∧ (i = 0 ∨ Lv D (i - 2) ≤ Lv D (i - 1))) (h2 : ¬ (Tg D s (Ad D s (LP1 D) 1) (min (i + 5) 59) < Tg D s (Ad D s (LP1 D) 1) (i - 1) ∧ (GV D s (Ad D s (LP1 D) 1) 60 = -2 ∨ min (i + 5) 59 < GV D s (Ad D s (LP1 D) 1) 60))) : TapV D s = Tp D s n := by
  have h3 := Tp_f hn h0 h h2
  have h4 := Tp_k (k := n + 1) (by omega : Tp D s (n + 1) < 0) (60 - (n + 1))
  rw [show n + 1 + (60 - (n + 1)) = 60 by omega] at h4
  unfold TapV; rw [h4, h3, if_pos (by omega)]; omega
theorem TapV_e (hn : n = 60) (h0 : 0 ≤ Tp D s n) : TapV D s = Tp D s n := by subst hn; unfold TapV; rw [if_neg (by omega)]
theorem Fo_n (h : Fo f v k = -2) (h1 : f k ≠ v) : Fo f v (k + 1) = -2 := by simp only [Fo]; rw [if_neg (by omega), if_neg h1]
theorem Fo_t (h : Fo f v k = -2) (h1 : f k = v) : Fo f v (k + 1) = k := by simp only [Fo]; rw [if_neg (by omega), if_pos h1]
theorem Fo_k (h : Fo f v k ≠ -2) : ∀ m, Fo f v (k + m) = Fo f v k
  | 0 => rfl
  | m + 1 => by
    have h1 := Fo_k h m
    show Fo f v (k + m + 1) = _
    simp only [Fo]; rw [if_pos (by rw [h1]; exact h), h1]
theorem Fo_hit (h : Fo f v k = -2) (h1 : f k = v) (hk : k < n) : Fo f v n = k := by
  have h2 := Fo_t h h1
  have h3 := Fo_k (k := k + 1) (by omega : Fo f v (k + 1) ≠ -2) (n - (k + 1))
  rw [show k + 1 + (n - (k + 1)) = n by omega] at h3
  rw [h3, h2]
end ANS2
set_option maxHeartbeats 4000000 in
set_option maxRecDepth 100000 in
theorem f_X8_falls (g : GG) (l : Launch) (K len : Nat → Nat) (I : Nat → Nat → Int32) (J : Nat → Nat → Int64) (R : Nat → Nat → Option Nat) (hs : Sf K len I R) (a0 : Nat) (ka0 : K a0 = 9) (x1 : Int32) (h : Nat) (hh : R a0 2 = some h) (kh : K h = 2) (lk : Nat) (hlk2 : R h 0 = some lk) (klk : K lk = 3) (rd : Nat) (hrd : R a0 9 = some rd) (krd : K rd = 4) (lv : Nat) (hlv : R a0 4 = some lv) (klv : K lv = 41) (llv : len lv = 60) (kn : Nat) (hkn : R a0 6 = some kn) (kkn : K kn = 43) (lkn : len kn = 6) (cr : Nat) (hcr : R a0 5 = some cr) (kcr1 : K cr = 44) (lcr : len cr = 6) (hu : UU K R) (D : DD) (E : Nat → Nat → Int) (hc : KC D E a0 h lk rd I R) (h17 : 1 ≤ D 0 7) : Ct g l yX8_falls cX8_falls 3 (Option.some Jvm.ClassFile.FieldType.boolean) rmX8_falls [.ref a0, .int x1] (K, len, I, J, R) (pI0 (K, len, I, J, R) (fun r => (r.toInt = 1 ∧ ((0 ≤ x1.toInt ∧ x1.toInt ≤ 59) ∧ Lv D x1.toInt < Lv D (x1.toInt - 1)) ∨ r.toInt = 0 ∧ ¬ ((0 ≤ x1.toInt ∧ x1.toInt ≤ 59) ∧ Lv D x1.toInt < Lv D (x1.toInt - 1))))) := by
  refine Ct_intro (by decide +kernel) (Nat.le_of_ble_eq_true rfl) (fun X hC hL hKK hNm hr hlk hQ => ?_)
  subst hL
  have hC : Cx g X cX8_falls "HillTap" 3 rmX8_falls := hC
  show P g X 3 0 [(0, .ref a0), (1, .int x1)] [] 0 0 (K, len, I, J, R)
  have hF : Fr K [] I I := Fr.refl
  have ka : KA a0 h lk rd K len R := ⟨⟨_, hs⟩, hu, ka0, kh, klk, krd⟩
  obtain ⟨sd1, sd2, sd3, sd4, sd5, sd7, sd8, sd9⟩ := id hc.2.1
  have d7b := hs.rng kh (k := 6) rfl (x := I h 6) rfl
  have d5b := hs.rng kh (k := 1) rfl (x := I h 1) rfl
  have d8b := hs.rng kh (k := 8) rfl (x := I h 8) rfl
  have b_x1 := ti_rng x1
  refine r_iload_n hC dX8_falls_0 1 rfl ?_
  refine r_callS hC (As := [.int x1]) (rest := []) (f_X8_isDay g (xL X) K len I J R hs x1) mT_3_134 mT_1_1 mT_3_132 mT_3_133 okX8_isDay ⟨by decide, by decide⟩ rfl rfl (Nat.le_of_ble_eq_true rfl) ⟨by decide, by decide⟩ dX8_falls_1 (aI0 (F := fun st M => P g X 3 4 [(0, .ref a0), (1, .int x1)] st _ _ M) (M := (K, len, I, J, R)) fun x1_ h1 => ?_)
  have k1_0 := h1
  clear h1
  show P g X 3 4 [(0, .ref a0), (1, .int x1)] [.int x1_] _ _ (K, len, I, J, R)
  rcases k1_0 with ⟨hr1, hw1⟩ | ⟨hr1, hw1⟩
  · refine r_if_ne hC (tgt := 9) dX8_falls_4 (by decide) (fun c2 => ?_) (fun c2 => ?_)
    rotate_left
    · exfalso; omega
    refine r_iload_n hC dX8_falls_9 1 rfl ?_
    refine r_if_le hC (tgt := 24) dX8_falls_10 (by decide) (fun c3 => ?_) (fun c3 => ?_)
    · refine r_aload_n hC dX8_falls_24 0 rfl ?_
      refine r_getr hC 2 (ci := 8) rfl u8_in (by decide) mT_2_80 dX8_falls_25 ka0 rfl rfl hh ?_
      refine r_getr hC 0 (ci := 1) rfl u1_in (by decide) mT_1_182 dX8_falls_28 kh rfl rfl hlk2 ?_
      refine r_geti hC 1 (ci := 2) rfl u2_in (by decide) mT_1_122 dX8_falls_31 klk rfl rfl (fun x4_ e4 => ?_)
      have f4 : x4_.toInt = (I lk 1).toInt := by rw [e4]
      have sc4 : x4_.toInt = D 0 1 := by rw [e4]; exact hc.2.1.1
      have qa : x4_.toInt = Lv D (x1.toInt - 1) := by first | (rw [Lv_p (by omega), show (x1.toInt - 1).toNat = x1.toInt.toNat by omega]; exact rfl) | (rw [Lv_n (by omega)]; omega)
      refine r_istore_n hC (lv' := [(2, .int x4_), (0, .ref a0), (1, .int x1)]) dX8_falls_34 (by decide) rfl ?_
      refine r_aload_n hC dX8_falls_35 1 rfl ?_
      refine r_getr hC 4 (ci := 8) rfl u8_in (by decide) mT_2_82 dX8_falls_36 ka0 rfl rfl hlv ?_
      refine r_iload_n hC dX8_falls_39 2 rfl ?_
      refine x_iaload hC klv llv (by decide) rfl rfl dX8_falls_40 (by omega) (by omega) (fun x5_ e5 => ?_)
      have ql5 := hc.lev (by omega) hlv x1.toInt.toNat (by omega)
      have q5 : x5_.toInt = LP1 D x1.toInt.toNat := by rw [e5, clx (i := x1) rfl (by omega)]; exact ql5.1
      have qd : x5_.toInt = Lv D x1.toInt := by rw [Lv_p (by omega)]; exact q5
      refine r_iload_n hC dX8_falls_41 0 rfl ?_
      refine r_icmp_ge hC (tgt := 49) dX8_falls_42 (by decide) (fun c6 => ?_) (fun c6 => ?_)
      · refine r_iconst hC (v := (0)) dX8_falls_49 (by decide) (by decide) (fun x7_ e7 t7 => ?_)
        exact r_iret hC hQ hlk hr (by rw [e7]; rfl) (by decide) (by decide) dX8_falls_50 ⟨_, rfl, rfl, (by omega)⟩
      · refine r_iconst hC (v := (1)) dX8_falls_45 (by decide) (by decide) (fun x8_ e8 t8 => ?_)
        refine r_goto hC (tgt := 50) dX8_falls_46 (by decide) ?_
        exact r_iret hC hQ hlk hr (by rw [e8]; rfl) (by decide) (by decide) dX8_falls_50 ⟨_, rfl, rfl, (by omega)⟩
    · refine r_aload_n hC dX8_falls_13 0 rfl ?_
      refine r_getr hC 4 (ci := 8) rfl u8_in (by decide) mT_2_82 dX8_falls_14 ka0 rfl rfl hlv ?_
      refine r_iload_n hC dX8_falls_17 1 rfl ?_
      refine r_iconst hC (v := (1)) dX8_falls_18 (by decide) (by decide) (fun x9_ e9 t9 => ?_)
      refine r_isub hC dX8_falls_19 (fun x10_ e10 => ?_)
      try have t10 : x10_.toInt = x1.toInt - x9_.toInt := by rw [e10]; exact ti_sub (by omega) (by omega)
      refine x_iaload hC klv llv (by decide) rfl rfl dX8_falls_20 (by omega) (by omega) (fun x11_ e11 => ?_)
      have ql11 := hc.lev (by omega) hlv x10_.toInt.toNat (by omega)
      have q11 : x11_.toInt = LP1 D x10_.toInt.toNat := by rw [e11, clx (i := x10_) rfl (by omega)]; exact ql11.1
      refine r_goto hC (tgt := 34) dX8_falls_21 (by decide) ?_
      have qa : x11_.toInt = Lv D (x1.toInt - 1) := by first | (rw [Lv_p (by omega), show (x1.toInt - 1).toNat = x10_.toInt.toNat by omega]; exact q11) | (rw [Lv_n (by omega)]; omega)
      refine r_istore_n hC (lv' := [(2, .int x11_), (0, .ref a0), (1, .int x1)]) dX8_falls_34 (by decide) rfl ?_
      refine r_aload_n hC dX8_falls_35 1 rfl ?_
      refine r_getr hC 4 (ci := 8) rfl u8_in (by decide) mT_2_82 dX8_falls_36 ka0 rfl rfl hlv ?_
      refine r_iload_n hC dX8_falls_39 2 rfl ?_
      refine x_iaload hC klv llv (by decide) rfl rfl dX8_falls_40 (by omega) (by omega) (fun x12_ e12 => ?_)
      have ql12 := hc.lev (by omega) hlv x1.toInt.toNat (by omega)
      have q12 : x12_.toInt = LP1 D x1.toInt.toNat := by rw [e12, clx (i := x1) rfl (by omega)]; exact ql12.1
      have qd : x12_.toInt = Lv D x1.toInt := by rw [Lv_p (by omega)]; exact q12
      refine r_iload_n hC dX8_falls_41 0 rfl ?_
      refine r_icmp_ge hC (tgt := 49) dX8_falls_42 (by decide) (fun c13 => ?_) (fun c13 => ?_)
      · refine r_iconst hC (v := (0)) dX8_falls_49 (by decide) (by decide) (fun x14_ e14 t14 => ?_)
        exact r_iret hC hQ hlk hr (by rw [e14]; rfl) (by decide) (by decide) dX8_falls_50 ⟨_, rfl, rfl, (by omega)⟩
      · refine r_iconst hC (v := (1)) dX8_falls_45 (by decide) (by decide) (fun x15_ e15 t15 => ?_)
        refine r_goto hC (tgt := 50) dX8_falls_46 (by decide) ?_
        exact r_iret hC hQ hlk hr (by rw [e15]; rfl) (by decide) (by decide) dX8_falls_50 ⟨_, rfl, rfl, (by omega)⟩
  · refine r_if_ne hC (tgt := 9) dX8_falls_4 (by decide) (fun c16 => ?_) (fun c16 => ?_)
    · exfalso; omega
    refine r_iconst hC (v := (0)) dX8_falls_7 (by decide) (by decide) (fun x17_ e17 t17 => ?_)
    exact r_iret hC hQ hlk hr (by rw [e17]; rfl) (by decide) (by decide) dX8_falls_8 ⟨_, rfl, rfl, (by omega)⟩
set_option maxHeartbeats 4000000 in
set_option maxRecDepth 100000 in
theorem f_X8_isLetting (g : GG) (l : Launch) (K len : Nat → Nat) (I : Nat → Nat → Int32) (J : Nat → Nat → Int64) (R : Nat → Nat → Option Nat) (hs : Sf K len I R) (a0 : Nat) (ka0 : K a0 = 9) (x1 : Int32) (h : Nat) (hh : R a0 2 = some h) (kh : K h = 2) (lk : Nat) (hlk2 : R h 0 = some lk) (klk : K lk = 3) (rd : Nat) (hrd : R a0 9 = some rd) (krd : K rd = 4) (lv : Nat) (hlv : R a0 4 = some lv) (klv : K lv = 41) (llv : len lv = 60) (kn : Nat) (hkn : R a0 6 = some kn) (kkn : K kn = 43) (lkn : len kn = 6) (cr : Nat) (hcr : R a0 5 = some cr) (kcr1 : K cr = 44) (lcr : len cr = 6) (hu : UU K R) (D : DD) (E : Nat → Nat → Int) (hc : KC D E a0 h lk rd I R) (h17 : 1 ≤ D 0 7) (p0 : 0 ≤ x1.toInt ∧ x1.toInt ≤ 59) : Ct g l yX8_isLetting cX8_isLetting 2 (Option.some Jvm.ClassFile.FieldType.boolean) rmX8_isLetting [.ref a0, .int x1] (K, len, I, J, R) (pI0 (K, len, I, J, R) (fun r => (r.toInt = 1 ∧ (Lv D x1.toInt < Lv D (x1.toInt - 1) ∧ (x1.toInt = 0 ∨ Lv D (x1.toInt - 2) ≤ Lv D (x1.toInt - 1))) ∨ r.toInt = 0 ∧ ¬ (Lv D x1.toInt < Lv D (x1.toInt - 1) ∧ (x1.toInt = 0 ∨ Lv D (x1.toInt - 2) ≤ Lv D (x1.toInt - 1)))))) := by
  refine Ct_intro (by decide +kernel) (Nat.le_of_ble_eq_true rfl) (fun X hC hL hKK hNm hr hlk hQ => ?_)
  subst hL
  have hC : Cx g X cX8_isLetting "HillTap" 2 rmX8_isLetting := hC
  show P g X 2 0 [(0, .ref a0), (1, .int x1)] [] 0 0 (K, len, I, J, R)
  have hF : Fr K [] I I := Fr.refl
  have ka : KA a0 h lk rd K len R := ⟨⟨_, hs⟩, hu, ka0, kh, klk, krd⟩
  obtain ⟨sd1, sd2, sd3, sd4, sd5, sd7, sd8, sd9⟩ := id hc.2.1
  have d7b := hs.rng kh (k := 6) rfl (x := I h 6) rfl
  have d5b := hs.rng kh (k := 1) rfl (x := I h 1) rfl
  have d8b := hs.rng kh (k := 8) rfl (x := I h 8) rfl
  have b_x1 := ti_rng x1
  refine r_aload_n hC dX8_isLetting_0 0 rfl ?_
  refine r_iload_n hC dX8_isLetting_1 1 rfl ?_
  refine r_callV hC (As := [.int x1]) (rest := []) (ci := 8) (f_X8_falls g (xL X) K len I J R hs a0 ka0 x1 h hh kh lk hlk2 klk rd hrd krd lv hlv klv llv kn hkn kkn lkn cr hcr kcr1 lcr hu D E hc (by omega)) mT_4_35 mT_1_1 mT_4_32 mT_4_34 mP_39 okX8_falls ⟨by decide, by decide⟩ rfl (by show kO (K a0) = _; rw [ka0]; rfl) rfl rfl (Nat.le_of_ble_eq_true rfl) ⟨by decide, by decide⟩ dX8_isLetting_2 (aI0 (F := fun st M => P g X 2 5 [(0, .ref a0), (1, .int x1)] st _ _ M) (M := (K, len, I, J, R)) fun x1_ h1 => ?_)
  have k1_0 := h1
  clear h1
  show P g X 2 5 [(0, .ref a0), (1, .int x1)] [.int x1_] _ _ (K, len, I, J, R)
  refine r_if_eq hC (tgt := 22) dX8_isLetting_5 (by decide) (fun c2 => ?_) (fun c2 => ?_)
  · refine r_iconst hC (v := (0)) dX8_isLetting_22 (by decide) (by decide) (fun x3_ e3 t3 => ?_)
    exact r_iret hC hQ hlk hr (by rw [e3]; rfl) (by decide) (by decide) dX8_isLetting_23 ⟨_, rfl, rfl, (by omega)⟩
  · refine r_aload_n hC dX8_isLetting_8 0 rfl ?_
    refine r_iload_n hC dX8_isLetting_9 1 rfl ?_
    refine r_iconst hC (v := (1)) dX8_isLetting_10 (by decide) (by decide) (fun x4_ e4 t4 => ?_)
    refine r_isub hC dX8_isLetting_11 (fun x5_ e5 => ?_)
    try have t5 : x5_.toInt = x1.toInt - x4_.toInt := by rw [e5]; exact ti_sub (by omega) (by omega)
    refine r_callV hC (As := [.int x5_]) (rest := []) (ci := 8) (f_X8_falls g (xL X) K len I J R hs a0 ka0 x5_ h hh kh lk hlk2 klk rd hrd krd lv hlv klv llv kn hkn kkn lkn cr hcr kcr1 lcr hu D E hc (by omega)) mT_4_35 mT_1_1 mT_4_32 mT_4_34 mP_39 okX8_falls ⟨by decide, by decide⟩ rfl (by show kO (K a0) = _; rw [ka0]; rfl) rfl rfl (Nat.le_of_ble_eq_true rfl) ⟨by decide, by decide⟩ dX8_isLetting_12 (aI0 (F := fun st M => P g X 2 15 [(0, .ref a0), (1, .int x1)] st _ _ M) (M := (K, len, I, J, R)) fun x6_ h6 => ?_)
    have k6_0 := h6
    clear h6
    show P g X 2 15 [(0, .ref a0), (1, .int x1)] [.int x6_] _ _ (K, len, I, J, R)
    have qf : x6_.toInt = 1 ∧ ((0 ≤ x1.toInt - 1 ∧ x1.toInt - 1 ≤ 59) ∧ Lv D (x1.toInt - 1) < Lv D (x1.toInt - 2)) ∨ x6_.toInt = 0 ∧ ¬ ((0 ≤ x1.toInt - 1 ∧ x1.toInt - 1 ≤ 59) ∧ Lv D (x1.toInt - 1) < Lv D (x1.toInt - 2)) := by have h9 := k6_0; rw [show x5_.toInt = x1.toInt - 1 by omega, show x1.toInt - 1 - 1 = x1.toInt - 2 by omega] at h9; exact h9
    clear k6_0
    refine r_if_ne hC (tgt := 22) dX8_isLetting_15 (by decide) (fun c7 => ?_) (fun c7 => ?_)
    · refine r_iconst hC (v := (0)) dX8_isLetting_22 (by decide) (by decide) (fun x8_ e8 t8 => ?_)
      exact r_iret hC hQ hlk hr (by rw [e8]; rfl) (by decide) (by decide) dX8_isLetting_23 ⟨_, rfl, rfl, (by omega)⟩
    · refine r_iconst hC (v := (1)) dX8_isLetting_18 (by decide) (by decide) (fun x9_ e9 t9 => ?_)
      refine r_goto hC (tgt := 23) dX8_isLetting_19 (by decide) ?_
      exact r_iret hC hQ hlk hr (by rw [e9]; rfl) (by decide) (by decide) dX8_isLetting_23 ⟨_, rfl, rfl, (by omega)⟩
set_option maxHeartbeats 4000000 in
set_option maxRecDepth 100000 in
theorem f_X8_countLettings (g : GG) (l : Launch) (K len : Nat → Nat) (I : Nat → Nat → Int32) (J : Nat → Nat → Int64) (R : Nat → Nat → Option Nat) (hs : Sf K len I R) (a0 : Nat) (ka0 : K a0 = 9) (h : Nat) (hh : R a0 2 = some h) (kh : K h = 2) (lk : Nat) (hlk2 : R h 0 = some lk) (klk : K lk = 3) (rd : Nat) (hrd : R a0 9 = some rd) (krd : K rd = 4) (lv : Nat) (hlv : R a0 4 = some lv) (klv : K lv = 41) (llv : len lv = 60) (kn : Nat) (hkn : R a0 6 = some kn) (kkn : K kn = 43) (lkn : len kn = 6) (cr : Nat) (hcr : R a0 5 = some cr) (kcr1 : K cr = 44) (lcr : len cr = 6) (hu : UU K R) (D : DD) (E : Nat → Nat → Int) (hc : KC D E a0 h lk rd I R) (h17 : 1 ≤ D 0 7) : Ct g l yX8_countLettings cX8_countLettings 3 (Option.some Jvm.ClassFile.FieldType.int) rmX8_countLettings [.ref a0] (K, len, I, J, R) (pI0 (K, len, I, J, R) (fun r => (r.toInt = Lc D 60) ∧ (0 ≤ r.toInt ∧ r.toInt ≤ 60))) := by
  refine Ct_intro (by decide +kernel) (Nat.le_of_ble_eq_true rfl) (fun X hC hL hKK hNm hr hlk hQ => ?_)
  subst hL
  have hC : Cx g X cX8_countLettings "HillTap" 3 rmX8_countLettings := hC
  show P g X 3 0 [(0, .ref a0)] [] 0 0 (K, len, I, J, R)
  have hF : Fr K [] I I := Fr.refl
  have ka : KA a0 h lk rd K len R := ⟨⟨_, hs⟩, hu, ka0, kh, klk, krd⟩
  obtain ⟨sd1, sd2, sd3, sd4, sd5, sd7, sd8, sd9⟩ := id hc.2.1
  have d7b := hs.rng kh (k := 6) rfl (x := I h 6) rfl
  have d5b := hs.rng kh (k := 1) rfl (x := I h 1) rfl
  have d8b := hs.rng kh (k := 8) rfl (x := I h 8) rfl
  refine r_iconst hC (v := (0)) dX8_countLettings_0 (by decide) (by decide) (fun x1_ e1 t1 => ?_)
  refine r_istore_n hC (lv' := [(1, .int x1_), (0, .ref a0)]) dX8_countLettings_1 (by decide) rfl ?_
  refine r_iconst hC (v := (0)) dX8_countLettings_2 (by decide) (by decide) (fun x2_ e2 t2 => ?_)
  refine r_istore_n hC (lv' := [(2, .int x2_), (1, .int x1_), (0, .ref a0)]) dX8_countLettings_3 (by decide) rfl ?_
  have LP3 : ∀ (mu : Nat) (x3_2 : Int32) (x3_1 : Int32) (v3_0 : 0 ≤ x3_2.toInt) (v3_1 : x3_2.toInt ≤ 60) (v3_2 : x3_1.toInt = Lc D x3_2.toInt.toNat) (v3_3 : 0 ≤ x3_1.toInt ∧ x3_1.toInt ≤ x3_2.toInt), (60 - x3_2.toInt).toNat = mu → P g X 3 4 [(0, .ref a0), (1, .int x3_1), (2, .int x3_2)] [] 0 0 (K, len, I, J, R) := by
    intro mu; induction mu using Nat.strongRecOn with | ind mu ih => ?_
    intro x3_2 x3_1 v3_0 v3_1 v3_2 v3_3 hmu
    have ih3 := ih
    clear ih
    have hmu3 := hmu
    clear hmu
    refine r_iload_n hC dX8_countLettings_4 2 rfl ?_
    refine r_bipush hC (v := (60)) dX8_countLettings_5 (by decide) (by decide) (fun x4_ e4 t4 => ?_)
    refine r_icmp_ge hC (tgt := 27) dX8_countLettings_7 (by decide) (fun c5 => ?_) (fun c5 => ?_)
    · refine r_iload_n hC dX8_countLettings_27 1 rfl ?_
      exact r_iret hC hQ hlk hr rfl (by decide) (by decide) dX8_countLettings_28 ⟨_, rfl, rfl, ⟨(by rw [show 60 = x3_2.toInt.toNat by omega]; exact v3_2), (by omega)⟩⟩
    · refine r_aload_n hC dX8_countLettings_10 0 rfl ?_
      refine r_iload_n hC dX8_countLettings_11 2 rfl ?_
      refine r_callV hC (As := [.int x3_2]) (rest := []) (ci := 8) (f_X8_isLetting g (xL X) K len I J R hs a0 ka0 x3_2 h hh kh lk hlk2 klk rd hrd krd lv hlv klv llv kn hkn kkn lkn cr hcr kcr1 lcr hu D E hc (by omega) (by omega)) mT_4_31 mT_1_1 mT_4_28 mT_4_30 mP_38 okX8_isLetting ⟨by decide, by decide⟩ rfl (by show kO (K a0) = _; rw [ka0]; rfl) rfl rfl (Nat.le_of_ble_eq_true rfl) ⟨by decide, by decide⟩ dX8_countLettings_12 (aI0 (F := fun st M => P g X 3 15 [(0, .ref a0), (1, .int x3_1), (2, .int x3_2)] st _ _ M) (M := (K, len, I, J, R)) fun x6_ h6 => ?_)
      have k6_0 := h6
      clear h6
      show P g X 3 15 [(0, .ref a0), (1, .int x3_1), (2, .int x3_2)] [.int x6_] _ _ (K, len, I, J, R)
      refine r_if_eq hC (tgt := 21) dX8_countLettings_15 (by decide) (fun c7 => ?_) (fun c7 => ?_)
      · obtain ⟨x8_, e8⟩ : ∃ z : Int32, z = x3_2 + Int32.ofInt (1) := ⟨_, rfl⟩
        refine r_iinc hC (j := 2) (v := x8_) (lv' := [(2, .int x8_), (0, .ref a0), (1, .int x3_1)]) dX8_countLettings_21 rfl (by rw [e8]) (by decide) rfl ?_
        try have t8 : x8_.toInt = x3_2.toInt + (1) := by rw [e8]; exact (ti_add (b := Int32.ofInt (1)) (by show _ ≤ _ + (1 : Int); omega) (by show _ + (1 : Int) ≤ _; omega))
        refine r_goto hC (tgt := 4) dX8_countLettings_24 (by decide) ?_
        refine r_sub [1, 2, 0] rfl ?_
        exact ih3 ((60 - x8_.toInt).toNat) (by omega) x8_ x3_1 (by omega) (by omega) (by first | (rw [show x8_.toInt.toNat = 0 by omega]; show _ = (0 : Int); omega) | (rw [show x8_.toInt.toNat = x3_2.toInt.toNat + 1 by omega, Lc_t (i := x3_2.toInt) (by omega) (by omega)]; omega) | (rw [show x8_.toInt.toNat = x3_2.toInt.toNat + 1 by omega, Lc_n (i := x3_2.toInt) (by omega) (by omega)]; omega)) (by omega) rfl
      · obtain ⟨x9_, e9⟩ : ∃ z : Int32, z = x3_1 + Int32.ofInt (1) := ⟨_, rfl⟩
        refine r_iinc hC (j := 1) (v := x9_) (lv' := [(1, .int x9_), (0, .ref a0), (2, .int x3_2)]) dX8_countLettings_18 rfl (by rw [e9]) (by decide) rfl ?_
        try have t9 : x9_.toInt = x3_1.toInt + (1) := by rw [e9]; exact (ti_add (b := Int32.ofInt (1)) (by show _ ≤ _ + (1 : Int); omega) (by show _ + (1 : Int) ≤ _; omega))
        obtain ⟨x10_, e10⟩ : ∃ z : Int32, z = x3_2 + Int32.ofInt (1) := ⟨_, rfl⟩
        refine r_iinc hC (j := 2) (v := x10_) (lv' := [(2, .int x10_), (1, .int x9_), (0, .ref a0)]) dX8_countLettings_21 rfl (by rw [e10]) (by decide) rfl ?_
        try have t10 : x10_.toInt = x3_2.toInt + (1) := by rw [e10]; exact (ti_add (b := Int32.ofInt (1)) (by show _ ≤ _ + (1 : Int); omega) (by show _ + (1 : Int) ≤ _; omega))
        refine r_goto hC (tgt := 4) dX8_countLettings_24 (by decide) ?_
        refine r_sub [2, 1, 0] rfl ?_
        exact ih3 ((60 - x10_.toInt).toNat) (by omega) x10_ x9_ (by omega) (by omega) (by first | (rw [show x10_.toInt.toNat = 0 by omega]; show _ = (0 : Int); omega) | (rw [show x10_.toInt.toNat = x3_2.toInt.toNat + 1 by omega, Lc_t (i := x3_2.toInt) (by omega) (by omega)]; omega) | (rw [show x10_.toInt.toNat = x3_2.toInt.toNat + 1 by omega, Lc_n (i := x3_2.toInt) (by omega) (by omega)]; omega)) (by omega) rfl
  refine r_sub [2, 1, 0] rfl ?_
  exact LP3 _ x2_ x1_ (by omega) (by omega) (by first | (rw [show x2_.toInt.toNat = 0 by omega]; show _ = (0 : Int); omega) | (rw [show x2_.toInt.toNat = x3_2.toInt.toNat + 1 by omega, Lc_t (i := x3_2.toInt) (by omega) (by omega)]; omega) | (rw [show x2_.toInt.toNat = x3_2.toInt.toNat + 1 by omega, Lc_n (i := x3_2.toInt) (by omega) (by omega)]; omega)) (by omega) rfl
set_option maxHeartbeats 4000000 in
set_option maxRecDepth 100000 in
theorem f_X0_togetherAhead (g : GG) (l : Launch) (K len : Nat → Nat) (I : Nat → Nat → Int32) (J : Nat → Nat → Int64) (R : Nat → Nat → Option Nat) (hs : Sf K len I R) (a0 : Nat) (ka0 : K a0 = 1) (x1 : Int32) (D : DD) (s : Nat) (co : CO D s (LP1 D) 1 a0 I R) (p0 : x1.toInt ≤ 60) : Ct g l yX0_togetherAhead cX0_togetherAhead 2 (Option.some Jvm.ClassFile.FieldType.int) rmX0_togetherAhead [.ref a0, .int x1] (K, len, I, J, R) (pI0 (K, len, I, J, R) (fun r => (r.toInt = Tg D s (Ad D s (LP1 D) 1) (x1.toInt - 1)))) := by
  refine Ct_intro (by decide +kernel) (Nat.le_of_ble_eq_true rfl) (fun X hC hL hKK hNm hr hlk hQ => ?_)
  subst hL
  have hC : Cx g X cX0_togetherAhead "HillTap$Course" 2 rmX0_togetherAhead := hC
  show P g X 2 0 [(0, .ref a0), (1, .int x1)] [] 0 0 (K, len, I, J, R)
  have hF : Fr K [] I I := Fr.refl
  have b_x1 := ti_rng x1
  refine r_iload_n hC dX0_togetherAhead_0 1 rfl ?_
  refine r_if_le hC (tgt := 15) dX0_togetherAhead_1 (by decide) (fun c1 => ?_) (fun c1 => ?_)
  · refine r_iconst hC (v := (0)) dX0_togetherAhead_15 (by decide) (by decide) (fun x2_ e2 t2 => ?_)
    exact r_iret hC hQ hlk hr rfl (by decide) (by decide) dX0_togetherAhead_16 ⟨_, rfl, rfl, (by first | (rw [Tg_n (by omega)]; omega) | (rw [show x1.toInt - 1 = NOtai.toInt by omega]; exact NOlq))⟩
  · refine r_aload_n hC dX0_togetherAhead_4 0 rfl ?_
    obtain ⟨a3_, hb3, hk3, hn3⟩ := hs.row ka0 3 53 60 (by decide) (by decide)
    refine r_getr hC 3 (ci := 0) rfl u0_in (by decide) mT_2_32 dX0_togetherAhead_5 ka0 rfl rfl hb3 ?_
    refine r_iload_n hC dX0_togetherAhead_8 1 rfl ?_
    refine r_iconst hC (v := (1)) dX0_togetherAhead_9 (by decide) (by decide) (fun x4_ e4 t4 => ?_)
    refine r_isub hC dX0_togetherAhead_10 (fun x5_ e5 => ?_)
    try have t5 : x5_.toInt = x1.toInt - x4_.toInt := by rw [e5]; exact ti_sub (by omega) (by omega)
    refine x_iaload hC hk3 hn3 (by decide) rfl rfl dX0_togetherAhead_11 (by omega) (by omega) (fun x6_ e6 => ?_)
    have q6 : x6_.toInt = Tg D s (Ad D s (LP1 D) 1) x5_.toInt := by rw [Tg_p (by omega), e6, clx (i := x5_) rfl (by omega)]; exact co.tog hs ka0 hb3 (by omega)
    refine r_goto hC (tgt := 16) dX0_togetherAhead_12 (by decide) ?_
    exact r_iret hC hQ hlk hr rfl (by decide) (by decide) dX0_togetherAhead_16 ⟨_, rfl, rfl, (by first | (rw [Tg_n (by omega)]; omega) | (rw [show x1.toInt - 1 = x5_.toInt by omega]; exact q6))⟩
set_option maxHeartbeats 4000000 in
set_option maxRecDepth 100000 in
theorem f_X0_heldFrom (g : GG) (l : Launch) (K len : Nat → Nat) (I : Nat → Nat → Int32) (J : Nat → Nat → Int64) (R : Nat → Nat → Option Nat) (hs : Sf K len I R) (a0 : Nat) (ka0 : K a0 = 1) (x1 : Int32) (D : DD) (s : Nat) (co : CO D s (LP1 D) 1 a0 I R) (p0 : 0 ≤ x1.toInt) (p1 : x1.toInt ≤ 59) : Ct g l yX0_heldFrom cX0_heldFrom 3 (Option.some Jvm.ClassFile.FieldType.boolean) rmX0_heldFrom [.ref a0, .int x1] (K, len, I, J, R) (pI0 (K, len, I, J, R) (fun r => (r.toInt = 1 ∧ (Tg D s (Ad D s (LP1 D) 1) (min (x1.toInt + 5) 59) < Tg D s (Ad D s (LP1 D) 1) (x1.toInt - 1) ∧ (GV D s (Ad D s (LP1 D) 1) 60 = -2 ∨ min (x1.toInt + 5) 59 < GV D s (Ad D s (LP1 D) 1) 60)) ∨ r.toInt = 0 ∧ ¬ (Tg D s (Ad D s (LP1 D) 1) (min (x1.toInt + 5) 59) < Tg D s (Ad D s (LP1 D) 1) (x1.toInt - 1) ∧ (GV D s (Ad D s (LP1 D) 1) 60 = -2 ∨ min (x1.toInt + 5) 59 < GV D s (Ad D s (LP1 D) 1) 60))))) := by
  refine Ct_intro (by decide +kernel) (Nat.le_of_ble_eq_true rfl) (fun X hC hL hKK hNm hr hlk hQ => ?_)
  subst hL
  have hC : Cx g X cX0_heldFrom "HillTap$Course" 3 rmX0_heldFrom := hC
  show P g X 3 0 [(0, .ref a0), (1, .int x1)] [] 0 0 (K, len, I, J, R)
  have hF : Fr K [] I I := Fr.refl
  have b_x1 := ti_rng x1
  refine r_iload_n hC dX0_heldFrom_0 1 rfl ?_
  refine r_iconst hC (v := (5)) dX0_heldFrom_1 (by decide) (by decide) (fun x1_ e1 t1 => ?_)
  refine r_iadd hC dX0_heldFrom_2 (fun x2_ e2 => ?_)
  try have t2 : x2_.toInt = x1.toInt + x1_.toInt := by rw [e2]; exact ti_add (by omega) (by omega)
  refine r_bipush hC (v := (59)) dX0_heldFrom_3 (by decide) (by decide) (fun x3_ e3 t3 => ?_)
  refine r_mmin hC mT_3_181 mT_2_154 mT_1_12 mT_2_155 (by decide) (Nat.le_of_ble_eq_true rfl) (Nat.zero_le _) (Nat.zero_le _) dX0_heldFrom_5 (fun x4_ e4 t4a t4b t4c => ?_)
  refine r_istore_n hC (lv' := [(2, .int x4_), (0, .ref a0), (1, .int x1)]) dX0_heldFrom_8 (by decide) rfl ?_
  have qmin : x4_.toInt = min (x1.toInt + 5) 59 := by omega
  refine r_aload_n hC dX0_heldFrom_9 1 rfl ?_
  refine r_geti hC 5 (ci := 0) rfl u0_in (by decide) mT_2_35 dX0_heldFrom_10 ka0 rfl rfl (fun x5_ e5 => ?_)
  have f5 : x5_.toInt = (I a0 5).toInt := by rw [e5]
  have q5 : x5_.toInt = GV D s (Ad D s (LP1 D) 1) 60 := by rw [e5]; exact co.2.1
  refine r_bipush hC (v := (-2)) dX0_heldFrom_13 (by decide) (by decide) (fun x6_ e6 t6 => ?_)
  refine r_icmp_eq hC (tgt := 28) dX0_heldFrom_15 (by decide) (fun c7 => ?_) (fun c7 => ?_)
  · refine r_aload_n hC dX0_heldFrom_28 1 rfl ?_
    obtain ⟨a8_, hb8, hk8, hn8⟩ := hs.row ka0 3 53 60 (by decide) (by decide)
    refine r_getr hC 3 (ci := 0) rfl u0_in (by decide) mT_2_32 dX0_heldFrom_29 ka0 rfl rfl hb8 ?_
    refine r_iload_n hC dX0_heldFrom_32 0 rfl ?_
    refine x_iaload hC hk8 hn8 (by decide) rfl rfl dX0_heldFrom_33 (by omega) (by omega) (fun x9_ e9 => ?_)
    have q9 : x9_.toInt = Tg D s (Ad D s (LP1 D) 1) x4_.toInt := by rw [Tg_p (by omega), e9, clx (i := x4_) rfl (by omega)]; exact co.tog hs ka0 hb8 (by omega)
    have qt : x9_.toInt = Tg D s (Ad D s (LP1 D) 1) (min (x1.toInt + 5) 59) := by rw [← qmin]; exact q9
    refine r_aload_n hC dX0_heldFrom_34 1 rfl ?_
    refine r_iload_n hC dX0_heldFrom_35 2 rfl ?_
    refine r_callV hC (As := [.int x1]) (rest := [.int x9_]) (ci := 0) (f_X0_togetherAhead g (xL X) K len I J R hs a0 ka0 x1 D s co (by omega)) mT_4_51 mT_1_8 mT_4_48 mT_4_49 mT_4_50 okX0_togetherAhead ⟨by decide, by decide⟩ rfl (by show kO (K a0) = _; rw [ka0]; rfl) rfl rfl (Nat.le_of_ble_eq_true rfl) ⟨by decide, by decide⟩ dX0_heldFrom_36 (aI0 (F := fun st M => P g X 3 39 [(2, .int x4_), (0, .ref a0), (1, .int x1)] st _ _ M) (M := (K, len, I, J, R)) fun x10_ h10 => ?_)
    have k10_0 := h10
    clear h10
    show P g X 3 39 [(2, .int x4_), (0, .ref a0), (1, .int x1)] [.int x10_, .int x9_] _ _ (K, len, I, J, R)
    refine r_icmp_ge hC (tgt := 46) dX0_heldFrom_39 (by decide) (fun c11 => ?_) (fun c11 => ?_)
    · refine r_iconst hC (v := (0)) dX0_heldFrom_46 (by decide) (by decide) (fun x12_ e12 t12 => ?_)
      exact r_iret hC hQ hlk hr (by rw [e12]; rfl) (by decide) (by decide) dX0_heldFrom_47 ⟨_, rfl, rfl, (by omega)⟩
    · refine r_iconst hC (v := (1)) dX0_heldFrom_42 (by decide) (by decide) (fun x13_ e13 t13 => ?_)
      refine r_goto hC (tgt := 47) dX0_heldFrom_43 (by decide) ?_
      exact r_iret hC hQ hlk hr (by rw [e13]; rfl) (by decide) (by decide) dX0_heldFrom_47 ⟨_, rfl, rfl, (by omega)⟩
  · refine r_aload_n hC dX0_heldFrom_18 1 rfl ?_
    refine r_geti hC 5 (ci := 0) rfl u0_in (by decide) mT_2_35 dX0_heldFrom_19 ka0 rfl rfl (fun x14_ e14 => ?_)
    have f14 : x14_.toInt = (I a0 5).toInt := by rw [e14]
    have w14 : x14_ = x5_ := by rw [e14]; exact e5.symm
    have wt14 : x14_.toInt = x5_.toInt := by rw [w14]
    have q14 : x14_.toInt = GV D s (Ad D s (LP1 D) 1) 60 := by rw [e14]; exact co.2.1
    refine r_iload_n hC dX0_heldFrom_22 0 rfl ?_
    refine r_icmp_gt hC (tgt := 28) dX0_heldFrom_23 (by decide) (fun c15 => ?_) (fun c15 => ?_)
    · refine r_aload_n hC dX0_heldFrom_28 1 rfl ?_
      obtain ⟨a16_, hb16, hk16, hn16⟩ := hs.row ka0 3 53 60 (by decide) (by decide)
      refine r_getr hC 3 (ci := 0) rfl u0_in (by decide) mT_2_32 dX0_heldFrom_29 ka0 rfl rfl hb16 ?_
      refine r_iload_n hC dX0_heldFrom_32 0 rfl ?_
      refine x_iaload hC hk16 hn16 (by decide) rfl rfl dX0_heldFrom_33 (by omega) (by omega) (fun x17_ e17 => ?_)
      have q17 : x17_.toInt = Tg D s (Ad D s (LP1 D) 1) x4_.toInt := by rw [Tg_p (by omega), e17, clx (i := x4_) rfl (by omega)]; exact co.tog hs ka0 hb16 (by omega)
      have qt : x17_.toInt = Tg D s (Ad D s (LP1 D) 1) (min (x1.toInt + 5) 59) := by rw [← qmin]; exact q17
      refine r_aload_n hC dX0_heldFrom_34 1 rfl ?_
      refine r_iload_n hC dX0_heldFrom_35 2 rfl ?_
      refine r_callV hC (As := [.int x1]) (rest := [.int x17_]) (ci := 0) (f_X0_togetherAhead g (xL X) K len I J R hs a0 ka0 x1 D s co (by omega)) mT_4_51 mT_1_8 mT_4_48 mT_4_49 mT_4_50 okX0_togetherAhead ⟨by decide, by decide⟩ rfl (by show kO (K a0) = _; rw [ka0]; rfl) rfl rfl (Nat.le_of_ble_eq_true rfl) ⟨by decide, by decide⟩ dX0_heldFrom_36 (aI0 (F := fun st M => P g X 3 39 [(2, .int x4_), (0, .ref a0), (1, .int x1)] st _ _ M) (M := (K, len, I, J, R)) fun x18_ h18 => ?_)
      have k18_0 := h18
      clear h18
      show P g X 3 39 [(2, .int x4_), (0, .ref a0), (1, .int x1)] [.int x18_, .int x17_] _ _ (K, len, I, J, R)
      refine r_icmp_ge hC (tgt := 46) dX0_heldFrom_39 (by decide) (fun c19 => ?_) (fun c19 => ?_)
      · refine r_iconst hC (v := (0)) dX0_heldFrom_46 (by decide) (by decide) (fun x20_ e20 t20 => ?_)
        exact r_iret hC hQ hlk hr (by rw [e20]; rfl) (by decide) (by decide) dX0_heldFrom_47 ⟨_, rfl, rfl, (by omega)⟩
      · refine r_iconst hC (v := (1)) dX0_heldFrom_42 (by decide) (by decide) (fun x21_ e21 t21 => ?_)
        refine r_goto hC (tgt := 47) dX0_heldFrom_43 (by decide) ?_
        exact r_iret hC hQ hlk hr (by rw [e21]; rfl) (by decide) (by decide) dX0_heldFrom_47 ⟨_, rfl, rfl, (by omega)⟩
    · refine r_iconst hC (v := (0)) dX0_heldFrom_26 (by decide) (by decide) (fun x22_ e22 t22 => ?_)
      exact r_iret hC hQ hlk hr (by rw [e22]; rfl) (by decide) (by decide) dX0_heldFrom_27 ⟨_, rfl, rfl, (by omega)⟩
set_option maxHeartbeats 4000000 in
set_option maxRecDepth 100000 in
theorem a_X8_tapOf (g : GG) (l : Launch) (K len : Nat → Nat) (I : Nat → Nat → Int32) (J : Nat → Nat → Int64) (R : Nat → Nat → Option Nat) (hs : Sf K len I R) (a0 : Nat) (ka0 : K a0 = 9) (x1 : Int32) (h : Nat) (hh : R a0 2 = some h) (kh : K h = 2) (lk : Nat) (hlk2 : R h 0 = some lk) (klk : K lk = 3) (rd : Nat) (hrd : R a0 9 = some rd) (krd : K rd = 4) (lv : Nat) (hlv : R a0 4 = some lv) (klv : K lv = 41) (llv : len lv = 60) (kn : Nat) (hkn : R a0 6 = some kn) (kkn : K kn = 43) (lkn : len kn = 6) (cr : Nat) (hcr : R a0 5 = some cr) (kcr1 : K cr = 44) (lcr : len cr = 6) (hu : UU K R) (D : DD) (E : Nat → Nat → Int) (hc : KC D E a0 h lk rd I R) (p0 : 0 ≤ x1.toInt) (p1 : x1.toInt < D 0 7) : Ct g l yX8_tapOf cX8_tapOf 5 (Option.some Jvm.ClassFile.FieldType.int) rmX8_tapOf [.ref a0, .int x1] (K, len, I, J, R) (pI1 (K, len, I, J, R) (fun r I' => Sf K len I' R ∧ Fr K [(1, 5), (1, 6), (43, 999), (50, 999), (51, 999), (52, 999), (53, 999), (54, 999)] I I' ∧ (KC D E a0 h lk rd I' R) ∧ (r.toInt = TapV D x1.toInt.toNat) ∧ (0 ≤ r.toInt ∧ r.toInt ≤ 60))) := by
  refine Ct_intro (by decide +kernel) (Nat.le_of_ble_eq_true rfl) (fun X hC hL hKK hNm hr hlk hQ => ?_)
  subst hL
  have hC : Cx g X cX8_tapOf "HillTap" 5 rmX8_tapOf := hC
  show P g X 5 0 [(0, .ref a0), (1, .int x1)] [] 0 0 (K, len, I, J, R)
  have hF : Fr K [(1, 5), (1, 6), (43, 999), (50, 999), (51, 999), (52, 999), (53, 999), (54, 999)] I I := Fr.refl
  have ka : KA a0 h lk rd K len R := ⟨⟨_, hs⟩, hu, ka0, kh, klk, krd⟩
  obtain ⟨sd1, sd2, sd3, sd4, sd5, sd7, sd8, sd9⟩ := id hc.2.1
  have d7b := hs.rng kh (k := 6) rfl (x := I h 6) rfl
  have d5b := hs.rng kh (k := 1) rfl (x := I h 1) rfl
  have d8b := hs.rng kh (k := 8) rfl (x := I h 8) rfl
  have b_x1 := ti_rng x1
  refine r_aload_n hC dX8_tapOf_0 0 rfl ?_
  refine r_iload_n hC dX8_tapOf_1 1 rfl ?_
  refine r_callV hC (As := [.int x1]) (rest := []) (ci := 8) (f_X8_courseOf g (xL X) K len I J R hs a0 ka0 x1 h hh kh lk hlk2 klk rd hrd krd lv hlv klv llv kn hkn kkn lkn cr hcr kcr1 lcr hu D E hc (by omega) (by omega)) mT_3_163 mT_1_1 mT_3_160 mT_3_162 mP_26 okX8_courseOf ⟨by decide, by decide⟩ rfl (by show kO (K a0) = _; rw [ka0]; rfl) rfl rfl (Nat.le_of_ble_eq_true rfl) ⟨by decide, by decide⟩ dX8_tapOf_2 (aR1 (F := fun st M => P g X 5 5 [(0, .ref a0), (1, .int x1)] st _ _ M) (M := (K, len, I, J, R)) fun a1_ I1 h1 => ?_)
  obtain ⟨hs1, hf1, k1_0, k1_1, k1_2, k1_3, k1_4⟩ := h1
  show P g X 5 5 [(0, .ref a0), (1, .int x1)] [.ref a1_] _ _ (K, len, I1, J, R)
  have hF1 : Fr K [(1, 5), (1, 6), (43, 999), (50, 999), (51, 999), (52, 999), (53, 999), (54, 999)] I I1 := hF.trans hf1 rfl rfl
  refine r_astore_n hC (lv' := [(2, .ref a1_), (0, .ref a0), (1, .int x1)]) dX8_tapOf_5 (by decide) rfl ?_
  refine r_iconst hC (v := (0)) dX8_tapOf_6 (by decide) (by decide) (fun x2_ e2 t2 => ?_)
  refine r_istore_n hC (lv' := [(3, .int x2_), (2, .ref a1_), (0, .ref a0), (1, .int x1)]) dX8_tapOf_7 (by decide) rfl ?_
  refine r_iconst hC (v := (0)) dX8_tapOf_8 (by decide) (by decide) (fun x3_ e3 t3 => ?_)
  refine r_istore hC (lv' := [(4, .int x3_), (3, .int x2_), (2, .ref a1_), (0, .ref a0), (1, .int x1)]) dX8_tapOf_9 (by decide) rfl ?_
  have LP4 : ∀ (mu : Nat) (x4_4 : Int32) (x4_3 : Int32) (v4_0 : 0 ≤ x4_4.toInt) (v4_1 : x4_4.toInt ≤ 60) (v4_2 : x4_3.toInt = Tp D x1.toInt.toNat x4_4.toInt.toNat) (v4_3 : 0 ≤ x4_3.toInt ∧ x4_3.toInt ≤ x4_4.toInt), (60 - x4_4.toInt).toNat = mu → P g X 5 11 [(0, .ref a0), (1, .int x1), (2, .ref a1_), (3, .int x4_3), (4, .int x4_4)] [] 0 0 (K, len, I1, J, R) := by
    intro mu; induction mu using Nat.strongRecOn with | ind mu ih => ?_
    intro x4_4 x4_3 v4_0 v4_1 v4_2 v4_3 hmu
    have ih4 := ih
    clear ih
    have hmu4 := hmu
    clear hmu
    refine r_iload hC dX8_tapOf_11 4 rfl ?_
    refine r_bipush hC (v := (60)) dX8_tapOf_13 (by decide) (by decide) (fun x5_ e5 t5 => ?_)
    refine r_icmp_ge hC (tgt := 47) dX8_tapOf_15 (by decide) (fun c6 => ?_) (fun c6 => ?_)
    · refine r_iload_n hC dX8_tapOf_47 3 rfl ?_
      exact r_iret hC hQ hlk hr rfl (by decide) (by decide) dX8_tapOf_48 ⟨_, _, rfl, rfl, ⟨hs1, hF1, (by exact k1_2), (by first | (rw [TapV_e (n := x4_4.toInt.toNat) (by omega) (by omega)]; omega) | (rw [TapV_f (n := x4_4.toInt.toNat) (i := x4_4.toInt) (by omega) (by omega) (by omega) (by omega) (by omega)]; omega)), (by omega)⟩⟩
    · refine r_aload_n hC dX8_tapOf_18 0 rfl ?_
      refine r_iload hC dX8_tapOf_19 4 rfl ?_
      refine r_callV hC (As := [.int x4_4]) (rest := []) (ci := 8) (f_X8_isLetting g (xL X) K len I1 J R hs1 a0 ka0 x4_4 h hh kh lk hlk2 klk rd hrd krd lv hlv klv llv kn hkn kkn lkn cr hcr kcr1 lcr hu D E k1_2 (by omega) (by omega)) mT_4_31 mT_1_1 mT_4_28 mT_4_30 mP_38 okX8_isLetting ⟨by decide, by decide⟩ rfl (by show kO (K a0) = _; rw [ka0]; rfl) rfl rfl (Nat.le_of_ble_eq_true rfl) ⟨by decide, by decide⟩ dX8_tapOf_21 (aI0 (F := fun st M => P g X 5 24 [(0, .ref a0), (1, .int x1), (2, .ref a1_), (3, .int x4_3), (4, .int x4_4)] st _ _ M) (M := (K, len, I1, J, R)) fun x7_ h7 => ?_)
      have k7_0 := h7
      clear h7
      show P g X 5 24 [(0, .ref a0), (1, .int x1), (2, .ref a1_), (3, .int x4_3), (4, .int x4_4)] [.int x7_] _ _ (K, len, I1, J, R)
      refine r_if_eq hC (tgt := 41) dX8_tapOf_24 (by decide) (fun c8 => ?_) (fun c8 => ?_)
      · obtain ⟨x9_, e9⟩ : ∃ z : Int32, z = x4_4 + Int32.ofInt (1) := ⟨_, rfl⟩
        refine r_iinc hC (j := 4) (v := x9_) (lv' := [(4, .int x9_), (0, .ref a0), (1, .int x1), (2, .ref a1_), (3, .int x4_3)]) dX8_tapOf_41 rfl (by rw [e9]) (by decide) rfl ?_
        try have t9 : x9_.toInt = x4_4.toInt + (1) := by rw [e9]; exact (ti_add (b := Int32.ofInt (1)) (by show _ ≤ _ + (1 : Int); omega) (by show _ + (1 : Int) ≤ _; omega))
        refine r_goto hC (tgt := 11) dX8_tapOf_44 (by decide) ?_
        refine r_sub [1, 2, 3, 4, 0] rfl ?_
        exact ih4 ((60 - x9_.toInt).toNat) (by omega) x9_ x4_3 (by omega) (by omega) (by first | (rw [show x9_.toInt.toNat = 0 by omega]; show _ = (0 : Int); omega) | (rw [show x9_.toInt.toNat = x4_4.toInt.toNat + 1 by omega, Tp_n (i := x4_4.toInt) (by omega) (by omega)]; omega) | (rw [show x9_.toInt.toNat = x4_4.toInt.toNat + 1 by omega, Tp_h (i := x4_4.toInt) (by omega) (by omega) (by omega) (by omega)]; omega)) (by omega) rfl
      · refine r_aload_n hC dX8_tapOf_27 2 rfl ?_
        refine r_iload hC dX8_tapOf_28 4 rfl ?_
        refine r_callV hC (As := [.int x4_4]) (rest := []) (ci := 0) (f_X0_heldFrom g (xL X) K len I1 J R hs1 a1_ k1_0 x4_4 D x1.toInt.toNat k1_3 (by omega) (by omega)) mT_4_47 mT_1_8 mT_4_44 mT_4_45 mT_4_46 okX0_heldFrom ⟨by decide, by decide⟩ rfl (by show kO (K a1_) = _; rw [k1_0]; rfl) rfl rfl (Nat.le_of_ble_eq_true rfl) ⟨by decide, by decide⟩ dX8_tapOf_30 (aI0 (F := fun st M => P g X 5 33 [(0, .ref a0), (1, .int x1), (2, .ref a1_), (3, .int x4_3), (4, .int x4_4)] st _ _ M) (M := (K, len, I1, J, R)) fun x10_ h10 => ?_)
        have k10_0 := h10
        clear h10
        show P g X 5 33 [(0, .ref a0), (1, .int x1), (2, .ref a1_), (3, .int x4_3), (4, .int x4_4)] [.int x10_] _ _ (K, len, I1, J, R)
        refine r_if_ne hC (tgt := 38) dX8_tapOf_33 (by decide) (fun c11 => ?_) (fun c11 => ?_)
        · obtain ⟨x12_, e12⟩ : ∃ z : Int32, z = x4_3 + Int32.ofInt (1) := ⟨_, rfl⟩
          refine r_iinc hC (j := 3) (v := x12_) (lv' := [(3, .int x12_), (0, .ref a0), (1, .int x1), (2, .ref a1_), (4, .int x4_4)]) dX8_tapOf_38 rfl (by rw [e12]) (by decide) rfl ?_
          try have t12 : x12_.toInt = x4_3.toInt + (1) := by rw [e12]; exact (ti_add (b := Int32.ofInt (1)) (by show _ ≤ _ + (1 : Int); omega) (by show _ + (1 : Int) ≤ _; omega))
          obtain ⟨x13_, e13⟩ : ∃ z : Int32, z = x4_4 + Int32.ofInt (1) := ⟨_, rfl⟩
          refine r_iinc hC (j := 4) (v := x13_) (lv' := [(4, .int x13_), (3, .int x12_), (0, .ref a0), (1, .int x1), (2, .ref a1_)]) dX8_tapOf_41 rfl (by rw [e13]) (by decide) rfl ?_
          try have t13 : x13_.toInt = x4_4.toInt + (1) := by rw [e13]; exact (ti_add (b := Int32.ofInt (1)) (by show _ ≤ _ + (1 : Int); omega) (by show _ + (1 : Int) ≤ _; omega))
          refine r_goto hC (tgt := 11) dX8_tapOf_44 (by decide) ?_
          refine r_sub [2, 3, 4, 1, 0] rfl ?_
          exact ih4 ((60 - x13_.toInt).toNat) (by omega) x13_ x12_ (by omega) (by omega) (by first | (rw [show x13_.toInt.toNat = 0 by omega]; show _ = (0 : Int); omega) | (rw [show x13_.toInt.toNat = x4_4.toInt.toNat + 1 by omega, Tp_n (i := x4_4.toInt) (by omega) (by omega)]; omega) | (rw [show x13_.toInt.toNat = x4_4.toInt.toNat + 1 by omega, Tp_h (i := x4_4.toInt) (by omega) (by omega) (by omega) (by omega)]; omega)) (by omega) rfl
        · refine r_iload_n hC dX8_tapOf_36 3 rfl ?_
          exact r_iret hC hQ hlk hr rfl (by decide) (by decide) dX8_tapOf_37 ⟨_, _, rfl, rfl, ⟨hs1, hF1, (by exact k1_2), (by first | (rw [TapV_e (n := x4_4.toInt.toNat) (by omega) (by omega)]; omega) | (rw [TapV_f (n := x4_4.toInt.toNat) (i := x4_4.toInt) (by omega) (by omega) (by omega) (by omega) (by omega)]; omega)), (by omega)⟩⟩
  refine r_sub [3, 4, 2, 1, 0] rfl ?_
  exact LP4 _ x3_ x2_ (by omega) (by omega) (by first | (rw [show x3_.toInt.toNat = 0 by omega]; show _ = (0 : Int); omega) | (rw [show x3_.toInt.toNat = x4_4.toInt.toNat + 1 by omega, Tp_n (i := x4_4.toInt) (by omega) (by omega)]; omega) | (rw [show x3_.toInt.toNat = x4_4.toInt.toNat + 1 by omega, Tp_h (i := x4_4.toInt) (by omega) (by omega) (by omega) (by omega)]; omega)) (by omega) rfl
set_option maxHeartbeats 4000000 in
set_option maxRecDepth 100000 in
theorem a_X8_fooled (g : GG) (l : Launch) (K len : Nat → Nat) (I : Nat → Nat → Int32) (J : Nat → Nat → Int64) (R : Nat → Nat → Option Nat) (hs : Sf K len I R) (a0 : Nat) (ka0 : K a0 = 9) (x1 : Int32) (h : Nat) (hh : R a0 2 = some h) (kh : K h = 2) (lk : Nat) (hlk2 : R h 0 = some lk) (klk : K lk = 3) (rd : Nat) (hrd : R a0 9 = some rd) (krd : K rd = 4) (lv : Nat) (hlv : R a0 4 = some lv) (klv : K lv = 41) (llv : len lv = 60) (kn : Nat) (hkn : R a0 6 = some kn) (kkn : K kn = 43) (lkn : len kn = 6) (cr : Nat) (hcr : R a0 5 = some cr) (kcr1 : K cr = 44) (lcr : len cr = 6) (hu : UU K R) (D : DD) (E : Nat → Nat → Int) (hc : KC D E a0 h lk rd I R) : Ct g l yX8_fooled cX8_fooled 3 (Option.some Jvm.ClassFile.FieldType.int) rmX8_fooled [.ref a0, .int x1] (K, len, I, J, R) (pI1 (K, len, I, J, R) (fun r I' => Sf K len I' R ∧ Fr K [(1, 5), (1, 6), (9, 12), (43, 999), (50, 999), (51, 999), (52, 999), (53, 999), (54, 999)] I I' ∧ (KC D E a0 h lk rd I' R) ∧ ((1 ≤ D 0 7 ∧ 0 ≤ x1.toInt) ∧ r.toInt = (if Lc D 60 ≤ x1.toInt then (-2 : Int) else Fo (fun s => TapV D s) x1.toInt (D 0 7).toNat) ∨ ¬ (1 ≤ D 0 7 ∧ 0 ≤ x1.toInt) ∧ r.toInt = -1) ∧ ((I' a0 12).toInt ≠ 4))) := by
  refine Ct_intro (by decide +kernel) (Nat.le_of_ble_eq_true rfl) (fun X hC hL hKK hNm hr hlk hQ => ?_)
  subst hL
  have hC : Cx g X cX8_fooled "HillTap" 3 rmX8_fooled := hC
  show P g X 3 0 [(0, .ref a0), (1, .int x1)] [] 0 0 (K, len, I, J, R)
  have hF : Fr K [(1, 5), (1, 6), (9, 12), (43, 999), (50, 999), (51, 999), (52, 999), (53, 999), (54, 999)] I I := Fr.refl
  have ka : KA a0 h lk rd K len R := ⟨⟨_, hs⟩, hu, ka0, kh, klk, krd⟩
  obtain ⟨sd1, sd2, sd3, sd4, sd5, sd7, sd8, sd9⟩ := id hc.2.1
  have d7b := hs.rng kh (k := 6) rfl (x := I h 6) rfl
  have d5b := hs.rng kh (k := 1) rfl (x := I h 1) rfl
  have d8b := hs.rng kh (k := 8) rfl (x := I h 8) rfl
  have b_x1 := ti_rng x1
  refine r_aload_n hC dX8_fooled_0 0 rfl ?_
  refine r_callV hC (As := []) (rest := []) (ci := 8) (f_X8_noHill g (xL X) K len I J R hs a0 ka0 h hh kh) mT_3_131 mT_1_1 mT_3_128 mT_3_130 mP_22 okX8_noHill ⟨by decide, by decide⟩ rfl (by show kO (K a0) = _; rw [ka0]; rfl) rfl rfl (Nat.le_of_ble_eq_true rfl) ⟨by decide, by decide⟩ dX8_fooled_1 (aI0 (F := fun st M => P g X 3 4 [(0, .ref a0), (1, .int x1)] st _ _ M) (M := (K, len, I, J, R)) fun x1_ h1 => ?_)
  have k1_0 := h1
  clear h1
  show P g X 3 4 [(0, .ref a0), (1, .int x1)] [.int x1_] _ _ (K, len, I, J, R)
  rcases k1_0 with ⟨hr1, hw1⟩ | ⟨hr1, hw1⟩
  · refine r_if_eq hC (tgt := 13) dX8_fooled_4 (by decide) (fun c2 => ?_) (fun c2 => ?_)
    · exfalso; omega
    refine r_aload_n hC dX8_fooled_7 0 rfl ?_
    refine r_iconst hC (v := (1)) dX8_fooled_8 (by decide) (by decide) (fun x3_ e3 t3 => ?_)
    refine r_callV hC (As := [.int x3_]) (rest := []) (ci := 8) (c_X8_refuse g (xL X) K len I J R hs a0 ka0 x3_) mT_2_133 mT_1_1 mT_2_130 mT_2_132 mP_0 okX8_refuse ⟨by decide, by decide⟩ rfl (by show kO (K a0) = _; rw [ka0]; rfl) rfl rfl (Nat.le_of_ble_eq_true rfl) ⟨by decide, by decide⟩ dX8_fooled_9 (aI1 (F := fun st M => P g X 3 12 [(0, .ref a0), (1, .int x1)] st _ _ M) (M := (K, len, I, J, R)) fun x4_ I4 h4 => ?_)
    obtain ⟨hs4, hf4, k4_0, k4_1⟩ := h4
    show P g X 3 12 [(0, .ref a0), (1, .int x1)] [.int x4_] _ _ (K, len, I4, J, R)
    have hF4 : Fr K [(1, 5), (1, 6), (9, 12), (43, 999), (50, 999), (51, 999), (52, 999), (53, 999), (54, 999)] I I4 := hF.trans hf4 rfl rfl
    have hc4 := hc.mv ka hf4 rfl
    exact r_iret hC hQ hlk hr rfl (by decide) (by decide) dX8_fooled_12 ⟨_, _, rfl, rfl, ⟨hs4, hF4, (by exact hc4), (by first | exact Or.inr ⟨by omega, by omega⟩ | exact Or.inl ⟨by omega, (congrArg Int32.toInt k4_0).trans (by first | (rw [if_pos (by omega)]; omega) | (rw [if_neg (by omega), Fo_hit (k := NOx_l2.toInt.toNat) NOx_v40_2 (show TapV D _ = _ by omega) (by omega)]; omega) | (rw [if_neg (by omega), show (D 0 7).toNat = NOx_l2.toInt.toNat by omega, NOx_v40_2]; omega))⟩), (by omega)⟩⟩
  · refine r_if_eq hC (tgt := 13) dX8_fooled_4 (by decide) (fun c5 => ?_) (fun c5 => ?_)
    rotate_left
    · exfalso; omega
    refine r_iload_n hC dX8_fooled_13 1 rfl ?_
    refine r_if_ge hC (tgt := 23) dX8_fooled_14 (by decide) (fun c6 => ?_) (fun c6 => ?_)
    · refine r_aload_n hC dX8_fooled_23 0 rfl ?_
      refine r_callV hC (As := []) (rest := []) (ci := 8) (f_X8_countLettings g (xL X) K len I J R hs a0 ka0 h hh kh lk hlk2 klk rd hrd krd lv hlv klv llv kn hkn kkn lkn cr hcr kcr1 lcr hu D E hc (by omega)) mT_4_27 mT_1_1 mT_4_24 mT_4_26 mP_37 okX8_countLettings ⟨by decide, by decide⟩ rfl (by show kO (K a0) = _; rw [ka0]; rfl) rfl rfl (Nat.le_of_ble_eq_true rfl) ⟨by decide, by decide⟩ dX8_fooled_24 (aI0 (F := fun st M => P g X 3 27 [(0, .ref a0), (1, .int x1)] st _ _ M) (M := (K, len, I, J, R)) fun x7_ h7 => ?_)
      obtain ⟨k7_0, k7_1⟩ := h7
      show P g X 3 27 [(0, .ref a0), (1, .int x1)] [.int x7_] _ _ (K, len, I, J, R)
      refine r_iload_n hC dX8_fooled_27 1 rfl ?_
      refine r_icmp_gt hC (tgt := 38) dX8_fooled_28 (by decide) (fun c8 => ?_) (fun c8 => ?_)
      · refine r_iconst hC (v := (0)) dX8_fooled_38 (by decide) (by decide) (fun x9_ e9 t9 => ?_)
        refine r_istore_n hC (lv' := [(2, .int x9_), (0, .ref a0), (1, .int x1)]) dX8_fooled_39 (by decide) rfl ?_
        have LP10 : ∀ (mu : Nat) (x10_2 : Int32) (I10 : Nat → Nat → Int32) (hs10 : Sf K len I10 R) (hF10 : Fr K [(1, 5), (1, 6), (9, 12), (43, 999), (50, 999), (51, 999), (52, 999), (53, 999), (54, 999)] I I10) (v10_0 : 0 ≤ x10_2.toInt) (v10_1 : x10_2.toInt ≤ D 0 7) (v10_2 : Fo (fun s => TapV D s) x1.toInt x10_2.toInt.toNat = -2) (v10_3 : KC D E a0 h lk rd I10 R), (6 - x10_2.toInt).toNat = mu → P g X 3 40 [(0, .ref a0), (1, .int x1), (2, .int x10_2)] [] 0 0 (K, len, I10, J, R) := by
          intro mu; induction mu using Nat.strongRecOn with | ind mu ih => ?_
          intro x10_2 I10 hs10 hF10 v10_0 v10_1 v10_2 v10_3 hmu
          have ih10 := ih
          clear ih
          have hmu10 := hmu
          clear hmu
          refine r_iload_n hC dX8_fooled_40 2 rfl ?_
          refine r_aload_n hC dX8_fooled_41 0 rfl ?_
          refine r_getr hC 2 (ci := 8) rfl u8_in (by decide) mT_2_80 dX8_fooled_42 ka0 rfl rfl hh ?_
          refine r_geti hC 6 (ci := 1) rfl u1_in (by decide) mT_1_202 dX8_fooled_45 kh rfl rfl (fun x11_ e11 => ?_)
          have r11 := hs10.rng kh rfl e11
          have f11 : x11_.toInt = (I10 h 6).toInt := by rw [e11]
          have sc11 : x11_.toInt = D 0 7 := by rw [e11]; exact v10_3.2.1.2.2.2.2.2.1
          refine r_icmp_ge hC (tgt := 72) dX8_fooled_48 (by decide) (fun c12 => ?_) (fun c12 => ?_)
          · refine r_aload_n hC dX8_fooled_72 0 rfl ?_
            refine r_bipush hC (v := (-2)) dX8_fooled_73 (by decide) (by decide) (fun x13_ e13 t13 => ?_)
            refine r_callV hC (As := [.int x13_]) (rest := []) (ci := 8) (c_X8_answer g (xL X) K len I10 J R hs10 a0 ka0 x13_) mT_3_115 mT_1_1 mT_3_112 mT_3_114 mP_21 okX8_answer ⟨by decide, by decide⟩ rfl (by show kO (K a0) = _; rw [ka0]; rfl) rfl rfl (Nat.le_of_ble_eq_true rfl) ⟨by decide, by decide⟩ dX8_fooled_75 (aI1 (F := fun st M => P g X 3 78 [(0, .ref a0), (1, .int x1), (2, .int x10_2)] st _ _ M) (M := (K, len, I10, J, R)) fun x14_ I14 h14 => ?_)
            obtain ⟨hs14, hf14, k14_0, k14_1⟩ := h14
            show P g X 3 78 [(0, .ref a0), (1, .int x1), (2, .int x10_2)] [.int x14_] _ _ (K, len, I14, J, R)
            have hF14 : Fr K [(1, 5), (1, 6), (9, 12), (43, 999), (50, 999), (51, 999), (52, 999), (53, 999), (54, 999)] I I14 := hF10.trans hf14 rfl rfl
            have hc14 := v10_3.mv ka hf14 rfl
            exact r_iret hC hQ hlk hr rfl (by decide) (by decide) dX8_fooled_78 ⟨_, _, rfl, rfl, ⟨hs14, hF14, (by exact hc14), (by first | exact Or.inr ⟨by omega, by omega⟩ | exact Or.inl ⟨by omega, (congrArg Int32.toInt k14_0).trans (by first | (rw [if_pos (by omega)]; omega) | (rw [if_neg (by omega), Fo_hit (k := x10_2.toInt.toNat) v10_2 (show TapV D _ = _ by omega) (by omega)]; omega) | (rw [if_neg (by omega), show (D 0 7).toNat = x10_2.toInt.toNat by omega, v10_2]; omega))⟩), (by omega)⟩⟩
          · refine r_aload_n hC dX8_fooled_51 0 rfl ?_
            refine r_iload_n hC dX8_fooled_52 2 rfl ?_
            refine r_callV hC (As := [.int x10_2]) (rest := []) (ci := 8) (a_X8_tapOf g (xL X) K len I10 J R hs10 a0 ka0 x10_2 h hh kh lk hlk2 klk rd hrd krd lv hlv klv llv kn hkn kkn lkn cr hcr kcr1 lcr hu D E v10_3 (by omega) (by omega)) mT_4_43 mT_1_1 mT_4_40 mT_4_42 mP_40 okX8_tapOf ⟨by decide, by decide⟩ rfl (by show kO (K a0) = _; rw [ka0]; rfl) rfl rfl (Nat.le_of_ble_eq_true rfl) ⟨by decide, by decide⟩ dX8_fooled_53 (aI1 (F := fun st M => P g X 3 56 [(0, .ref a0), (1, .int x1), (2, .int x10_2)] st _ _ M) (M := (K, len, I10, J, R)) fun x15_ I15 h15 => ?_)
            obtain ⟨hs15, hf15, k15_0, k15_1, k15_2⟩ := h15
            show P g X 3 56 [(0, .ref a0), (1, .int x1), (2, .int x10_2)] [.int x15_] _ _ (K, len, I15, J, R)
            have hF15 : Fr K [(1, 5), (1, 6), (9, 12), (43, 999), (50, 999), (51, 999), (52, 999), (53, 999), (54, 999)] I I15 := hF10.trans hf15 rfl rfl
            refine r_iload_n hC dX8_fooled_56 1 rfl ?_
            refine r_icmp_ne hC (tgt := 66) dX8_fooled_57 (by decide) (fun c16 => ?_) (fun c16 => ?_)
            · obtain ⟨x17_, e17⟩ : ∃ z : Int32, z = x10_2 + Int32.ofInt (1) := ⟨_, rfl⟩
              refine r_iinc hC (j := 2) (v := x17_) (lv' := [(2, .int x17_), (0, .ref a0), (1, .int x1)]) dX8_fooled_66 rfl (by rw [e17]) (by decide) rfl ?_
              try have t17 : x17_.toInt = x10_2.toInt + (1) := by rw [e17]; exact (ti_add (b := Int32.ofInt (1)) (by show _ ≤ _ + (1 : Int); omega) (by show _ + (1 : Int) ≤ _; omega))
              refine r_goto hC (tgt := 40) dX8_fooled_69 (by decide) ?_
              refine r_sub [1, 2, 0] rfl ?_
              exact ih10 ((6 - x17_.toInt).toNat) (by omega) x17_ I15 hs15 hF15 (by omega) (by omega) (by first | (rw [show x17_.toInt.toNat = 0 by omega]; rfl) | (rw [show x17_.toInt.toNat = x10_2.toInt.toNat + 1 by omega]; exact Fo_n v10_2 (show TapV D _ ≠ _ by omega))) (by exact k15_0) rfl
            · refine r_aload_n hC dX8_fooled_60 0 rfl ?_
              refine r_iload_n hC dX8_fooled_61 2 rfl ?_
              refine r_callV hC (As := [.int x10_2]) (rest := []) (ci := 8) (c_X8_answer g (xL X) K len I15 J R hs15 a0 ka0 x10_2) mT_3_115 mT_1_1 mT_3_112 mT_3_114 mP_21 okX8_answer ⟨by decide, by decide⟩ rfl (by show kO (K a0) = _; rw [ka0]; rfl) rfl rfl (Nat.le_of_ble_eq_true rfl) ⟨by decide, by decide⟩ dX8_fooled_62 (aI1 (F := fun st M => P g X 3 65 [(0, .ref a0), (1, .int x1), (2, .int x10_2)] st _ _ M) (M := (K, len, I15, J, R)) fun x18_ I18 h18 => ?_)
              obtain ⟨hs18, hf18, k18_0, k18_1⟩ := h18
              show P g X 3 65 [(0, .ref a0), (1, .int x1), (2, .int x10_2)] [.int x18_] _ _ (K, len, I18, J, R)
              have hF18 : Fr K [(1, 5), (1, 6), (9, 12), (43, 999), (50, 999), (51, 999), (52, 999), (53, 999), (54, 999)] I I18 := hF15.trans hf18 rfl rfl
              have hc18 := k15_0.mv ka hf18 rfl
              exact r_iret hC hQ hlk hr rfl (by decide) (by decide) dX8_fooled_65 ⟨_, _, rfl, rfl, ⟨hs18, hF18, (by exact hc18), (by first | exact Or.inr ⟨by omega, by omega⟩ | exact Or.inl ⟨by omega, (congrArg Int32.toInt k18_0).trans (by first | (rw [if_pos (by omega)]; omega) | (rw [if_neg (by omega), Fo_hit (k := x10_2.toInt.toNat) v10_2 (show TapV D _ = _ by omega) (by omega)]; omega) | (rw [if_neg (by omega), show (D 0 7).toNat = x10_2.toInt.toNat by omega, v10_2]; omega))⟩), (by omega)⟩⟩
        refine r_sub [1, 2, 0] rfl ?_
        exact LP10 _ x9_ I hs hF (by omega) (by omega) (by first | (rw [show x9_.toInt.toNat = 0 by omega]; rfl) | (rw [show x9_.toInt.toNat = x10_2.toInt.toNat + 1 by omega]; exact Fo_n v10_2 (show TapV D _ ≠ _ by omega))) (by exact hc) rfl
      · refine r_aload_n hC dX8_fooled_31 0 rfl ?_
        refine r_bipush hC (v := (-2)) dX8_fooled_32 (by decide) (by decide) (fun x19_ e19 t19 => ?_)
        refine r_callV hC (As := [.int x19_]) (rest := []) (ci := 8) (c_X8_answer g (xL X) K len I J R hs a0 ka0 x19_) mT_3_115 mT_1_1 mT_3_112 mT_3_114 mP_21 okX8_answer ⟨by decide, by decide⟩ rfl (by show kO (K a0) = _; rw [ka0]; rfl) rfl rfl (Nat.le_of_ble_eq_true rfl) ⟨by decide, by decide⟩ dX8_fooled_34 (aI1 (F := fun st M => P g X 3 37 [(0, .ref a0), (1, .int x1)] st _ _ M) (M := (K, len, I, J, R)) fun x20_ I20 h20 => ?_)
        obtain ⟨hs20, hf20, k20_0, k20_1⟩ := h20
        show P g X 3 37 [(0, .ref a0), (1, .int x1)] [.int x20_] _ _ (K, len, I20, J, R)
        have hF20 : Fr K [(1, 5), (1, 6), (9, 12), (43, 999), (50, 999), (51, 999), (52, 999), (53, 999), (54, 999)] I I20 := hF.trans hf20 rfl rfl
        have hc20 := hc.mv ka hf20 rfl
        exact r_iret hC hQ hlk hr rfl (by decide) (by decide) dX8_fooled_37 ⟨_, _, rfl, rfl, ⟨hs20, hF20, (by exact hc20), (by first | exact Or.inr ⟨by omega, by omega⟩ | exact Or.inl ⟨by omega, (congrArg Int32.toInt k20_0).trans (by first | (rw [if_pos (by omega)]; omega) | (rw [if_neg (by omega), Fo_hit (k := NOx_l2.toInt.toNat) NOx_v40_2 (show TapV D _ = _ by omega) (by omega)]; omega) | (rw [if_neg (by omega), show (D 0 7).toNat = NOx_l2.toInt.toNat by omega, NOx_v40_2]; omega))⟩), (by omega)⟩⟩
    · refine r_aload_n hC dX8_fooled_17 0 rfl ?_
      refine r_iconst hC (v := (2)) dX8_fooled_18 (by decide) (by decide) (fun x21_ e21 t21 => ?_)
      refine r_callV hC (As := [.int x21_]) (rest := []) (ci := 8) (c_X8_refuse g (xL X) K len I J R hs a0 ka0 x21_) mT_2_133 mT_1_1 mT_2_130 mT_2_132 mP_0 okX8_refuse ⟨by decide, by decide⟩ rfl (by show kO (K a0) = _; rw [ka0]; rfl) rfl rfl (Nat.le_of_ble_eq_true rfl) ⟨by decide, by decide⟩ dX8_fooled_19 (aI1 (F := fun st M => P g X 3 22 [(0, .ref a0), (1, .int x1)] st _ _ M) (M := (K, len, I, J, R)) fun x22_ I22 h22 => ?_)
      obtain ⟨hs22, hf22, k22_0, k22_1⟩ := h22
      show P g X 3 22 [(0, .ref a0), (1, .int x1)] [.int x22_] _ _ (K, len, I22, J, R)
      have hF22 : Fr K [(1, 5), (1, 6), (9, 12), (43, 999), (50, 999), (51, 999), (52, 999), (53, 999), (54, 999)] I I22 := hF.trans hf22 rfl rfl
      have hc22 := hc.mv ka hf22 rfl
      exact r_iret hC hQ hlk hr rfl (by decide) (by decide) dX8_fooled_22 ⟨_, _, rfl, rfl, ⟨hs22, hF22, (by exact hc22), (by first | exact Or.inr ⟨by omega, by omega⟩ | exact Or.inl ⟨by omega, (congrArg Int32.toInt k22_0).trans (by first | (rw [if_pos (by omega)]; omega) | (rw [if_neg (by omega), Fo_hit (k := NOx_l2.toInt.toNat) NOx_v40_2 (show TapV D _ = _ by omega) (by omega)]; omega) | (rw [if_neg (by omega), show (D 0 7).toNat = NOx_l2.toInt.toNat by omega, NOx_v40_2]; omega))⟩), (by omega)⟩⟩

