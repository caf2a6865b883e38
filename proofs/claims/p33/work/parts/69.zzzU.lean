def Lg (D : DD) (s : Nat) : Nat → Int
  | 0 => 0
  | d + 1 => Lg D s d + (if Tg D s (Ad D s (LP1 D) 1) ((d : Int) - 1) < Tg D s (Ad D s (LP1 D) 1) (d : Int) then 1 else 0)
def Lf (D : DD) (s : Nat) (i : Int) (d : Nat) : Int := if Tg D s (Ad D s (LP1 D) 1) ((d : Int) - 1) < Tg D s (Ad D s (LP1 D) 1) (d : Int) ∧ Lg D s d = i then 1 else 0
section LED
variable {D : DD} {s n : Nat} {i y : Int}
theorem Lg_t (hn : (n : Int) = y) (h : Tg D s (Ad D s (LP1 D) 1) (y - 1) < Tg D s (Ad D s (LP1 D) 1) y) : Lg D s (n + 1) = Lg D s n + 1 := by subst hn; simp only [Lg]; rw [if_pos h]
theorem Lg_n (hn : (n : Int) = y) (h : ¬ (Tg D s (Ad D s (LP1 D) 1) (y - 1) < Tg D s (Ad D s (LP1 D) 1) y)) : Lg D s (n + 1) = Lg D s n := by subst hn; simp only [Lg]; rw [if_neg h]; omega
theorem Lf_t (hn : (n : Int) = y) (h : Tg D s (Ad D s (LP1 D) 1) (y - 1) < Tg D s (Ad D s (LP1 D) 1) y) (h2 : Lg D s n = i) : Lf D s i n = 1 := by subst hn; unfold Lf; rw [if_pos ⟨h, h2⟩]
theorem Lf_n (hn : (n : Int) = y) (h : ¬ (Tg D s (Ad D s (LP1 D) 1) (y - 1) < Tg D s (Ad D s (LP1 D) 1) y) ∨ Lg D s n ≠ i) : Lf D s i n ≠ 1 := by
  subst hn; unfold Lf; rw [if_neg (fun z => by rcases h with h | h; exact h z.1; exact h z.2)]; decide
end LED
set_option maxHeartbeats 4000000 in
set_option maxRecDepth 100000 in
theorem a_X8_led (g : GG) (l : Launch) (hl : l.stackTraces = false) (K len : Nat → Nat) (I : Nat → Nat → Int32) (J : Nat → Nat → Int64) (R : Nat → Nat → Option Nat) (hs : Sf K len I R) (a0 : Nat) (ka0 : K a0 = 9) (x1 : Int32) (x2 : Int32) (h : Nat) (hh : R a0 2 = some h) (kh : K h = 2) (lk : Nat) (hlk2 : R h 0 = some lk) (klk : K lk = 3) (rd : Nat) (hrd : R a0 9 = some rd) (krd : K rd = 4) (lv : Nat) (hlv : R a0 4 = some lv) (klv : K lv = 41) (llv : len lv = 60) (kn : Nat) (hkn : R a0 6 = some kn) (kkn : K kn = 43) (lkn : len kn = 6) (cr : Nat) (hcr : R a0 5 = some cr) (kcr1 : K cr = 44) (lcr : len cr = 6) (hu : UU K R) (D : DD) (E : Nat → Nat → Int) (hc : KC D E a0 h lk rd I R) : CtX g l yX8_led cX8_led 6 (Option.some Jvm.ClassFile.FieldType.int) rmX8_led [.ref a0, .int x1, .int x2] (K, len, I, J, R) (pI1 (K, len, I, J, R) (fun r I' => Sf K len I' R ∧ Fr K [(1, 5), (1, 6), (43, 999), (50, 999), (51, 999), (52, 999), (53, 999), (54, 999)] I I' ∧ (KC D E a0 h lk rd I' R) ∧ ((0 ≤ x1.toInt ∧ x1.toInt < D 0 7) ∧ 0 ≤ r.toInt ∧ r.toInt = Fo (Lf D x1.toInt.toNat x2.toInt) 1 60))) (fun M' => ∃ I', M' = (K, len, I', J, R) ∧ Sf K len I' R ∧ Fr K [(1, 5), (1, 6), (43, 999), (50, 999), (51, 999), (52, 999), (53, 999), (54, 999)] I I' ∧ KC D E a0 h lk rd I' R ∧ ¬ ((0 ≤ x1.toInt ∧ x1.toInt < D 0 7) ∧ Fo (Lf D x1.toInt.toNat x2.toInt) 1 60 ≠ -2)) := by
  refine Ct_introX (by decide +kernel) (Nat.le_of_ble_eq_true rfl) (fun X hC hL hKK hNm hr hlk hcs hQ hT => ?_)
  subst hL
  have hC : Cx g X cX8_led "HillTap" 6 rmX8_led := hC
  show P g X 6 0 [(0, .ref a0), (1, .int x1), (2, .int x2)] [] 0 0 (K, len, I, J, R)
  have hF : Fr K [(1, 5), (1, 6), (43, 999), (50, 999), (51, 999), (52, 999), (53, 999), (54, 999)] I I := Fr.refl
  have ka : KA a0 h lk rd K len R := ⟨⟨_, hs⟩, hu, ka0, kh, klk, krd⟩
  obtain ⟨sd1, sd2, sd3, sd4, sd5, sd7, sd8, sd9⟩ := id hc.2.1
  have d7b := hs.rng kh (k := 6) rfl (x := I h 6) rfl
  have d5b := hs.rng kh (k := 1) rfl (x := I h 1) rfl
  have d8b := hs.rng kh (k := 8) rfl (x := I h 8) rfl
  have b_x1 := ti_rng x1
  have b_x2 := ti_rng x2
  refine r_aload_n hC dX8_led_0 0 rfl ?_
  refine r_iload_n hC dX8_led_1 1 rfl ?_
  refine r_callV hC (As := [.int x1]) (rest := []) (ci := 8) (f_X8_isStory g (xL X) K len I J R hs a0 ka0 x1 h hh kh) mT_3_155 mT_1_1 mT_3_152 mT_3_154 mP_24 okX8_isStory ⟨by decide, by decide⟩ rfl (by show kO (K a0) = _; rw [ka0]; rfl) rfl rfl (Nat.le_of_ble_eq_true rfl) ⟨by decide, by decide⟩ dX8_led_2 (aI0 (F := fun st M => P g X 6 5 [(0, .ref a0), (1, .int x1), (2, .int x2)] st _ _ M) (M := (K, len, I, J, R)) fun x1_ h1 => ?_)
  have k1_0 := h1
  clear h1
  show P g X 6 5 [(0, .ref a0), (1, .int x1), (2, .int x2)] [.int x1_] _ _ (K, len, I, J, R)
  rcases k1_0 with ⟨hr1, hw1⟩ | ⟨hr1, hw1⟩
  · refine r_if_ne hC (tgt := 19) dX8_led_5 (by decide) (fun c2 => ?_) (fun c2 => ?_)
    rotate_left
    · exfalso; omega
    refine r_aload_n hC dX8_led_19 0 rfl ?_
    refine r_iload_n hC dX8_led_20 1 rfl ?_
    refine r_callV hC (As := [.int x1]) (rest := []) (ci := 8) (f_X8_courseOf g (xL X) K len I J R hs a0 ka0 x1 h hh kh lk hlk2 klk rd hrd krd lv hlv klv llv kn hkn kkn lkn cr hcr kcr1 lcr hu D E hc (by omega) (by omega)) mT_3_163 mT_1_1 mT_3_160 mT_3_162 mP_26 okX8_courseOf ⟨by decide, by decide⟩ rfl (by show kO (K a0) = _; rw [ka0]; rfl) rfl rfl (Nat.le_of_ble_eq_true rfl) ⟨by decide, by decide⟩ dX8_led_21 (aR1 (F := fun st M => P g X 6 24 [(0, .ref a0), (1, .int x1), (2, .int x2)] st _ _ M) (M := (K, len, I, J, R)) fun a3_ I3 h3 => ?_)
    obtain ⟨hs3, hf3, k3_0, k3_1, k3_2, k3_3, k3_4⟩ := h3
    show P g X 6 24 [(0, .ref a0), (1, .int x1), (2, .int x2)] [.ref a3_] _ _ (K, len, I3, J, R)
    have hF3 : Fr K [(1, 5), (1, 6), (43, 999), (50, 999), (51, 999), (52, 999), (53, 999), (54, 999)] I I3 := hF.trans hf3 rfl rfl
    refine r_astore_n hC (lv' := [(3, .ref a3_), (0, .ref a0), (1, .int x1), (2, .int x2)]) dX8_led_24 (by decide) rfl ?_
    refine r_iconst hC (v := (0)) dX8_led_25 (by decide) (by decide) (fun x4_ e4 t4 => ?_)
    refine r_istore hC (lv' := [(4, .int x4_), (3, .ref a3_), (0, .ref a0), (1, .int x1), (2, .int x2)]) dX8_led_26 (by decide) rfl ?_
    refine r_iconst hC (v := (0)) dX8_led_28 (by decide) (by decide) (fun x5_ e5 t5 => ?_)
    refine r_istore hC (lv' := [(5, .int x5_), (4, .int x4_), (3, .ref a3_), (0, .ref a0), (1, .int x1), (2, .int x2)]) dX8_led_29 (by decide) rfl ?_
    have LP6 : ∀ (mu : Nat) (x6_5 : Int32) (x6_4 : Int32) (v6_0 : 0 ≤ x6_5.toInt) (v6_1 : x6_5.toInt ≤ 60) (v6_2 : x6_4.toInt = Lg D x1.toInt.toNat x6_5.toInt.toNat) (v6_3 : 0 ≤ x6_4.toInt ∧ x6_4.toInt ≤ x6_5.toInt) (v6_4 : Fo (Lf D x1.toInt.toNat x2.toInt) 1 x6_5.toInt.toNat = -2), (60 - x6_5.toInt).toNat = mu → P g X 6 31 [(0, .ref a0), (1, .int x1), (2, .int x2), (3, .ref a3_), (4, .int x6_4), (5, .int x6_5)] [] 0 0 (K, len, I3, J, R) := by
      intro mu; induction mu using Nat.strongRecOn with | ind mu ih => ?_
      intro x6_5 x6_4 v6_0 v6_1 v6_2 v6_3 v6_4 hmu
      have ih6 := ih
      clear ih
      have hmu6 := hmu
      clear hmu
      refine r_iload hC dX8_led_31 5 rfl ?_
      refine r_bipush hC (v := (60)) dX8_led_33 (by decide) (by decide) (fun x7_ e7 t7 => ?_)
      refine r_icmp_ge hC (tgt := 72) dX8_led_35 (by decide) (fun c8 => ?_) (fun c8 => ?_)
      · exact r_throw hC hcs hQ hlk hT hl (i := 30) (is := 272) (by decide) rfl dX8_led_72 dX8_led_75 dX8_led_76 dX8_led_79 dX8_led_82 (by decide) (by decide) (by decide) (by decide) ⟨_, rfl, hs3, hF3, k3_2, (fun z => z.2 (by rw [show 60 = x6_5.toInt.toNat by omega]; exact v6_4))⟩
      · refine r_aload_n hC dX8_led_38 3 rfl ?_
        obtain ⟨a9_, hb9, hk9, hn9⟩ := hs3.row k3_0 3 53 60 (by decide) (by decide)
        refine r_getr hC 3 (ci := 0) rfl u0_in (by decide) mT_2_33 dX8_led_39 k3_0 rfl rfl hb9 ?_
        refine r_iload hC dX8_led_42 5 rfl ?_
        refine x_iaload hC hk9 hn9 (by decide) rfl rfl dX8_led_44 (by omega) (by omega) (fun x10_ e10 => ?_)
        have q10 : x10_.toInt = Ps (SV D x1.toInt.toNat (Ad D x1.toInt.toNat (LP1 D) 1) x6_5.toInt.toNat) (D 0 5).toNat := by rw [e10, clx (i := x6_5) rfl (by omega)]; exact k3_3.tog hs k3_0 hb9 (by omega)
        refine r_aload_n hC dX8_led_45 3 rfl ?_
        refine r_iload hC dX8_led_46 5 rfl ?_
        refine r_callV hC (As := [.int x6_5]) (rest := [.int x10_]) (ci := 0) (f_X0_togetherAhead g (xL X) K len I3 J R hs3 a3_ k3_0 x6_5 D x1.toInt.toNat k3_3 (by omega)) mT_4_51 mT_1_8 mT_4_227 mT_4_49 mT_4_50 okX0_togetherAhead ⟨by decide, by decide⟩ rfl (by show kO (K a3_) = _; rw [k3_0]; rfl) rfl rfl (Nat.le_of_ble_eq_true rfl) ⟨by decide, by decide⟩ dX8_led_48 (aI0 (F := fun st M => P g X 6 51 [(0, .ref a0), (1, .int x1), (2, .int x2), (3, .ref a3_), (4, .int x6_4), (5, .int x6_5)] st _ _ M) (M := (K, len, I3, J, R)) fun x11_ h11 => ?_)
        have k11_0 := h11
        clear h11
        show P g X 6 51 [(0, .ref a0), (1, .int x1), (2, .int x2), (3, .ref a3_), (4, .int x6_4), (5, .int x6_5)] [.int x11_, .int x10_] _ _ (K, len, I3, J, R)
        have qg : x10_.toInt = Tg D x1.toInt.toNat (Ad D x1.toInt.toNat (LP1 D) 1) x6_5.toInt := by rw [Tg_p (by omega)]; exact q10
        refine r_icmp_le hC (tgt := 66) dX8_led_51 (by decide) (fun c12 => ?_) (fun c12 => ?_)
        · obtain ⟨x13_, e13⟩ : ∃ z : Int32, z = x6_5 + Int32.ofInt (1) := ⟨_, rfl⟩
          refine r_iinc hC (j := 5) (v := x13_) (lv' := [(5, .int x13_), (0, .ref a0), (1, .int x1), (2, .int x2), (3, .ref a3_), (4, .int x6_4)]) dX8_led_66 rfl (by rw [e13]) (by decide) rfl ?_
          try have t13 : x13_.toInt = x6_5.toInt + (1) := by rw [e13]; exact (ti_add (b := Int32.ofInt (1)) (by show _ ≤ _ + (1 : Int); omega) (by show _ + (1 : Int) ≤ _; omega))
          refine r_goto hC (tgt := 31) dX8_led_69 (by decide) ?_
          refine r_sub [1, 2, 3, 4, 5, 0] rfl ?_
          exact ih6 ((60 - x13_.toInt).toNat) (by omega) x13_ x6_4 (by omega) (by omega) (by first | (rw [show x13_.toInt.toNat = 0 by omega]; show _ = (0 : Int); omega) | (rw [show x13_.toInt.toNat = x6_5.toInt.toNat + 1 by omega, Lg_t (y := x6_5.toInt) (by omega) (by omega)]; omega) | (rw [show x13_.toInt.toNat = x6_5.toInt.toNat + 1 by omega, Lg_n (y := x6_5.toInt) (by omega) (by omega)]; omega)) (by omega) (by first | (rw [show x13_.toInt.toNat = 0 by omega]; rfl) | (rw [show x13_.toInt.toNat = x6_5.toInt.toNat + 1 by omega]; exact Fo_n v6_4 (Lf_n (y := x6_5.toInt) (by omega) (by first | exact Or.inl (by omega) | exact Or.inr (by omega))))) rfl
        · refine r_iload hC dX8_led_54 4 rfl ?_
          refine r_iload_n hC dX8_led_56 2 rfl ?_
          refine r_icmp_ne hC (tgt := 63) dX8_led_57 (by decide) (fun c14 => ?_) (fun c14 => ?_)
          · obtain ⟨x15_, e15⟩ : ∃ z : Int32, z = x6_4 + Int32.ofInt (1) := ⟨_, rfl⟩
            refine r_iinc hC (j := 4) (v := x15_) (lv' := [(4, .int x15_), (0, .ref a0), (1, .int x1), (2, .int x2), (3, .ref a3_), (5, .int x6_5)]) dX8_led_63 rfl (by rw [e15]) (by decide) rfl ?_
            try have t15 : x15_.toInt = x6_4.toInt + (1) := by rw [e15]; exact (ti_add (b := Int32.ofInt (1)) (by show _ ≤ _ + (1 : Int); omega) (by show _ + (1 : Int) ≤ _; omega))
            obtain ⟨x16_, e16⟩ : ∃ z : Int32, z = x6_5 + Int32.ofInt (1) := ⟨_, rfl⟩
            refine r_iinc hC (j := 5) (v := x16_) (lv' := [(5, .int x16_), (4, .int x15_), (0, .ref a0), (1, .int x1), (2, .int x2), (3, .ref a3_)]) dX8_led_66 rfl (by rw [e16]) (by decide) rfl ?_
            try have t16 : x16_.toInt = x6_5.toInt + (1) := by rw [e16]; exact (ti_add (b := Int32.ofInt (1)) (by show _ ≤ _ + (1 : Int); omega) (by show _ + (1 : Int) ≤ _; omega))
            refine r_goto hC (tgt := 31) dX8_led_69 (by decide) ?_
            refine r_sub [2, 3, 4, 5, 1, 0] rfl ?_
            exact ih6 ((60 - x16_.toInt).toNat) (by omega) x16_ x15_ (by omega) (by omega) (by first | (rw [show x16_.toInt.toNat = 0 by omega]; show _ = (0 : Int); omega) | (rw [show x16_.toInt.toNat = x6_5.toInt.toNat + 1 by omega, Lg_t (y := x6_5.toInt) (by omega) (by omega)]; omega) | (rw [show x16_.toInt.toNat = x6_5.toInt.toNat + 1 by omega, Lg_n (y := x6_5.toInt) (by omega) (by omega)]; omega)) (by omega) (by first | (rw [show x16_.toInt.toNat = 0 by omega]; rfl) | (rw [show x16_.toInt.toNat = x6_5.toInt.toNat + 1 by omega]; exact Fo_n v6_4 (Lf_n (y := x6_5.toInt) (by omega) (by first | exact Or.inl (by omega) | exact Or.inr (by omega))))) rfl
          · refine r_iload hC dX8_led_60 5 rfl ?_
            exact r_iretX hC hQ hlk hr rfl (by decide) (by decide) dX8_led_62 ⟨_, _, rfl, rfl, ⟨hs3, hF3, (by exact k3_2), (by exact ⟨by omega, by omega, by rw [Fo_hit (k := x6_5.toInt.toNat) v6_4 (Lf_t (y := x6_5.toInt) (by omega) (by omega) (by omega)) (by omega)]; omega⟩)⟩⟩
    refine r_sub [3, 4, 5, 2, 1, 0] rfl ?_
    exact LP6 _ x5_ x4_ (by omega) (by omega) (by first | (rw [show x5_.toInt.toNat = 0 by omega]; show _ = (0 : Int); omega) | (rw [show x5_.toInt.toNat = x6_5.toInt.toNat + 1 by omega, Lg_t (y := x6_5.toInt) (by omega) (by omega)]; omega) | (rw [show x5_.toInt.toNat = x6_5.toInt.toNat + 1 by omega, Lg_n (y := x6_5.toInt) (by omega) (by omega)]; omega)) (by omega) (by first | (rw [show x5_.toInt.toNat = 0 by omega]; rfl) | (rw [show x5_.toInt.toNat = x6_5.toInt.toNat + 1 by omega]; exact Fo_n v6_4 (Lf_n (y := x6_5.toInt) (by omega) (by first | exact Or.inl (by omega) | exact Or.inr (by omega))))) rfl
  · refine r_if_ne hC (tgt := 19) dX8_led_5 (by decide) (fun c17 => ?_) (fun c17 => ?_)
    · exfalso; omega
    exact r_throw hC hcs hQ hlk hT hl (i := 29) (is := 261) (by decide) rfl dX8_led_8 dX8_led_11 dX8_led_12 dX8_led_15 dX8_led_18 (by decide) (by decide) (by decide) (by decide) ⟨_, rfl, hs, hF, hc, (by omega)⟩
set_option maxHeartbeats 4000000 in
set_option maxRecDepth 100000 in
theorem a_L_led (g : GG) (l : Launch) (hl : l.stackTraces = false) (K len : Nat → Nat) (I : Nat → Nat → Int32) (J : Nat → Nat → Int64) (R : Nat → Nat → Option Nat) (hs : Sf K len I R) (a0 : Nat) (ka0 : K a0 = 9) (x1 : Int32) (x2 : Int32) (h : Nat) (hh : R a0 2 = some h) (kh : K h = 2) (lk : Nat) (hlk2 : R h 0 = some lk) (klk : K lk = 3) (rd : Nat) (hrd : R a0 9 = some rd) (krd : K rd = 4) (lv : Nat) (hlv : R a0 4 = some lv) (klv : K lv = 41) (llv : len lv = 60) (kn : Nat) (hkn : R a0 6 = some kn) (kkn : K kn = 43) (lkn : len kn = 6) (cr : Nat) (hcr : R a0 5 = some cr) (kcr1 : K cr = 44) (lcr : len cr = 6) (hu : UU K R) (D : DD) (E : Nat → Nat → Int) (hc : KC D E a0 h lk rd I R) (o : Nat) (ko : K o = 42) (no : len o = 1) : CtW g l yL_led cL_led 5 (some .int) hhLed rmL_led [.ref a0, .int x1, .int x2, .ref o] (K, len, I, J, R) (pI2 (K, len, I, J, R) (fun r I' J' => Sf K len I' R ∧ Fr K [(1, 5), (1, 6), (43, 999), (50, 999), (51, 999), (52, 999), (53, 999), (54, 999)] I I' ∧ (∀ b, b ≠ o → J' b = J b) ∧ KC D E a0 h lk rd I' R ∧ ((r.toInt = 0 ∧ ((0 ≤ x1.toInt ∧ x1.toInt < D 0 7) ∧ Fo (Lf D x1.toInt.toNat x2.toInt) 1 60 ≠ -2) ∧ (J' o 0).toInt = Fo (Lf D x1.toInt.toNat x2.toInt) 1 60) ∨ (r.toInt = 1 ∧ ¬ ((0 ≤ x1.toInt ∧ x1.toInt < D 0 7) ∧ Fo (Lf D x1.toInt.toNat x2.toInt) 1 60 ≠ -2))))) := by
  refine Ct_introW (by decide +kernel) (Nat.le_of_ble_eq_true rfl) (fun X hC hL hKK hNm hr hlk hcs hQ hT => ?_)
  subst hL
  have hC : Cx g X cL_led "HillTapLaw" 5 rmL_led := hC
  show P g X 5 0 [(0, .ref a0), (1, .int x1), (2, .int x2), (3, .ref o)] [] 0 0 (K, len, I, J, R)
  refine r_aload_n hC dL_led_0 3 rfl ?_
  refine r_iconst hC (v := (0)) dL_led_1 (by decide) (by decide) (fun z0 e0 t0 => ?_)
  refine r_aload_n hC dL_led_2 0 rfl ?_
  refine r_iload_n hC dL_led_3 1 rfl ?_
  refine r_iload_n hC dL_led_4 2 rfl ?_
  have hT' : (xC X).exceptionTable.toList = [(⟨0, 10, 13, 13⟩ : ExceptionTableEntry)] := hT
  refine r_callVX hC hcs hT' (by decide) (by decide) mW_cat (As := [.int x1, .int x2]) (rest := [.int z0, .ref o]) (ci := 8) (a_X8_led g (xL X) hl K len I J R hs a0 ka0 x1 x2 h hh kh lk hlk2 klk rd hrd krd lv hlv klv llv kn hkn kkn lkn cr hcr kcr1 lcr hu D E hc) mT_4_161 mT_1_1 mT_4_158 mT_4_159 mT_4_160 okX8_led ⟨by decide, by decide⟩ rfl (by show kO (K a0) = _; rw [ka0]; rfl) rfl rfl (Nat.le_of_ble_eq_true rfl) ⟨by decide, by decide⟩ dL_led_5 (aI1 (F := fun st M => P g X 5 8 [(0, .ref a0), (1, .int x1), (2, .int x2), (3, .ref o)] st _ _ M) (M := (K, len, I, J, R)) fun r I1 h1 => ?_) (fun q M' hq9 => ?_)
  · obtain ⟨hs1, hf1, kc1, ca1, ra1, va1⟩ := h1
    show P g X 5 8 [(0, .ref a0), (1, .int x1), (2, .int x2), (3, .ref o)] [.int r, .int z0, .ref o] _ _ (K, len, I1, J, R)
    refine r_i2l hC dL_led_8 (fun y ey => ?_)
    refine x_lastore hC ko no (by decide) rfl rfl dL_led_9 (by omega) (by omega) (fun J1 eJ1 => ?_)
    refine r_goto hC (tgt := 17) dL_led_10 (by decide) ?_
    refine r_iconst hC (v := (0)) dL_led_17 (by decide) (by decide) (fun z1 e1 t1 => ?_)
    exact r_iret hC hQ hlk hr rfl (by decide) (by decide) dL_led_18 ⟨_, _, _, rfl, rfl, hs1, hf1, fun b hb => by rw [eJ1]; funext j; exact up2_ne _ _ (Or.inl hb), kc1, Or.inl ⟨by omega, ⟨ca1, by omega⟩, by rw [eJ1, show (0 : Nat) = z0.toNatClampNeg from by rw [clx (i := z0) t0 (by decide)]; rfl, up2_self, ey, Int32.toInt_toInt64]; exact va1⟩⟩
  · obtain ⟨I1, rfl, hs1, hf1, kc1, na1⟩ := hq9
    show P g X 5 13 [(0, .ref a0), (1, .int x1), (2, .int x2), (3, .ref o)] [.ref q] _ _ (K, len, I1, J, R)
    refine r_astore hC (lv' := [(4, .ref q), (0, .ref a0), (1, .int x1), (2, .int x2), (3, .ref o)]) dL_led_13 (by decide) rfl ?_
    refine r_iconst hC (v := (1)) dL_led_15 (by decide) (by decide) (fun z1 e1 t1 => ?_)
    exact r_iret hC hQ hlk hr rfl (by decide) (by decide) dL_led_16 ⟨_, _, _, rfl, rfl, hs1, hf1, fun _ _ => rfl, kc1, Or.inr ⟨by omega, na1⟩⟩
set_option maxHeartbeats 4000000 in
set_option maxRecDepth 100000 in
theorem f_X10_led (g : GG) (l : Launch) (K len : Nat → Nat) (I : Nat → Nat → Int32) (J : Nat → Nat → Int64) (R : Nat → Nat → Option Nat) (hs : Sf K len I R) (a0 : Nat) (ka0 : K a0 = 11) (x1 : Int32) (x2 : Int32) (D : DD) (E : Nat → Nat → Int) (hmx : ∀ hm, R a0 3 = some hm → MC D E a0 hm I R) : Ct g l yX10_led cX10_led 5 (Option.some Jvm.ClassFile.FieldType.int) rmX10_led [.ref a0, .int x1, .int x2] (K, len, I, J, R) (pI1 (K, len, I, J, R) (fun r I' => Sf K len I' R ∧ Fr K [(11, 0), (11, 19), (85, 999), (86, 999), (87, 999), (88, 999)] I I' ∧ ((R a0 3 = none ∧ (I' a0 0).toInt = 1) ∨ (∃ hm, R a0 3 = some hm ∧ ((((0 ≤ x1.toInt ∧ x1.toInt < D 0 7) ∧ Fo (Lf D x1.toInt.toNat x2.toInt) 1 60 ≠ -2) ∧ (I' a0 0).toInt = 0 ∧ r.toInt = Fo (Lf D x1.toInt.toNat x2.toInt) 1 60) ∨ (¬ ((0 ≤ x1.toInt ∧ x1.toInt < D 0 7) ∧ Fo (Lf D x1.toInt.toNat x2.toInt) 1 60 ≠ -2) ∧ (I' a0 0).toInt = 1)))))) := by
  refine Ct_intro (by decide +kernel) (Nat.le_of_ble_eq_true rfl) (fun X hC hL hKK hNm hr hlk hQ => ?_)
  subst hL
  have hC : Cx g X cX10_led "HillTapModel" 5 rmX10_led := hC
  show P g X 5 0 [(0, .ref a0), (1, .int x1), (2, .int x2)] [] 0 0 (K, len, I, J, R)
  have hF : Fr K [(11, 0), (11, 19), (85, 999), (86, 999), (87, 999), (88, 999)] I I := Fr.refl
  obtain ⟨lr, hlr, klr, llr⟩ := hs.row ka0 15 85 60 (by decide) (by decide)
  obtain ⟨sr, hsr, ksr, lsr⟩ := hs.row ka0 16 86 300 (by decide) (by decide)
  obtain ⟨ir, hir, kir, lir⟩ := hs.row ka0 17 87 300 (by decide) (by decide)
  obtain ⟨wr, hwr, kwr, lwr⟩ := hs.row ka0 18 88 300 (by decide) (by decide)
  have b_x1 := ti_rng x1
  have b_x2 := ti_rng x2
  rcases hs.2.1.2.2.1 a0 ka0 with hz | ⟨hm, hbm, khm⟩
  · refine r_aload_n hC dX10_led_0 0 rfl ?_
    refine r_iconst hC (v := (1)) dX10_led_1 (by decide) (by decide) (fun x1_ e1 t1 => ?_)
    refine r_puti hC 0 (ci := 10) rfl u10_in tyX10_ok nmX10 (by decide) mT_4_235 rfl rfl rfl dX10_led_2 ka0 rfl rfl (fun I2 eI2 => ?_)
    have hs2 := hs.put0 eI2 ka0 rfl rfl rfl (by decide)
    have hF2 := hF.put eI2 ka0 rfl
    refine r_aload_n hC dX10_led_5 0 rfl ?_
    refine r_iload_n hC dX10_led_6 1 rfl ?_
    refine r_callV hC (As := [.int x1]) (rest := []) (ci := 10) (f_X10_isStory g (xL X) K len I2 J R hs2 a0 ka0 x1) mT_6_123 mT_1_10 mT_6_120 mT_6_122 mP_71 okX10_isStory ⟨by decide, by decide⟩ rfl (by show kO (K a0) = _; rw [ka0]; rfl) rfl rfl (Nat.le_of_ble_eq_true rfl) ⟨by decide, by decide⟩ dX10_led_7 (aI0 (F := fun st M => P g X 5 10 [(0, .ref a0), (1, .int x1), (2, .int x2)] st _ _ M) (M := (K, len, I2, J, R)) fun x3_ h3 => ?_)
    have k3_0 := h3
    clear h3
    show P g X 5 10 [(0, .ref a0), (1, .int x1), (2, .int x2)] [.int x3_] _ _ (K, len, I2, J, R)
    have kq3 : x3_.toInt = 0 := by rcases k3_0 with ⟨z, y⟩ | ⟨hm9, z, y⟩; exact y; rw [hz] at z; cases z
    clear k3_0
    refine r_if_ne hC (tgt := 15) dX10_led_10 (by decide) (fun c4 => ?_) (fun c4 => ?_)
    · exfalso; omega
    refine r_iconst hC (v := (0)) dX10_led_13 (by decide) (by decide) (fun x5_ e5 t5 => ?_)
    have hv0 : I2 a0 0 = x1_ := (by rw [eI2]; exact up2_self _ _ _ _)
    have hv0t : (I2 a0 0).toInt = x1_.toInt := congrArg Int32.toInt hv0
    exact r_iret hC hQ hlk hr rfl (by decide) (by decide) dX10_led_14 ⟨_, _, rfl, rfl, ⟨hs2, hF2, (by first | exact Or.inl ⟨hz, by omega⟩ | exact Or.inr ⟨hm, hbm, Or.inl ⟨⟨by omega, by rw [Fo_hit (k := NOx_l4.toInt.toNat) NOx_v25_4 (Lf_t (y := NOx_l4.toInt) (by omega) (by omega) (by omega)) (by omega)]; omega⟩, by omega, by rw [Fo_hit (k := NOx_l4.toInt.toNat) NOx_v25_4 (Lf_t (y := NOx_l4.toInt) (by omega) (by omega) (by omega)) (by omega)]; omega⟩⟩ | exact Or.inr ⟨hm, hbm, Or.inr ⟨by omega, by omega⟩⟩ | exact Or.inr ⟨hm, hbm, Or.inr ⟨fun z => z.2 (by rw [show 60 = NOx_l4.toInt.toNat by omega]; exact NOx_v25_4), by omega⟩⟩)⟩⟩
  · obtain ⟨S0, eS0⟩ : ∃ z : Int32, z = I hm 7 := ⟨_, rfl⟩
    have fS0 : S0.toInt = (I hm 7).toInt := by rw [eS0]
    have rS0 := hs.rng khm rfl eS0
    have mc := hmx hm hbm
    obtain ⟨⟨hJ, hR6, hD7⟩, rwm, ⟨hd1, hd2, hd3, hd4, hd5, hd7, hd8, hd9⟩, -⟩ := id mc
    have hcx := CM_x hs khm
    have b5 := hs.rng khm (k := 3) rfl (x := I hm 3) rfl
    have b7 := hs.rng khm (k := 7) rfl (x := I hm 7) rfl
    have b8 := hs.rng khm (k := 8) rfl (x := I hm 8) rfl
    have b20 := hs.rng ka0 (k := 20) rfl (x := I a0 20) rfl
    refine r_aload_n hC dX10_led_0 0 rfl ?_
    refine r_iconst hC (v := (1)) dX10_led_1 (by decide) (by decide) (fun x6_ e6 t6 => ?_)
    refine r_puti hC 0 (ci := 10) rfl u10_in tyX10_ok nmX10 (by decide) mT_4_235 rfl rfl rfl dX10_led_2 ka0 rfl rfl (fun I7 eI7 => ?_)
    have hs7 := hs.put0 eI7 ka0 rfl rfl rfl (by decide)
    have hF7 := hF.put eI7 ka0 rfl
    refine r_aload_n hC dX10_led_5 0 rfl ?_
    refine r_iload_n hC dX10_led_6 1 rfl ?_
    refine r_callV hC (As := [.int x1]) (rest := []) (ci := 10) (f_X10_isStory g (xL X) K len I7 J R hs7 a0 ka0 x1) mT_6_123 mT_1_10 mT_6_120 mT_6_122 mP_71 okX10_isStory ⟨by decide, by decide⟩ rfl (by show kO (K a0) = _; rw [ka0]; rfl) rfl rfl (Nat.le_of_ble_eq_true rfl) ⟨by decide, by decide⟩ dX10_led_7 (aI0 (F := fun st M => P g X 5 10 [(0, .ref a0), (1, .int x1), (2, .int x2)] st _ _ M) (M := (K, len, I7, J, R)) fun x8_ h8 => ?_)
    have k8_0 := h8
    clear h8
    show P g X 5 10 [(0, .ref a0), (1, .int x1), (2, .int x2)] [.int x8_] _ _ (K, len, I7, J, R)
    have kq8 : x8_.toInt = 1 ∧ (0 ≤ x1.toInt ∧ x1.toInt < D 0 7) ∨ x8_.toInt = 0 ∧ ¬ (0 ≤ x1.toInt ∧ x1.toInt < D 0 7) := by rcases k8_0 with ⟨z, -⟩ | ⟨hm9, z, y⟩ <;> rw [hbm] at z <;> cases z; rw [show (I7 hm 7).toInt = _ from (mc.mv hs ka0 khm hF7 rfl).2.2.1.2.2.2.2.2.1] at y; exact y
    clear k8_0
    refine r_if_ne hC (tgt := 15) dX10_led_10 (by decide) (fun c9 => ?_) (fun c9 => ?_)
    · refine r_aload_n hC dX10_led_15 0 rfl ?_
      refine r_iload_n hC dX10_led_16 1 rfl ?_
      have hv10 : I7 hm 7 = S0 := (Eq.trans (up2_kk eI7 ka0 khm (by decide)) eS0.symm)
      refine r_callV hC (As := [.int x1]) (rest := []) (ci := 10) (f_X10_runsAsTold g (xL X) K len I7 J R hs7 a0 ka0 x1 hm hbm khm (by rw [hv10]; omega) lr hlr klr llr sr hsr ksr lsr ir hir kir lir wr hwr kwr lwr D E (mc.mv hs ka0 khm hF7 rfl) (by omega) (by omega)) mT_6_131 mT_1_10 mT_6_128 mT_6_130 mP_73 okX10_runsAsTold ⟨by decide, by decide⟩ rfl (by show kO (K a0) = _; rw [ka0]; rfl) rfl rfl (Nat.le_of_ble_eq_true rfl) ⟨by decide, by decide⟩ dX10_led_17 (aV1 (F := fun st M => P g X 5 20 [(0, .ref a0), (1, .int x1), (2, .int x2)] st _ _ M) (M := (K, len, I7, J, R)) fun I11 h11 => ?_)
      obtain ⟨hs11, hf11, k11_0⟩ := h11
      show P g X 5 20 [(0, .ref a0), (1, .int x1), (2, .int x2)] [] _ _ (K, len, I11, J, R)
      have hF11 : Fr K [(11, 0), (11, 19), (85, 999), (86, 999), (87, 999), (88, 999)] I I11 := hF7.trans hf11 rfl rfl
      refine r_iconst hC (v := (0)) dX10_led_20 (by decide) (by decide) (fun x12_ e12 t12 => ?_)
      refine r_istore_n hC (lv' := [(3, .int x12_), (0, .ref a0), (1, .int x1), (2, .int x2)]) dX10_led_21 (by decide) rfl ?_
      refine r_iconst hC (v := (0)) dX10_led_22 (by decide) (by decide) (fun x13_ e13 t13 => ?_)
      refine r_istore hC (lv' := [(4, .int x13_), (3, .int x12_), (0, .ref a0), (1, .int x1), (2, .int x2)]) dX10_led_23 (by decide) rfl ?_
      have LP14 : ∀ (mu : Nat) (x14_4 : Int32) (x14_3 : Int32) (v14_0 : 0 ≤ x14_4.toInt) (v14_1 : x14_4.toInt ≤ 60) (v14_2 : x14_3.toInt = Lg D x1.toInt.toNat x14_4.toInt.toNat) (v14_3 : 0 ≤ x14_3.toInt ∧ x14_3.toInt ≤ x14_4.toInt) (v14_4 : Fo (Lf D x1.toInt.toNat x2.toInt) 1 x14_4.toInt.toNat = -2), (60 - x14_4.toInt).toNat = mu → P g X 5 25 [(0, .ref a0), (1, .int x1), (2, .int x2), (3, .int x14_3), (4, .int x14_4)] [] 0 0 (K, len, I11, J, R) := by
        intro mu; induction mu using Nat.strongRecOn with | ind mu ih => ?_
        intro x14_4 x14_3 v14_0 v14_1 v14_2 v14_3 v14_4 hmu
        have ih14 := ih
        clear ih
        have hmu14 := hmu
        clear hmu
        refine r_iload hC dX10_led_25 4 rfl ?_
        refine r_bipush hC (v := (60)) dX10_led_27 (by decide) (by decide) (fun x15_ e15 t15 => ?_)
        refine r_icmp_ge hC (tgt := 74) dX10_led_29 (by decide) (fun c16 => ?_) (fun c16 => ?_)
        · refine r_iconst hC (v := (0)) dX10_led_74 (by decide) (by decide) (fun x17_ e17 t17 => ?_)
          have hv0 : I11 a0 0 = x6_ := (Eq.trans (hf11.get ka0 rfl) (by rw [eI7]; exact up2_self _ _ _ _))
          have hv0t : (I11 a0 0).toInt = x6_.toInt := congrArg Int32.toInt hv0
          exact r_iret hC hQ hlk hr rfl (by decide) (by decide) dX10_led_75 ⟨_, _, rfl, rfl, ⟨hs11, hF11, (by first | exact Or.inl ⟨hz, by omega⟩ | exact Or.inr ⟨hm, hbm, Or.inl ⟨⟨by omega, by rw [Fo_hit (k := x14_4.toInt.toNat) v14_4 (Lf_t (y := x14_4.toInt) (by omega) (by omega) (by omega)) (by omega)]; omega⟩, by omega, by rw [Fo_hit (k := x14_4.toInt.toNat) v14_4 (Lf_t (y := x14_4.toInt) (by omega) (by omega) (by omega)) (by omega)]; omega⟩⟩ | exact Or.inr ⟨hm, hbm, Or.inr ⟨by omega, by omega⟩⟩ | exact Or.inr ⟨hm, hbm, Or.inr ⟨fun z => z.2 (by rw [show 60 = x14_4.toInt.toNat by omega]; exact v14_4), by omega⟩⟩)⟩⟩
        · refine r_aload_n hC dX10_led_32 0 rfl ?_
          refine r_iload hC dX10_led_33 4 rfl ?_
          refine r_callV hC (As := [.int x14_4]) (rest := []) (ci := 10) (f_X10_speeds g (xL X) K len I11 J R hs11 a0 ka0 x14_4 hm hbm khm lr hlr klr llr sr hsr ksr lsr ir hir kir lir wr hwr kwr lwr D E (mc.mv hs ka0 khm hF11 rfl) x1.toInt.toNat (show ((x1.toInt.toNat : Nat) : Int) < D 0 7 by omega) k11_0 (by omega)) mT_6_171 mT_1_10 mT_6_168 mT_6_170 mP_81 okX10_speeds ⟨by decide, by decide⟩ rfl (by show kO (K a0) = _; rw [ka0]; rfl) rfl rfl (Nat.le_of_ble_eq_true rfl) ⟨by decide, by decide⟩ dX10_led_35 (aI0 (F := fun st M => P g X 5 38 [(0, .ref a0), (1, .int x1), (2, .int x2), (3, .int x14_3), (4, .int x14_4)] st _ _ M) (M := (K, len, I11, J, R)) fun x18_ h18 => ?_)
          obtain ⟨k18_0, k18_1⟩ := h18
          show P g X 5 38 [(0, .ref a0), (1, .int x1), (2, .int x2), (3, .int x14_3), (4, .int x14_4)] [.int x18_] _ _ (K, len, I11, J, R)
          have ga : x18_.toInt = Tg D x1.toInt.toNat (Ad D x1.toInt.toNat (LP1 D) 1) x14_4.toInt := k18_0
          refine r_aload_n hC dX10_led_38 0 rfl ?_
          refine r_iload hC dX10_led_39 4 rfl ?_
          refine r_iconst hC (v := (1)) dX10_led_41 (by decide) (by decide) (fun x19_ e19 t19 => ?_)
          refine r_isub hC dX10_led_42 (fun x20_ e20 => ?_)
          try have t20 : x20_.toInt = x14_4.toInt - x19_.toInt := by rw [e20]; exact ti_sub (by omega) (by omega)
          refine r_callV hC (As := [.int x20_]) (rest := [.int x18_]) (ci := 10) (f_X10_speeds g (xL X) K len I11 J R hs11 a0 ka0 x20_ hm hbm khm lr hlr klr llr sr hsr ksr lsr ir hir kir lir wr hwr kwr lwr D E (mc.mv hs ka0 khm hF11 rfl) x1.toInt.toNat (show ((x1.toInt.toNat : Nat) : Int) < D 0 7 by omega) k11_0 (by omega)) mT_6_171 mT_1_10 mT_6_168 mT_6_170 mP_81 okX10_speeds ⟨by decide, by decide⟩ rfl (by show kO (K a0) = _; rw [ka0]; rfl) rfl rfl (Nat.le_of_ble_eq_true rfl) ⟨by decide, by decide⟩ dX10_led_43 (aI0 (F := fun st M => P g X 5 46 [(0, .ref a0), (1, .int x1), (2, .int x2), (3, .int x14_3), (4, .int x14_4)] st _ _ M) (M := (K, len, I11, J, R)) fun x21_ h21 => ?_)
          obtain ⟨k21_0, k21_1⟩ := h21
          show P g X 5 46 [(0, .ref a0), (1, .int x1), (2, .int x2), (3, .int x14_3), (4, .int x14_4)] [.int x21_, .int x18_] _ _ (K, len, I11, J, R)
          have gb : x21_.toInt = Tg D x1.toInt.toNat (Ad D x1.toInt.toNat (LP1 D) 1) (x14_4.toInt - 1) := by rw [k21_0, show x20_.toInt = x14_4.toInt - 1 by omega]
          refine r_icmp_gt hC (tgt := 52) dX10_led_46 (by decide) (fun c22 => ?_) (fun c22 => ?_)
          · refine r_iload_n hC dX10_led_52 3 rfl ?_
            refine r_iload_n hC dX10_led_53 2 rfl ?_
            refine r_icmp_ne hC (tgt := 65) dX10_led_54 (by decide) (fun c23 => ?_) (fun c23 => ?_)
            · obtain ⟨x24_, e24⟩ : ∃ z : Int32, z = x14_3 + Int32.ofInt (1) := ⟨_, rfl⟩
              refine r_iinc hC (j := 3) (v := x24_) (lv' := [(3, .int x24_), (0, .ref a0), (1, .int x1), (2, .int x2), (4, .int x14_4)]) dX10_led_65 rfl (by rw [e24]) (by decide) rfl ?_
              try have t24 : x24_.toInt = x14_3.toInt + (1) := by rw [e24]; exact (ti_add (b := Int32.ofInt (1)) (by show _ ≤ _ + (1 : Int); omega) (by show _ + (1 : Int) ≤ _; omega))
              obtain ⟨x25_, e25⟩ : ∃ z : Int32, z = x14_4 + Int32.ofInt (1) := ⟨_, rfl⟩
              refine r_iinc hC (j := 4) (v := x25_) (lv' := [(4, .int x25_), (3, .int x24_), (0, .ref a0), (1, .int x1), (2, .int x2)]) dX10_led_68 rfl (by rw [e25]) (by decide) rfl ?_
              try have t25 : x25_.toInt = x14_4.toInt + (1) := by rw [e25]; exact (ti_add (b := Int32.ofInt (1)) (by show _ ≤ _ + (1 : Int); omega) (by show _ + (1 : Int) ≤ _; omega))
              refine r_goto hC (tgt := 25) dX10_led_71 (by decide) ?_
              refine r_sub [2, 3, 4, 1, 0] rfl ?_
              exact ih14 ((60 - x25_.toInt).toNat) (by omega) x25_ x24_ (by omega) (by omega) (by first | (rw [show x25_.toInt.toNat = 0 by omega]; show _ = (0 : Int); omega) | (rw [show x25_.toInt.toNat = x14_4.toInt.toNat + 1 by omega, Lg_t (y := x14_4.toInt) (by omega) (by omega)]; omega) | (rw [show x25_.toInt.toNat = x14_4.toInt.toNat + 1 by omega, Lg_n (y := x14_4.toInt) (by omega) (by omega)]; omega)) (by omega) (by first | (rw [show x25_.toInt.toNat = 0 by omega]; rfl) | (rw [show x25_.toInt.toNat = x14_4.toInt.toNat + 1 by omega]; exact Fo_n v14_4 (Lf_n (y := x14_4.toInt) (by omega) (by first | exact Or.inl (by omega) | exact Or.inr (by omega))))) rfl
            · refine r_aload_n hC dX10_led_57 0 rfl ?_
              refine r_iconst hC (v := (0)) dX10_led_58 (by decide) (by decide) (fun x26_ e26 t26 => ?_)
              refine r_puti hC 0 (ci := 10) rfl u10_in tyX10_ok nmX10 (by decide) mT_4_235 rfl rfl rfl dX10_led_59 ka0 rfl rfl (fun I27 eI27 => ?_)
              have hs27 := hs11.put0 eI27 ka0 rfl rfl rfl (by decide)
              have hF27 := hF11.put eI27 ka0 rfl
              have mo27 := k11_0.putF ka0 klr ksr kir kwr eI27 ka0 rfl (by decide)
              refine r_iload hC dX10_led_62 4 rfl ?_
              have hv0 : I27 a0 0 = x26_ := (by rw [eI27]; exact up2_self _ _ _ _)
              have hv0t : (I27 a0 0).toInt = x26_.toInt := congrArg Int32.toInt hv0
              exact r_iret hC hQ hlk hr rfl (by decide) (by decide) dX10_led_64 ⟨_, _, rfl, rfl, ⟨hs27, hF27, (by first | exact Or.inl ⟨hz, by omega⟩ | exact Or.inr ⟨hm, hbm, Or.inl ⟨⟨by omega, by rw [Fo_hit (k := x14_4.toInt.toNat) v14_4 (Lf_t (y := x14_4.toInt) (by omega) (by omega) (by omega)) (by omega)]; omega⟩, by omega, by rw [Fo_hit (k := x14_4.toInt.toNat) v14_4 (Lf_t (y := x14_4.toInt) (by omega) (by omega) (by omega)) (by omega)]; omega⟩⟩ | exact Or.inr ⟨hm, hbm, Or.inr ⟨by omega, by omega⟩⟩ | exact Or.inr ⟨hm, hbm, Or.inr ⟨fun z => z.2 (by rw [show 60 = x14_4.toInt.toNat by omega]; exact v14_4), by omega⟩⟩)⟩⟩
          · refine r_goto hC (tgt := 68) dX10_led_49 (by decide) ?_
            obtain ⟨x28_, e28⟩ : ∃ z : Int32, z = x14_4 + Int32.ofInt (1) := ⟨_, rfl⟩
            refine r_iinc hC (j := 4) (v := x28_) (lv' := [(4, .int x28_), (0, .ref a0), (1, .int x1), (2, .int x2), (3, .int x14_3)]) dX10_led_68 rfl (by rw [e28]) (by decide) rfl ?_
            try have t28 : x28_.toInt = x14_4.toInt + (1) := by rw [e28]; exact (ti_add (b := Int32.ofInt (1)) (by show _ ≤ _ + (1 : Int); omega) (by show _ + (1 : Int) ≤ _; omega))
            refine r_goto hC (tgt := 25) dX10_led_71 (by decide) ?_
            refine r_sub [1, 2, 3, 4, 0] rfl ?_
            exact ih14 ((60 - x28_.toInt).toNat) (by omega) x28_ x14_3 (by omega) (by omega) (by first | (rw [show x28_.toInt.toNat = 0 by omega]; show _ = (0 : Int); omega) | (rw [show x28_.toInt.toNat = x14_4.toInt.toNat + 1 by omega, Lg_t (y := x14_4.toInt) (by omega) (by omega)]; omega) | (rw [show x28_.toInt.toNat = x14_4.toInt.toNat + 1 by omega, Lg_n (y := x14_4.toInt) (by omega) (by omega)]; omega)) (by omega) (by first | (rw [show x28_.toInt.toNat = 0 by omega]; rfl) | (rw [show x28_.toInt.toNat = x14_4.toInt.toNat + 1 by omega]; exact Fo_n v14_4 (Lf_n (y := x14_4.toInt) (by omega) (by first | exact Or.inl (by omega) | exact Or.inr (by omega))))) rfl
      refine r_sub [2, 3, 4, 1, 0] rfl ?_
      exact LP14 _ x13_ x12_ (by omega) (by omega) (by first | (rw [show x13_.toInt.toNat = 0 by omega]; show _ = (0 : Int); omega) | (rw [show x13_.toInt.toNat = x14_4.toInt.toNat + 1 by omega, Lg_t (y := x14_4.toInt) (by omega) (by omega)]; omega) | (rw [show x13_.toInt.toNat = x14_4.toInt.toNat + 1 by omega, Lg_n (y := x14_4.toInt) (by omega) (by omega)]; omega)) (by omega) (by first | (rw [show x13_.toInt.toNat = 0 by omega]; rfl) | (rw [show x13_.toInt.toNat = x14_4.toInt.toNat + 1 by omega]; exact Fo_n v14_4 (Lf_n (y := x14_4.toInt) (by omega) (by first | exact Or.inl (by omega) | exact Or.inr (by omega))))) rfl
    · refine r_iconst hC (v := (0)) dX10_led_13 (by decide) (by decide) (fun x29_ e29 t29 => ?_)
      have hv0 : I7 a0 0 = x6_ := (by rw [eI7]; exact up2_self _ _ _ _)
      have hv0t : (I7 a0 0).toInt = x6_.toInt := congrArg Int32.toInt hv0
      exact r_iret hC hQ hlk hr rfl (by decide) (by decide) dX10_led_14 ⟨_, _, rfl, rfl, ⟨hs7, hF7, (by first | exact Or.inl ⟨hz, by omega⟩ | exact Or.inr ⟨hm, hbm, Or.inl ⟨⟨by omega, by rw [Fo_hit (k := NOx_l4.toInt.toNat) NOx_v25_4 (Lf_t (y := NOx_l4.toInt) (by omega) (by omega) (by omega)) (by omega)]; omega⟩, by omega, by rw [Fo_hit (k := NOx_l4.toInt.toNat) NOx_v25_4 (Lf_t (y := NOx_l4.toInt) (by omega) (by omega) (by omega)) (by omega)]; omega⟩⟩ | exact Or.inr ⟨hm, hbm, Or.inr ⟨by omega, by omega⟩⟩ | exact Or.inr ⟨hm, hbm, Or.inr ⟨fun z => z.2 (by rw [show 60 = NOx_l4.toInt.toNat by omega]; exact NOx_v25_4), by omega⟩⟩)⟩⟩
abbrev rmX10_thrown : Room := { frames := 0, cells := 0, slots := 0, locals := 0 }
theorem okX10_thrown : yOk yX10_thrown 0 := by decide +kernel
set_option maxHeartbeats 4000000 in
set_option maxRecDepth 100000 in
theorem f_X10_thrown (g : GG) (l : Launch) (K len : Nat → Nat) (I : Nat → Nat → Int32) (J : Nat → Nat → Int64) (R : Nat → Nat → Option Nat) (hs : Sf K len I R) (a0 : Nat) (ka0 : K a0 = 11) : Ct g l yX10_thrown cX10_thrown 1 (Option.some Jvm.ClassFile.FieldType.int) rmX10_thrown [.ref a0] (K, len, I, J, R) (pI0 (K, len, I, J, R) (fun r => (r.toInt = (I a0 0).toInt))) := by
  refine Ct_intro (by decide +kernel) (Nat.le_of_ble_eq_true rfl) (fun X hC hL hKK hNm hr hlk hQ => ?_)
  subst hL
  have hC : Cx g X cX10_thrown "HillTapModel" 1 rmX10_thrown := hC
  show P g X 1 0 [(0, .ref a0)] [] 0 0 (K, len, I, J, R)
  have hF : Fr K [] I I := Fr.refl
  refine r_aload_n hC dX10_thrown_0 0 rfl ?_
  refine r_geti hC 0 (ci := 10) rfl u10_in (by decide) mT_4_235 dX10_thrown_1 ka0 rfl rfl (fun x1_ e1 => ?_)
  have f1 : x1_.toInt = (I a0 0).toInt := by rw [e1]
  exact r_iret hC hQ hlk hr rfl (by decide) (by decide) dX10_thrown_4 ⟨_, rfl, rfl, (by omega)⟩

