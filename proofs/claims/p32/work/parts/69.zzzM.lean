def Kn (E : Nat → Nat → Int) (p a : Int) : Nat → Int
  | 0 => 60
  | k + 1 => if E 0 k = p ∧ a ≤ E 2 k then min (Kn E p a k) (E 1 k) else Kn E p a k
theorem Kn_t {E : Nat → Nat → Int} {p a : Int} {k : Nat} (h : E 0 k = p ∧ a ≤ E 2 k) : Kn E p a (k + 1) = min (Kn E p a k) (E 1 k) := by simp only [Kn]; rw [if_pos h]
theorem Kn_n {E : Nat → Nat → Int} {p a : Int} {k : Nat} (h : ¬ (E 0 k = p ∧ a ≤ E 2 k)) : Kn E p a (k + 1) = Kn E p a k := by simp only [Kn]; rw [if_neg h]

set_option maxHeartbeats 4000000 in
set_option maxRecDepth 100000 in
theorem f_X3_firstDayOf (g : GG) (l : Launch) (K len : Nat → Nat) (I : Nat → Nat → Int32) (J : Nat → Nat → Int64) (R : Nat → Nat → Option Nat) (hs : Sf K len I R) (a0 : Nat) (ka0 : K a0 = 4) (x1 : Int32) (x2 : Int32) (E : Nat → Nat → Int) (hE : ∀ r j a : Nat, r < 4 → R a0 (r + 1) = some a → (j : Int) < (I a0 0).toInt → (I a j).toInt = E r j) (hB : ∀ j : Nat, (j : Int) < (I a0 0).toInt → 0 ≤ E 1 j ∧ E 1 j ≤ 59) (N : Nat) (hN : (I a0 0).toInt = N) : Ct g l yX3_firstDayOf cX3_firstDayOf 5 (Option.some Jvm.ClassFile.FieldType.int) rmX3_firstDayOf [.ref a0, .int x1, .int x2] (K, len, I, J, R) (pI0 (K, len, I, J, R) (fun r => (r.toInt = if Kn E x1.toInt x2.toInt N < 60 then Kn E x1.toInt x2.toInt N else -2))) := by
  refine Ct_intro (by decide +kernel) (Nat.le_of_ble_eq_true rfl) (fun X hC hL hKK hNm hr hlk hQ => ?_)
  subst hL
  have hC : Cx g X cX3_firstDayOf "HillTap$Readings" 5 rmX3_firstDayOf := hC
  show P g X 5 0 [(0, .ref a0), (1, .int x1), (2, .int x2)] [] 0 0 (K, len, I, J, R)
  have hF : Fr K [] I I := Fr.refl
  have b_x1 := ti_rng x1
  have b_x2 := ti_rng x2
  obtain ⟨C0, eC0⟩ : ∃ z : Int32, z = I a0 0 := ⟨_, rfl⟩
  have fC0 : C0.toInt = (I a0 0).toInt := by rw [eC0]
  have rC0 := hs.rng ka0 rfl eC0
  refine r_bipush hC (v := (60)) dX3_firstDayOf_0 (by decide) (by decide) (fun x1_ e1 t1 => ?_)
  refine r_istore_n hC (lv' := [(3, .int x1_), (0, .ref a0), (1, .int x1), (2, .int x2)]) dX3_firstDayOf_2 (by decide) rfl ?_
  refine r_iconst hC (v := (0)) dX3_firstDayOf_3 (by decide) (by decide) (fun x2_ e2 t2 => ?_)
  refine r_istore hC (lv' := [(4, .int x2_), (3, .int x1_), (0, .ref a0), (1, .int x1), (2, .int x2)]) dX3_firstDayOf_4 (by decide) rfl ?_
  have LP3 : ∀ (mu : Nat) (x3_4 : Int32) (x3_3 : Int32) (v3_0 : 0 ≤ x3_4.toInt) (v3_1 : x3_4.toInt ≤ N) (v3_2 : x3_3.toInt = Kn E x1.toInt x2.toInt x3_4.toInt.toNat) (v3_3 : 0 ≤ x3_3.toInt ∧ x3_3.toInt ≤ 60), (24 - x3_4.toInt).toNat = mu → P g X 5 6 [(0, .ref a0), (1, .int x1), (2, .int x2), (3, .int x3_3), (4, .int x3_4)] [] 0 0 (K, len, I, J, R) := by
    intro mu; induction mu using Nat.strongRecOn with | ind mu ih => ?_
    intro x3_4 x3_3 v3_0 v3_1 v3_2 v3_3 hmu
    have ih3 := ih
    clear ih
    have hmu3 := hmu
    clear hmu
    refine r_iload hC dX3_firstDayOf_6 4 rfl ?_
    refine r_aload_n hC dX3_firstDayOf_8 0 rfl ?_
    refine r_geti hC 0 (ci := 3) rfl u3_in (by decide) mT_2_60 dX3_firstDayOf_9 ka0 rfl rfl (fun x4_ e4 => ?_)
    have r4 := hs.rng ka0 rfl e4
    have f4 : x4_.toInt = (I a0 0).toInt := by rw [e4]
    have w4 : x4_ = C0 := by rw [e4]; exact eC0.symm
    have wt4 : x4_.toInt = C0.toInt := by rw [w4]
    refine r_icmp_ge hC (tgt := 55) dX3_firstDayOf_12 (by decide) (fun c5 => ?_) (fun c5 => ?_)
    · refine r_iload_n hC dX3_firstDayOf_55 3 rfl ?_
      refine r_bipush hC (v := (60)) dX3_firstDayOf_56 (by decide) (by decide) (fun x6_ e6 t6 => ?_)
      refine r_icmp_ge hC (tgt := 65) dX3_firstDayOf_58 (by decide) (fun c7 => ?_) (fun c7 => ?_)
      · refine r_bipush hC (v := (-2)) dX3_firstDayOf_65 (by decide) (by decide) (fun x8_ e8 t8 => ?_)
        exact r_iret hC hQ hlk hr rfl (by decide) (by decide) dX3_firstDayOf_67 ⟨_, rfl, rfl, (by rw [show N = x3_4.toInt.toNat by omega, ← v3_2]; first | (rw [if_pos (by omega)]) | (rw [if_neg (by omega)]; omega))⟩
      · refine r_iload_n hC dX3_firstDayOf_61 3 rfl ?_
        refine r_goto hC (tgt := 67) dX3_firstDayOf_62 (by decide) ?_
        exact r_iret hC hQ hlk hr rfl (by decide) (by decide) dX3_firstDayOf_67 ⟨_, rfl, rfl, (by rw [show N = x3_4.toInt.toNat by omega, ← v3_2]; first | (rw [if_pos (by omega)]) | (rw [if_neg (by omega)]; omega))⟩
    · refine r_aload_n hC dX3_firstDayOf_15 0 rfl ?_
      obtain ⟨a9_, hb9, hk9, hn9⟩ := hs.row ka0 1 46 24 (by decide) (by decide)
      refine r_getr hC 1 (ci := 3) rfl u3_in (by decide) mT_2_62 dX3_firstDayOf_16 ka0 rfl rfl hb9 ?_
      refine r_iload hC dX3_firstDayOf_19 4 rfl ?_
      refine x_iaload hC hk9 hn9 (by decide) rfl rfl dX3_firstDayOf_21 (by omega) (by omega) (fun x10_ e10 => ?_)
      have r10 := hs.arr hk9 hn9 rfl (by omega) (by omega) e10
      have q10 : x10_.toInt = E 0 x3_4.toInt.toNat := by rw [e10, clx (i := x3_4) rfl (by omega)]; exact hE 0 _ _ (by decide) hb9 (by omega)
      refine r_iload_n hC dX3_firstDayOf_22 1 rfl ?_
      refine r_icmp_ne hC (tgt := 49) dX3_firstDayOf_23 (by decide) (fun c11 => ?_) (fun c11 => ?_)
      · obtain ⟨x12_, e12⟩ : ∃ z : Int32, z = x3_4 + Int32.ofInt (1) := ⟨_, rfl⟩
        refine r_iinc hC (j := 4) (v := x12_) (lv' := [(4, .int x12_), (0, .ref a0), (1, .int x1), (2, .int x2), (3, .int x3_3)]) dX3_firstDayOf_49 rfl (by rw [e12]) (by decide) rfl ?_
        try have t12 : x12_.toInt = x3_4.toInt + (1) := by rw [e12]; exact (ti_add (b := Int32.ofInt (1)) (by show _ ≤ _ + (1 : Int); omega) (by show _ + (1 : Int) ≤ _; omega))
        refine r_goto hC (tgt := 6) dX3_firstDayOf_52 (by decide) ?_
        refine r_sub [1, 2, 3, 4, 0] rfl ?_
        exact ih3 ((24 - x12_.toInt).toNat) (by omega) x12_ x3_3 (by omega) (by omega) (by first | (rw [show x12_.toInt.toNat = 0 by omega]; show _ = (60 : Int); omega) | (rw [show x12_.toInt.toNat = x3_4.toInt.toNat + 1 by omega, Kn_t (by omega)]; omega) | (rw [show x12_.toInt.toNat = x3_4.toInt.toNat + 1 by omega, Kn_n (by omega)]; omega)) (by omega) rfl
      · refine r_aload_n hC dX3_firstDayOf_26 0 rfl ?_
        obtain ⟨a13_, hb13, hk13, hn13⟩ := hs.row ka0 3 65 24 (by decide) (by decide)
        refine r_getr hC 3 (ci := 3) rfl u3_in (by decide) mT_2_64 dX3_firstDayOf_27 ka0 rfl rfl hb13 ?_
        refine r_iload hC dX3_firstDayOf_30 4 rfl ?_
        refine x_iaload hC hk13 hn13 (by decide) rfl rfl dX3_firstDayOf_32 (by omega) (by omega) (fun x14_ e14 => ?_)
        have q14 : x14_.toInt = E 2 x3_4.toInt.toNat := by rw [e14, clx (i := x3_4) rfl (by omega)]; exact hE 2 _ _ (by decide) hb13 (by omega)
        refine r_iload_n hC dX3_firstDayOf_33 2 rfl ?_
        refine r_icmp_lt hC (tgt := 49) dX3_firstDayOf_34 (by decide) (fun c15 => ?_) (fun c15 => ?_)
        · obtain ⟨x16_, e16⟩ : ∃ z : Int32, z = x3_4 + Int32.ofInt (1) := ⟨_, rfl⟩
          refine r_iinc hC (j := 4) (v := x16_) (lv' := [(4, .int x16_), (0, .ref a0), (1, .int x1), (2, .int x2), (3, .int x3_3)]) dX3_firstDayOf_49 rfl (by rw [e16]) (by decide) rfl ?_
          try have t16 : x16_.toInt = x3_4.toInt + (1) := by rw [e16]; exact (ti_add (b := Int32.ofInt (1)) (by show _ ≤ _ + (1 : Int); omega) (by show _ + (1 : Int) ≤ _; omega))
          refine r_goto hC (tgt := 6) dX3_firstDayOf_52 (by decide) ?_
          refine r_sub [1, 2, 3, 4, 0] rfl ?_
          exact ih3 ((24 - x16_.toInt).toNat) (by omega) x16_ x3_3 (by omega) (by omega) (by first | (rw [show x16_.toInt.toNat = 0 by omega]; show _ = (60 : Int); omega) | (rw [show x16_.toInt.toNat = x3_4.toInt.toNat + 1 by omega, Kn_t (by omega)]; omega) | (rw [show x16_.toInt.toNat = x3_4.toInt.toNat + 1 by omega, Kn_n (by omega)]; omega)) (by omega) rfl
        · refine r_iload_n hC dX3_firstDayOf_37 3 rfl ?_
          refine r_aload_n hC dX3_firstDayOf_38 0 rfl ?_
          obtain ⟨a17_, hb17, hk17, hn17⟩ := hs.row ka0 2 47 24 (by decide) (by decide)
          refine r_getr hC 2 (ci := 3) rfl u3_in (by decide) mT_2_63 dX3_firstDayOf_39 ka0 rfl rfl hb17 ?_
          refine r_iload hC dX3_firstDayOf_42 4 rfl ?_
          refine x_iaload hC hk17 hn17 (by decide) rfl rfl dX3_firstDayOf_44 (by omega) (by omega) (fun x18_ e18 => ?_)
          have r18 := hs.arr hk17 hn17 rfl (by omega) (by omega) e18
          have q18 : x18_.toInt = E 1 x3_4.toInt.toNat := by rw [e18, clx (i := x3_4) rfl (by omega)]; exact hE 1 _ _ (by decide) hb17 (by omega)
          have jb18 := hB x3_4.toInt.toNat (by omega)
          refine r_mmin hC mT_3_235 mT_2_154 mT_1_12 mT_2_155 (by decide) (Nat.le_of_ble_eq_true rfl) (Nat.zero_le _) (Nat.zero_le _) dX3_firstDayOf_45 (fun x19_ e19 t19a t19b t19c => ?_)
          refine r_istore_n hC (lv' := [(3, .int x19_), (0, .ref a0), (1, .int x1), (2, .int x2), (4, .int x3_4)]) dX3_firstDayOf_48 (by decide) rfl ?_
          obtain ⟨x20_, e20⟩ : ∃ z : Int32, z = x3_4 + Int32.ofInt (1) := ⟨_, rfl⟩
          refine r_iinc hC (j := 4) (v := x20_) (lv' := [(4, .int x20_), (3, .int x19_), (0, .ref a0), (1, .int x1), (2, .int x2)]) dX3_firstDayOf_49 rfl (by rw [e20]) (by decide) rfl ?_
          try have t20 : x20_.toInt = x3_4.toInt + (1) := by rw [e20]; exact (ti_add (b := Int32.ofInt (1)) (by show _ ≤ _ + (1 : Int); omega) (by show _ + (1 : Int) ≤ _; omega))
          refine r_goto hC (tgt := 6) dX3_firstDayOf_52 (by decide) ?_
          refine r_sub [2, 3, 4, 1, 0] rfl ?_
          exact ih3 ((24 - x20_.toInt).toNat) (by omega) x20_ x19_ (by omega) (by omega) (by first | (rw [show x20_.toInt.toNat = 0 by omega]; show _ = (60 : Int); omega) | (rw [show x20_.toInt.toNat = x3_4.toInt.toNat + 1 by omega, Kn_t (by omega)]; omega) | (rw [show x20_.toInt.toNat = x3_4.toInt.toNat + 1 by omega, Kn_n (by omega)]; omega)) (by omega) rfl
  refine r_sub [2, 3, 4, 1, 0] rfl ?_
  exact LP3 _ x2_ x1_ (by omega) (by omega) (by first | (rw [show x2_.toInt.toNat = 0 by omega]; show _ = (60 : Int); omega) | (rw [show x2_.toInt.toNat = x3_4.toInt.toNat + 1 by omega, Kn_t (by omega)]; omega) | (rw [show x2_.toInt.toNat = x3_4.toInt.toNat + 1 by omega, Kn_n (by omega)]; omega)) (by omega) rfl
set_option maxHeartbeats 4000000 in
set_option maxRecDepth 100000 in
theorem a_X8_knew (g : GG) (l : Launch) (K len : Nat → Nat) (I : Nat → Nat → Int32) (J : Nat → Nat → Int64) (R : Nat → Nat → Option Nat) (hs : Sf K len I R) (a0 : Nat) (ka0 : K a0 = 9) (x1 : Int32) (h : Nat) (hh : R a0 2 = some h) (kh : K h = 2) (lk : Nat) (hlk2 : R h 0 = some lk) (klk : K lk = 3) (rd : Nat) (hrd : R a0 9 = some rd) (krd : K rd = 4) (lv : Nat) (hlv : R a0 4 = some lv) (klv : K lv = 41) (llv : len lv = 60) (kn : Nat) (hkn : R a0 6 = some kn) (kkn : K kn = 43) (lkn : len kn = 6) (cr : Nat) (hcr : R a0 5 = some cr) (kcr1 : K cr = 44) (lcr : len cr = 6) (hu : UU K R) (D : DD) (E : Nat → Nat → Int) (hc : KC D E a0 h lk rd I R) (N : Nat) (hN : (I rd 0).toInt = N) : Ct g l yX8_knew cX8_knew 2 (Option.some Jvm.ClassFile.FieldType.int) rmX8_knew [.ref a0, .int x1] (K, len, I, J, R) (pI1 (K, len, I, J, R) (fun r I' => Sf K len I' R ∧ Fr K [(9, 12)] I I' ∧ (KC D E a0 h lk rd I' R) ∧ ((0 ≤ x1.toInt ∧ x1.toInt < D 0 9) ∧ r.toInt = (if Kn E (D 13 x1.toInt.toNat) (D 14 x1.toInt.toNat) N < 60 then Kn E (D 13 x1.toInt.toNat) (D 14 x1.toInt.toNat) N else -2) ∨ ¬ (0 ≤ x1.toInt ∧ x1.toInt < D 0 9) ∧ r.toInt = -1) ∧ ((I' a0 12).toInt ≠ 4))) := by
  refine Ct_intro (by decide +kernel) (Nat.le_of_ble_eq_true rfl) (fun X hC hL hKK hNm hr hlk hQ => ?_)
  subst hL
  have hC : Cx g X cX8_knew "HillTap" 2 rmX8_knew := hC
  show P g X 2 0 [(0, .ref a0), (1, .int x1)] [] 0 0 (K, len, I, J, R)
  have hF : Fr K [(9, 12)] I I := Fr.refl
  have ka : KA a0 h lk rd K len R := ⟨⟨_, hs⟩, hu, ka0, kh, klk, krd⟩
  obtain ⟨sd1, sd2, sd3, sd4, sd5, sd7, sd8, sd9⟩ := id hc.2.1
  have d7b := hs.rng kh (k := 6) rfl (x := I h 6) rfl
  have d5b := hs.rng kh (k := 1) rfl (x := I h 1) rfl
  have d8b := hs.rng kh (k := 8) rfl (x := I h 8) rfl
  have b_x1 := ti_rng x1
  refine r_iload_n hC dX8_knew_0 1 rfl ?_
  refine r_if_lt hC (tgt := 15) dX8_knew_1 (by decide) (fun c1 => ?_) (fun c1 => ?_)
  · refine r_aload_n hC dX8_knew_15 0 rfl ?_
    refine r_iconst hC (v := (1)) dX8_knew_16 (by decide) (by decide) (fun x2_ e2 t2 => ?_)
    refine r_callV hC (As := [.int x2_]) (rest := []) (ci := 8) (c_X8_refuse g (xL X) K len I J R hs a0 ka0 x2_) mT_2_133 mT_1_1 mT_2_130 mT_2_132 mP_0 okX8_refuse ⟨by decide, by decide⟩ rfl (by show kO (K a0) = _; rw [ka0]; rfl) rfl rfl (Nat.le_of_ble_eq_true rfl) ⟨by decide, by decide⟩ dX8_knew_17 (aI1 (F := fun st M => P g X 2 20 [(0, .ref a0), (1, .int x1)] st _ _ M) (M := (K, len, I, J, R)) fun x3_ I3 h3 => ?_)
    obtain ⟨hs3, hf3, k3_0, k3_1⟩ := h3
    show P g X 2 20 [(0, .ref a0), (1, .int x1)] [.int x3_] _ _ (K, len, I3, J, R)
    have hF3 : Fr K [(9, 12)] I I3 := hF.trans hf3 rfl rfl
    have hc3 := hc.mv ka hf3 rfl
    exact r_iret hC hQ hlk hr rfl (by decide) (by decide) dX8_knew_20 ⟨_, _, rfl, rfl, ⟨hs3, hF3, (by exact hc3), (by first | exact Or.inr ⟨by omega, by omega⟩ | exact Or.inl ⟨by omega, (congrArg Int32.toInt k3_0).trans NOlq⟩), (by omega)⟩⟩
  · refine r_iload_n hC dX8_knew_4 1 rfl ?_
    refine r_aload_n hC dX8_knew_5 0 rfl ?_
    refine r_getr hC 2 (ci := 8) rfl u8_in (by decide) mT_2_80 dX8_knew_6 ka0 rfl rfl hh ?_
    refine r_geti hC 12 (ci := 1) rfl u1_in (by decide) mT_1_220 dX8_knew_9 kh rfl rfl (fun x4_ e4 => ?_)
    have r4 := hs.rng kh rfl e4
    have f4 : x4_.toInt = (I h 12).toInt := by rw [e4]
    have sc4 : x4_.toInt = D 0 9 := by rw [e4]; exact hc.2.1.2.2.2.2.2.2.2
    refine r_icmp_lt hC (tgt := 21) dX8_knew_12 (by decide) (fun c5 => ?_) (fun c5 => ?_)
    · refine r_aload_n hC dX8_knew_21 0 rfl ?_
      refine r_aload_n hC dX8_knew_22 0 rfl ?_
      refine r_getr hC 9 (ci := 8) rfl u8_in (by decide) mT_2_87 dX8_knew_23 ka0 rfl rfl hrd ?_
      refine r_aload_n hC dX8_knew_26 0 rfl ?_
      refine r_getr hC 2 (ci := 8) rfl u8_in (by decide) mT_2_80 dX8_knew_27 ka0 rfl rfl hh ?_
      obtain ⟨a6_, hb6, hk6, hn6⟩ := hs.row kh 13 61 4 (by decide) (by decide)
      refine r_getr hC 13 (ci := 1) rfl u1_in (by decide) mT_1_223 dX8_knew_30 kh rfl rfl hb6 ?_
      refine r_iload_n hC dX8_knew_33 1 rfl ?_
      refine x_iaload hC hk6 hn6 (by decide) rfl rfl dX8_knew_34 (by omega) (by omega) (fun x7_ e7 => ?_)
      have q7 : x7_.toInt = D 13 x1.toInt.toNat := by rw [e7, clx (i := x1) rfl (by omega)]; exact hc.1 13 _ _ _ (cCt (r := 13) rfl hb6) (by rw [cnt_13]; omega) (fun h9 => absurd h9 (by decide))
      refine r_aload_n hC dX8_knew_35 0 rfl ?_
      refine r_getr hC 2 (ci := 8) rfl u8_in (by decide) mT_2_80 dX8_knew_36 ka0 rfl rfl hh ?_
      obtain ⟨a8_, hb8, hk8, hn8⟩ := hs.row kh 14 62 4 (by decide) (by decide)
      refine r_getr hC 14 (ci := 1) rfl u1_in (by decide) mT_1_226 dX8_knew_39 kh rfl rfl hb8 ?_
      refine r_iload_n hC dX8_knew_42 1 rfl ?_
      refine x_iaload hC hk8 hn8 (by decide) rfl rfl dX8_knew_43 (by omega) (by omega) (fun x9_ e9 => ?_)
      have q9 : x9_.toInt = D 14 x1.toInt.toNat := by rw [e9, clx (i := x1) rfl (by omega)]; exact hc.1 14 _ _ _ (cCt (r := 14) rfl hb8) (by rw [cnt_14]; omega) (fun h9 => absurd h9 (by decide))
      refine r_callV hC (As := [.int x7_, .int x9_]) (rest := [.ref a0]) (ci := 3) (f_X3_firstDayOf g (xL X) K len I J R hs rd krd x7_ x9_ E hc.2.2.2.2.1 (fun j hj => (hc.rdb hj).2.1) N (by omega)) mT_4_145 mT_1_9 mT_4_142 mT_4_143 mT_4_144 okX3_firstDayOf ⟨by decide, by decide⟩ rfl (by show kO (K rd) = _; rw [krd]; rfl) rfl rfl (Nat.le_of_ble_eq_true rfl) ⟨by decide, by decide⟩ dX8_knew_44 (aI0 (F := fun st M => P g X 2 47 [(0, .ref a0), (1, .int x1)] st _ _ M) (M := (K, len, I, J, R)) fun x10_ h10 => ?_)
      have k10_0 := h10
      clear h10
      show P g X 2 47 [(0, .ref a0), (1, .int x1)] [.int x10_, .ref a0] _ _ (K, len, I, J, R)
      have lqk : x10_.toInt = (if Kn E (D 13 x1.toInt.toNat) (D 14 x1.toInt.toNat) N < 60 then Kn E (D 13 x1.toInt.toNat) (D 14 x1.toInt.toNat) N else -2) := by rw [k10_0, show x7_.toInt = D 13 x1.toInt.toNat by omega, show x9_.toInt = D 14 x1.toInt.toNat by omega]
      refine r_callV hC (As := [.int x10_]) (rest := []) (ci := 8) (c_X8_answer g (xL X) K len I J R hs a0 ka0 x10_) mT_3_115 mT_1_1 mT_3_112 mT_3_114 mP_21 okX8_answer ⟨by decide, by decide⟩ rfl (by show kO (K a0) = _; rw [ka0]; rfl) rfl rfl (Nat.le_of_ble_eq_true rfl) ⟨by decide, by decide⟩ dX8_knew_47 (aI1 (F := fun st M => P g X 2 50 [(0, .ref a0), (1, .int x1)] st _ _ M) (M := (K, len, I, J, R)) fun x11_ I11 h11 => ?_)
      obtain ⟨hs11, hf11, k11_0, k11_1⟩ := h11
      show P g X 2 50 [(0, .ref a0), (1, .int x1)] [.int x11_] _ _ (K, len, I11, J, R)
      have hF11 : Fr K [(9, 12)] I I11 := hF.trans hf11 rfl rfl
      have hc11 := hc.mv ka hf11 rfl
      exact r_iret hC hQ hlk hr rfl (by decide) (by decide) dX8_knew_50 ⟨_, _, rfl, rfl, ⟨hs11, hF11, (by exact hc11), (by first | exact Or.inr ⟨by omega, by omega⟩ | exact Or.inl ⟨by omega, (congrArg Int32.toInt k11_0).trans lqk⟩), (by omega)⟩⟩
    · refine r_aload_n hC dX8_knew_15 0 rfl ?_
      refine r_iconst hC (v := (1)) dX8_knew_16 (by decide) (by decide) (fun x12_ e12 t12 => ?_)
      refine r_callV hC (As := [.int x12_]) (rest := []) (ci := 8) (c_X8_refuse g (xL X) K len I J R hs a0 ka0 x12_) mT_2_133 mT_1_1 mT_2_130 mT_2_132 mP_0 okX8_refuse ⟨by decide, by decide⟩ rfl (by show kO (K a0) = _; rw [ka0]; rfl) rfl rfl (Nat.le_of_ble_eq_true rfl) ⟨by decide, by decide⟩ dX8_knew_17 (aI1 (F := fun st M => P g X 2 20 [(0, .ref a0), (1, .int x1)] st _ _ M) (M := (K, len, I, J, R)) fun x13_ I13 h13 => ?_)
      obtain ⟨hs13, hf13, k13_0, k13_1⟩ := h13
      show P g X 2 20 [(0, .ref a0), (1, .int x1)] [.int x13_] _ _ (K, len, I13, J, R)
      have hF13 : Fr K [(9, 12)] I I13 := hF.trans hf13 rfl rfl
      have hc13 := hc.mv ka hf13 rfl
      exact r_iret hC hQ hlk hr rfl (by decide) (by decide) dX8_knew_20 ⟨_, _, rfl, rfl, ⟨hs13, hF13, (by exact hc13), (by first | exact Or.inr ⟨by omega, by omega⟩ | exact Or.inl ⟨by omega, (congrArg Int32.toInt k13_0).trans NOlq⟩), (by omega)⟩⟩
set_option maxHeartbeats 4000000 in
set_option maxRecDepth 100000 in
theorem f_X10_knew (g : GG) (l : Launch) (K len : Nat → Nat) (I : Nat → Nat → Int32) (J : Nat → Nat → Int64) (R : Nat → Nat → Option Nat) (hs : Sf K len I R) (a0 : Nat) (ka0 : K a0 = 11) (x1 : Int32) (D : DD) (E : Nat → Nat → Int) (hmx : ∀ hm, R a0 3 = some hm → MC D E a0 hm I R) (N : Nat) (hN : (I a0 20).toInt = N) : Ct g l yX10_knew cX10_knew 4 (Option.some Jvm.ClassFile.FieldType.int) rmX10_knew [.ref a0, .int x1] (K, len, I, J, R) (pI1 (K, len, I, J, R) (fun r I' => Sf K len I' R ∧ Fr K [(11, 0), (11, 1), (11, 2)] I I' ∧ ((R a0 3 = none ∧ r.toInt = -1) ∨ (∃ hm, R a0 3 = some hm ∧ ((0 ≤ x1.toInt ∧ x1.toInt < D 0 9) ∧ r.toInt = (if Kn E (D 13 x1.toInt.toNat) (D 14 x1.toInt.toNat) N < 60 then Kn E (D 13 x1.toInt.toNat) (D 14 x1.toInt.toNat) N else -2) ∨ ¬ (0 ≤ x1.toInt ∧ x1.toInt < D 0 9) ∧ r.toInt = -1))) ∧ ((I' a0 2).toInt = -1))) := by
  refine Ct_intro (by decide +kernel) (Nat.le_of_ble_eq_true rfl) (fun X hC hL hKK hNm hr hlk hQ => ?_)
  subst hL
  have hC : Cx g X cX10_knew "HillTapModel" 4 rmX10_knew := hC
  show P g X 4 0 [(0, .ref a0), (1, .int x1)] [] 0 0 (K, len, I, J, R)
  have hF : Fr K [(11, 0), (11, 1), (11, 2)] I I := Fr.refl
  obtain ⟨lr, hlr, klr, llr⟩ := hs.row ka0 15 85 60 (by decide) (by decide)
  obtain ⟨sr, hsr, ksr, lsr⟩ := hs.row ka0 16 86 300 (by decide) (by decide)
  obtain ⟨ir, hir, kir, lir⟩ := hs.row ka0 17 87 300 (by decide) (by decide)
  obtain ⟨wr, hwr, kwr, lwr⟩ := hs.row ka0 18 88 300 (by decide) (by decide)
  have b_x1 := ti_rng x1
  obtain ⟨C20, eC20⟩ : ∃ z : Int32, z = I a0 20 := ⟨_, rfl⟩
  have fC20 : C20.toInt = (I a0 20).toInt := by rw [eC20]
  have rC20 := hs.rng ka0 rfl eC20
  rcases hs.2.1.2.2.1 a0 ka0 with hz | ⟨hm, hbm, khm⟩
  · refine r_aload_n hC dX10_knew_0 0 rfl ?_
    refine r_iconst hC (v := (0)) dX10_knew_1 (by decide) (by decide) (fun x1_ e1 t1 => ?_)
    refine r_puti hC 0 (ci := 10) rfl u10_in tyX10_ok nmX10 (by decide) mT_4_235 rfl rfl rfl dX10_knew_2 ka0 rfl rfl (fun I2 eI2 => ?_)
    have hs2 := hs.put0 eI2 ka0 rfl rfl rfl (by decide)
    have hF2 := hF.put eI2 ka0 rfl
    refine r_aload_n hC dX10_knew_5 0 rfl ?_
    refine r_getz hC 3 (ci := 10) rfl u10_in (by decide) mT_4_238 dX10_knew_6 ka0 rfl rfl hz ?_
    refine r_ifnullN hC (tgt := 27) dX10_knew_9 (by decide) ?_
    refine r_aload_n hC dX10_knew_27 0 rfl ?_
    refine r_iconst hC (v := (1)) dX10_knew_28 (by decide) (by decide) (fun x3_ e3 t3 => ?_)
    refine r_callV hC (As := [.int x3_]) (rest := []) (ci := 10) (c_X10_refused g (xL X) K len I2 J R hs2 a0 ka0 x3_) mT_5_85 mT_1_10 mT_5_82 mT_5_84 mP_48 okX10_refused ⟨by decide, by decide⟩ rfl (by show kO (K a0) = _; rw [ka0]; rfl) rfl rfl (Nat.le_of_ble_eq_true rfl) ⟨by decide, by decide⟩ dX10_knew_29 (aI1 (F := fun st M => P g X 4 32 [(0, .ref a0), (1, .int x1)] st _ _ M) (M := (K, len, I2, J, R)) fun x4_ I4 h4 => ?_)
    obtain ⟨hs4, hf4, k4_0, k4_1, k4_2⟩ := h4
    show P g X 4 32 [(0, .ref a0), (1, .int x1)] [.int x4_] _ _ (K, len, I4, J, R)
    have hF4 : Fr K [(11, 0), (11, 1), (11, 2)] I I4 := hF2.trans hf4 rfl rfl
    exact r_iret hC hQ hlk hr rfl (by decide) (by decide) dX10_knew_32 ⟨_, _, rfl, rfl, ⟨hs4, hF4, (by first | exact Or.inl ⟨hz, by omega⟩ | exact Or.inr ⟨hm, hbm, Or.inr ⟨by omega, by omega⟩⟩ | exact Or.inr ⟨hm, hbm, Or.inl ⟨by omega, (congrArg Int32.toInt k4_0).trans (by rw [show N = NOx_l3.toInt.toNat by omega]; first | (rw [if_pos (by omega)]; omega) | (rw [if_neg (by omega)]; omega) | (rcases NOx_v38_2 with z | z; (rw [if_pos z.1]; exact z.2); (rw [if_neg (by omega)]; exact z.2)))⟩⟩), (by omega)⟩⟩
  · obtain ⟨S0, eS0⟩ : ∃ z : Int32, z = I hm 7 := ⟨_, rfl⟩
    have fS0 : S0.toInt = (I hm 7).toInt := by rw [eS0]
    have rS0 := hs.rng khm rfl eS0
    have mc := hmx hm hbm
    obtain ⟨⟨hJ, hR6, hD7⟩, rwm, ⟨hd1, hd2, hd3, hd4, hd5, hd7, hd8, hd9⟩, -⟩ := id mc
    have hcx := CM_x hs khm
    have b5 := hs.rng khm (k := 3) rfl (x := I hm 3) rfl
    have b7 := hs.rng khm (k := 7) rfl (x := I hm 7) rfl
    have b8 := hs.rng khm (k := 8) rfl (x := I hm 8) rfl
    have b20 := hs.rng ka0 (k := 20) rfl (x := I a0 20) rfl
    refine r_aload_n hC dX10_knew_0 0 rfl ?_
    refine r_iconst hC (v := (0)) dX10_knew_1 (by decide) (by decide) (fun x5_ e5 t5 => ?_)
    refine r_puti hC 0 (ci := 10) rfl u10_in tyX10_ok nmX10 (by decide) mT_4_235 rfl rfl rfl dX10_knew_2 ka0 rfl rfl (fun I6 eI6 => ?_)
    have hs6 := hs.put0 eI6 ka0 rfl rfl rfl (by decide)
    have hF6 := hF.put eI6 ka0 rfl
    refine r_aload_n hC dX10_knew_5 0 rfl ?_
    refine r_getr hC 3 (ci := 10) rfl u10_in (by decide) mT_4_238 dX10_knew_6 ka0 rfl rfl hbm ?_
    refine r_ifnull hC dX10_knew_9 ?_
    refine r_iload_n hC dX10_knew_12 1 rfl ?_
    refine r_if_lt hC (tgt := 27) dX10_knew_13 (by decide) (fun c7 => ?_) (fun c7 => ?_)
    · refine r_aload_n hC dX10_knew_27 0 rfl ?_
      refine r_iconst hC (v := (1)) dX10_knew_28 (by decide) (by decide) (fun x8_ e8 t8 => ?_)
      refine r_callV hC (As := [.int x8_]) (rest := []) (ci := 10) (c_X10_refused g (xL X) K len I6 J R hs6 a0 ka0 x8_) mT_5_85 mT_1_10 mT_5_82 mT_5_84 mP_48 okX10_refused ⟨by decide, by decide⟩ rfl (by show kO (K a0) = _; rw [ka0]; rfl) rfl rfl (Nat.le_of_ble_eq_true rfl) ⟨by decide, by decide⟩ dX10_knew_29 (aI1 (F := fun st M => P g X 4 32 [(0, .ref a0), (1, .int x1)] st _ _ M) (M := (K, len, I6, J, R)) fun x9_ I9 h9 => ?_)
      obtain ⟨hs9, hf9, k9_0, k9_1, k9_2⟩ := h9
      show P g X 4 32 [(0, .ref a0), (1, .int x1)] [.int x9_] _ _ (K, len, I9, J, R)
      have hF9 : Fr K [(11, 0), (11, 1), (11, 2)] I I9 := hF6.trans hf9 rfl rfl
      exact r_iret hC hQ hlk hr rfl (by decide) (by decide) dX10_knew_32 ⟨_, _, rfl, rfl, ⟨hs9, hF9, (by first | exact Or.inl ⟨hz, by omega⟩ | exact Or.inr ⟨hm, hbm, Or.inr ⟨by omega, by omega⟩⟩ | exact Or.inr ⟨hm, hbm, Or.inl ⟨by omega, (congrArg Int32.toInt k9_0).trans (by rw [show N = NOx_l3.toInt.toNat by omega]; first | (rw [if_pos (by omega)]; omega) | (rw [if_neg (by omega)]; omega) | (rcases NOx_v38_2 with z | z; (rw [if_pos z.1]; exact z.2); (rw [if_neg (by omega)]; exact z.2)))⟩⟩), (by omega)⟩⟩
    · refine r_iload_n hC dX10_knew_16 1 rfl ?_
      refine r_aload_n hC dX10_knew_17 0 rfl ?_
      refine r_getr hC 3 (ci := 10) rfl u10_in (by decide) mT_4_238 dX10_knew_18 ka0 rfl rfl hbm ?_
      refine r_getiN hC 9 (ci := 9) rfl u9_in (by decide) nF_9 dX10_knew_21 khm rfl rfl (fun x10_ e10 => ?_)
      have r10 := hs6.rng khm rfl e10
      have f10 : x10_.toInt = (I6 hm 9).toInt := by rw [e10]
      have sc10 : x10_.toInt = D 0 9 := by rw [e10]; exact (mc.mv hs ka0 khm hF6 rfl).2.2.1.2.2.2.2.2.2.2
      refine r_icmp_lt hC (tgt := 33) dX10_knew_24 (by decide) (fun c11 => ?_) (fun c11 => ?_)
      · refine r_bipush hC (v := (-2)) dX10_knew_33 (by decide) (by decide) (fun x12_ e12 t12 => ?_)
        refine r_istore_n hC (lv' := [(2, .int x12_), (0, .ref a0), (1, .int x1)]) dX10_knew_35 (by decide) rfl ?_
        refine r_iconst hC (v := (0)) dX10_knew_36 (by decide) (by decide) (fun x13_ e13 t13 => ?_)
        refine r_istore_n hC (lv' := [(3, .int x13_), (2, .int x12_), (0, .ref a0), (1, .int x1)]) dX10_knew_37 (by decide) rfl ?_
        have LP14 : ∀ (mu : Nat) (x14_3 : Int32) (x14_2 : Int32) (v14_0 : 0 ≤ x14_3.toInt) (v14_1 : x14_3.toInt ≤ N) (v14_2 : (Kn E (D 13 x1.toInt.toNat) (D 14 x1.toInt.toNat) x14_3.toInt.toNat < 60 ∧ x14_2.toInt = Kn E (D 13 x1.toInt.toNat) (D 14 x1.toInt.toNat) x14_3.toInt.toNat) ∨ (Kn E (D 13 x1.toInt.toNat) (D 14 x1.toInt.toNat) x14_3.toInt.toNat = 60 ∧ x14_2.toInt = -2)) (v14_3 : 0 ≤ Kn E (D 13 x1.toInt.toNat) (D 14 x1.toInt.toNat) x14_3.toInt.toNat ∧ Kn E (D 13 x1.toInt.toNat) (D 14 x1.toInt.toNat) x14_3.toInt.toNat ≤ 60), (24 - x14_3.toInt).toNat = mu → P g X 4 38 [(0, .ref a0), (1, .int x1), (2, .int x14_2), (3, .int x14_3)] [] 0 0 (K, len, I6, J, R) := by
          intro mu; induction mu using Nat.strongRecOn with | ind mu ih => ?_
          intro x14_3 x14_2 v14_0 v14_1 v14_2 v14_3 hmu
          have ih14 := ih
          clear ih
          have hmu14 := hmu
          clear hmu
          refine r_iload_n hC dX10_knew_38 3 rfl ?_
          refine r_aload_n hC dX10_knew_39 0 rfl ?_
          refine r_geti hC 20 (ci := 10) rfl u10_in (by decide) mT_5_15 dX10_knew_40 ka0 rfl rfl (fun x15_ e15 => ?_)
          have r15 := hs6.rng ka0 rfl e15
          have f15 : x15_.toInt = (I6 a0 20).toInt := by rw [e15]
          have w15 : x15_ = C20 := by rw [e15]; exact (Eq.trans (up2_at (Or.inr (by decide)) eI6) eC20.symm)
          have wt15 : x15_.toInt = C20.toInt := by rw [w15]
          have sc15 : x15_.toInt = (I a0 20).toInt := by rw [e15, hF6.get ka0 rfl]
          refine r_icmp_ge hC (tgt := 114) dX10_knew_43 (by decide) (fun c16 => ?_) (fun c16 => ?_)
          · refine r_aload_n hC dX10_knew_114 0 rfl ?_
            refine r_iload_n hC dX10_knew_115 2 rfl ?_
            refine r_callV hC (As := [.int x14_2]) (rest := []) (ci := 10) (c_X10_done g (xL X) K len I6 J R hs6 a0 ka0 x14_2) mT_6_79 mT_1_10 mT_6_76 mT_6_78 mP_67 okX10_done ⟨by decide, by decide⟩ rfl (by show kO (K a0) = _; rw [ka0]; rfl) rfl rfl (Nat.le_of_ble_eq_true rfl) ⟨by decide, by decide⟩ dX10_knew_116 (aI1 (F := fun st M => P g X 4 119 [(0, .ref a0), (1, .int x1), (2, .int x14_2), (3, .int x14_3)] st _ _ M) (M := (K, len, I6, J, R)) fun x17_ I17 h17 => ?_)
            obtain ⟨hs17, hf17, k17_0, k17_1, k17_2⟩ := h17
            show P g X 4 119 [(0, .ref a0), (1, .int x1), (2, .int x14_2), (3, .int x14_3)] [.int x17_] _ _ (K, len, I17, J, R)
            have hF17 : Fr K [(11, 0), (11, 1), (11, 2)] I I17 := hF6.trans hf17 rfl rfl
            exact r_iret hC hQ hlk hr rfl (by decide) (by decide) dX10_knew_119 ⟨_, _, rfl, rfl, ⟨hs17, hF17, (by first | exact Or.inl ⟨hz, by omega⟩ | exact Or.inr ⟨hm, hbm, Or.inr ⟨by omega, by omega⟩⟩ | exact Or.inr ⟨hm, hbm, Or.inl ⟨by omega, (congrArg Int32.toInt k17_0).trans (by rw [show N = x14_3.toInt.toNat by omega]; first | (rw [if_pos (by omega)]; omega) | (rw [if_neg (by omega)]; omega) | (rcases v14_2 with z | z; (rw [if_pos z.1]; exact z.2); (rw [if_neg (by omega)]; exact z.2)))⟩⟩), (by omega)⟩⟩
          · refine r_aload_n hC dX10_knew_46 0 rfl ?_
            obtain ⟨a18_, hb18, hk18, hn18⟩ := hs6.row ka0 21 89 24 (by decide) (by decide)
            refine r_getr hC 21 (ci := 10) rfl u10_in (by decide) mT_5_16 dX10_knew_47 ka0 rfl rfl hb18 ?_
            refine r_iload_n hC dX10_knew_50 3 rfl ?_
            refine x_iaload hC hk18 hn18 (by decide) rfl rfl dX10_knew_51 (by omega) (by omega) (fun x19_ e19 => ?_)
            have r19 := hs6.arr hk18 hn18 rfl (by omega) (by omega) e19
            have q19 : x19_.toInt = E 0 x14_3.toInt.toNat := by rw [e19, clx (i := x14_3) rfl (by omega)]; exact (mc.mv hs ka0 khm hF6 rfl).rdr (r := 0) (by decide) hb18 (by first | omega | (rw [hF6.get ka0 rfl]; omega))
            obtain ⟨jp19, jd19, ji19, jo19⟩ := mc.rdb (j := x14_3.toInt.toNat) (by omega)
            refine r_aload_n hC dX10_knew_52 0 rfl ?_
            refine r_getr hC 3 (ci := 10) rfl u10_in (by decide) mT_4_238 dX10_knew_53 ka0 rfl rfl hbm ?_
            obtain ⟨a20_, hb20, hk20, hn20⟩ := hs6.row khm 23 80 4 (by decide) (by decide)
            refine r_getrN hC 23 (ci := 9) rfl u9_in (by decide) nF_23 dX10_knew_56 khm rfl rfl hb20 ?_
            refine r_iload_n hC dX10_knew_59 1 rfl ?_
            refine x_iaload hC hk20 hn20 (by decide) rfl rfl dX10_knew_60 (by omega) (by omega) (fun x21_ e21 => ?_)
            have q21 : x21_.toInt = D 13 x1.toInt.toNat := by rw [e21, clx (i := x1) rfl (by omega)]; exact (mc.mv hs ka0 khm hF6 rfl).hrw (r := 13) (by decide) (by decide) hb20 (by rw [cnt_13]; omega) (fun h9 => absurd h9 (by decide))
            have jb21 : 0 ≤ D 13 x1.toInt.toNat ∧ D 13 x1.toInt.toNat ≤ 4 := hJ.2.2.2.1 13 _ (by decide) (by decide) (by decide)
            refine r_icmp_ne hC (tgt := 108) dX10_knew_61 (by decide) (fun c22 => ?_) (fun c22 => ?_)
            · obtain ⟨x23_, e23⟩ : ∃ z : Int32, z = x14_3 + Int32.ofInt (1) := ⟨_, rfl⟩
              refine r_iinc hC (j := 3) (v := x23_) (lv' := [(3, .int x23_), (0, .ref a0), (1, .int x1), (2, .int x14_2)]) dX10_knew_108 rfl (by rw [e23]) (by decide) rfl ?_
              try have t23 : x23_.toInt = x14_3.toInt + (1) := by rw [e23]; exact (ti_add (b := Int32.ofInt (1)) (by show _ ≤ _ + (1 : Int); omega) (by show _ + (1 : Int) ≤ _; omega))
              refine r_goto hC (tgt := 38) dX10_knew_111 (by decide) ?_
              refine r_sub [1, 2, 3, 0] rfl ?_
              exact ih14 ((24 - x23_.toInt).toNat) (by omega) x23_ x14_2 (by omega) (by omega) (by first | (rw [show x23_.toInt.toNat = 0 by omega]; exact Or.inr ⟨rfl, by omega⟩) | (rw [show x23_.toInt.toNat = x14_3.toInt.toNat + 1 by omega, Kn_t (by omega)]; omega) | (rw [show x23_.toInt.toNat = x14_3.toInt.toNat + 1 by omega, Kn_n (by omega)]; omega)) (by first | (rw [show x23_.toInt.toNat = 0 by omega]; show 0 ≤ (60 : Int) ∧ (60 : Int) ≤ 60; omega) | (rw [show x23_.toInt.toNat = x14_3.toInt.toNat + 1 by omega, Kn_t (by omega)]; omega) | (rw [show x23_.toInt.toNat = x14_3.toInt.toNat + 1 by omega, Kn_n (by omega)]; omega)) rfl
            · refine r_aload_n hC dX10_knew_64 0 rfl ?_
              obtain ⟨a24_, hb24, hk24, hn24⟩ := hs6.row ka0 23 91 24 (by decide) (by decide)
              refine r_getr hC 23 (ci := 10) rfl u10_in (by decide) mT_5_18 dX10_knew_65 ka0 rfl rfl hb24 ?_
              refine r_iload_n hC dX10_knew_68 3 rfl ?_
              refine x_iaload hC hk24 hn24 (by decide) rfl rfl dX10_knew_69 (by omega) (by omega) (fun x25_ e25 => ?_)
              have q25 : x25_.toInt = E 2 x14_3.toInt.toNat := by rw [e25, clx (i := x14_3) rfl (by omega)]; exact (mc.mv hs ka0 khm hF6 rfl).rdr (r := 2) (by decide) hb24 (by first | omega | (rw [hF6.get ka0 rfl]; omega))
              obtain ⟨jp25, jd25, ji25, jo25⟩ := mc.rdb (j := x14_3.toInt.toNat) (by omega)
              refine r_aload_n hC dX10_knew_70 0 rfl ?_
              refine r_getr hC 3 (ci := 10) rfl u10_in (by decide) mT_4_238 dX10_knew_71 ka0 rfl rfl hbm ?_
              obtain ⟨a26_, hb26, hk26, hn26⟩ := hs6.row khm 24 81 4 (by decide) (by decide)
              refine r_getrN hC 24 (ci := 9) rfl u9_in (by decide) nF_24 dX10_knew_74 khm rfl rfl hb26 ?_
              refine r_iload_n hC dX10_knew_77 1 rfl ?_
              refine x_iaload hC hk26 hn26 (by decide) rfl rfl dX10_knew_78 (by omega) (by omega) (fun x27_ e27 => ?_)
              have q27 : x27_.toInt = D 14 x1.toInt.toNat := by rw [e27, clx (i := x1) rfl (by omega)]; exact (mc.mv hs ka0 khm hF6 rfl).hrw (r := 14) (by decide) (by decide) hb26 (by rw [cnt_14]; omega) (fun h9 => absurd h9 (by decide))
              have jb27 : 0 ≤ D 14 x1.toInt.toNat ∧ D 14 x1.toInt.toNat ≤ 999 := hJ.2.2.2.1 14 _ (by decide) (by decide) (by decide)
              refine r_icmp_ge hC (tgt := 85) dX10_knew_79 (by decide) (fun c28 => ?_) (fun c28 => ?_)
              · refine r_iload_n hC dX10_knew_85 2 rfl ?_
                refine r_bipush hC (v := (-2)) dX10_knew_86 (by decide) (by decide) (fun x29_ e29 t29 => ?_)
                refine r_icmp_eq hC (tgt := 101) dX10_knew_88 (by decide) (fun c30 => ?_) (fun c30 => ?_)
                · refine r_aload_n hC dX10_knew_101 0 rfl ?_
                  obtain ⟨a31_, hb31, hk31, hn31⟩ := hs6.row ka0 22 90 24 (by decide) (by decide)
                  refine r_getr hC 22 (ci := 10) rfl u10_in (by decide) mT_5_17 dX10_knew_102 ka0 rfl rfl hb31 ?_
                  refine r_iload_n hC dX10_knew_105 3 rfl ?_
                  refine x_iaload hC hk31 hn31 (by decide) rfl rfl dX10_knew_106 (by omega) (by omega) (fun x32_ e32 => ?_)
                  have r32 := hs6.arr hk31 hn31 rfl (by omega) (by omega) e32
                  have q32 : x32_.toInt = E 1 x14_3.toInt.toNat := by rw [e32, clx (i := x14_3) rfl (by omega)]; exact (mc.mv hs ka0 khm hF6 rfl).rdr (r := 1) (by decide) hb31 (by first | omega | (rw [hF6.get ka0 rfl]; omega))
                  obtain ⟨jp32, jd32, ji32, jo32⟩ := mc.rdb (j := x14_3.toInt.toNat) (by omega)
                  refine r_istore_n hC (lv' := [(2, .int x32_), (0, .ref a0), (1, .int x1), (3, .int x14_3)]) dX10_knew_107 (by decide) rfl ?_
                  obtain ⟨x33_, e33⟩ : ∃ z : Int32, z = x14_3 + Int32.ofInt (1) := ⟨_, rfl⟩
                  refine r_iinc hC (j := 3) (v := x33_) (lv' := [(3, .int x33_), (2, .int x32_), (0, .ref a0), (1, .int x1)]) dX10_knew_108 rfl (by rw [e33]) (by decide) rfl ?_
                  try have t33 : x33_.toInt = x14_3.toInt + (1) := by rw [e33]; exact (ti_add (b := Int32.ofInt (1)) (by show _ ≤ _ + (1 : Int); omega) (by show _ + (1 : Int) ≤ _; omega))
                  refine r_goto hC (tgt := 38) dX10_knew_111 (by decide) ?_
                  refine r_sub [2, 3, 1, 0] rfl ?_
                  exact ih14 ((24 - x33_.toInt).toNat) (by omega) x33_ x32_ (by omega) (by omega) (by first | (rw [show x33_.toInt.toNat = 0 by omega]; exact Or.inr ⟨rfl, by omega⟩) | (rw [show x33_.toInt.toNat = x14_3.toInt.toNat + 1 by omega, Kn_t (by omega)]; omega) | (rw [show x33_.toInt.toNat = x14_3.toInt.toNat + 1 by omega, Kn_n (by omega)]; omega)) (by first | (rw [show x33_.toInt.toNat = 0 by omega]; show 0 ≤ (60 : Int) ∧ (60 : Int) ≤ 60; omega) | (rw [show x33_.toInt.toNat = x14_3.toInt.toNat + 1 by omega, Kn_t (by omega)]; omega) | (rw [show x33_.toInt.toNat = x14_3.toInt.toNat + 1 by omega, Kn_n (by omega)]; omega)) rfl
                · refine r_aload_n hC dX10_knew_91 0 rfl ?_
                  obtain ⟨a34_, hb34, hk34, hn34⟩ := hs6.row ka0 22 90 24 (by decide) (by decide)
                  refine r_getr hC 22 (ci := 10) rfl u10_in (by decide) mT_5_17 dX10_knew_92 ka0 rfl rfl hb34 ?_
                  refine r_iload_n hC dX10_knew_95 3 rfl ?_
                  refine x_iaload hC hk34 hn34 (by decide) rfl rfl dX10_knew_96 (by omega) (by omega) (fun x35_ e35 => ?_)
                  have r35 := hs6.arr hk34 hn34 rfl (by omega) (by omega) e35
                  have q35 : x35_.toInt = E 1 x14_3.toInt.toNat := by rw [e35, clx (i := x14_3) rfl (by omega)]; exact (mc.mv hs ka0 khm hF6 rfl).rdr (r := 1) (by decide) hb34 (by first | omega | (rw [hF6.get ka0 rfl]; omega))
                  obtain ⟨jp35, jd35, ji35, jo35⟩ := mc.rdb (j := x14_3.toInt.toNat) (by omega)
                  refine r_iload_n hC dX10_knew_97 2 rfl ?_
                  refine r_icmp_ge hC (tgt := 108) dX10_knew_98 (by decide) (fun c36 => ?_) (fun c36 => ?_)
                  · obtain ⟨x37_, e37⟩ : ∃ z : Int32, z = x14_3 + Int32.ofInt (1) := ⟨_, rfl⟩
                    refine r_iinc hC (j := 3) (v := x37_) (lv' := [(3, .int x37_), (0, .ref a0), (1, .int x1), (2, .int x14_2)]) dX10_knew_108 rfl (by rw [e37]) (by decide) rfl ?_
                    try have t37 : x37_.toInt = x14_3.toInt + (1) := by rw [e37]; exact (ti_add (b := Int32.ofInt (1)) (by show _ ≤ _ + (1 : Int); omega) (by show _ + (1 : Int) ≤ _; omega))
                    refine r_goto hC (tgt := 38) dX10_knew_111 (by decide) ?_
                    refine r_sub [1, 2, 3, 0] rfl ?_
                    exact ih14 ((24 - x37_.toInt).toNat) (by omega) x37_ x14_2 (by omega) (by omega) (by first | (rw [show x37_.toInt.toNat = 0 by omega]; exact Or.inr ⟨rfl, by omega⟩) | (rw [show x37_.toInt.toNat = x14_3.toInt.toNat + 1 by omega, Kn_t (by omega)]; omega) | (rw [show x37_.toInt.toNat = x14_3.toInt.toNat + 1 by omega, Kn_n (by omega)]; omega)) (by first | (rw [show x37_.toInt.toNat = 0 by omega]; show 0 ≤ (60 : Int) ∧ (60 : Int) ≤ 60; omega) | (rw [show x37_.toInt.toNat = x14_3.toInt.toNat + 1 by omega, Kn_t (by omega)]; omega) | (rw [show x37_.toInt.toNat = x14_3.toInt.toNat + 1 by omega, Kn_n (by omega)]; omega)) rfl
                  · refine r_aload_n hC dX10_knew_101 0 rfl ?_
                    refine r_getr hC 22 (ci := 10) rfl u10_in (by decide) mT_5_17 dX10_knew_102 ka0 rfl rfl hb34 ?_
                    refine r_iload_n hC dX10_knew_105 3 rfl ?_
                    refine x_iaload hC hk34 hn34 (by decide) rfl rfl dX10_knew_106 (by omega) (by omega) (fun x38_ e38 => ?_)
                    have r38 := hs6.arr hk34 hn34 rfl (by omega) (by omega) e38
                    have q38 : x38_.toInt = E 1 x14_3.toInt.toNat := by rw [e38, clx (i := x14_3) rfl (by omega)]; exact (mc.mv hs ka0 khm hF6 rfl).rdr (r := 1) (by decide) hb34 (by first | omega | (rw [hF6.get ka0 rfl]; omega))
                    obtain ⟨jp38, jd38, ji38, jo38⟩ := mc.rdb (j := x14_3.toInt.toNat) (by omega)
                    refine r_istore_n hC (lv' := [(2, .int x38_), (0, .ref a0), (1, .int x1), (3, .int x14_3)]) dX10_knew_107 (by decide) rfl ?_
                    obtain ⟨x39_, e39⟩ : ∃ z : Int32, z = x14_3 + Int32.ofInt (1) := ⟨_, rfl⟩
                    refine r_iinc hC (j := 3) (v := x39_) (lv' := [(3, .int x39_), (2, .int x38_), (0, .ref a0), (1, .int x1)]) dX10_knew_108 rfl (by rw [e39]) (by decide) rfl ?_
                    try have t39 : x39_.toInt = x14_3.toInt + (1) := by rw [e39]; exact (ti_add (b := Int32.ofInt (1)) (by show _ ≤ _ + (1 : Int); omega) (by show _ + (1 : Int) ≤ _; omega))
                    refine r_goto hC (tgt := 38) dX10_knew_111 (by decide) ?_
                    refine r_sub [2, 3, 1, 0] rfl ?_
                    exact ih14 ((24 - x39_.toInt).toNat) (by omega) x39_ x38_ (by omega) (by omega) (by first | (rw [show x39_.toInt.toNat = 0 by omega]; exact Or.inr ⟨rfl, by omega⟩) | (rw [show x39_.toInt.toNat = x14_3.toInt.toNat + 1 by omega, Kn_t (by omega)]; omega) | (rw [show x39_.toInt.toNat = x14_3.toInt.toNat + 1 by omega, Kn_n (by omega)]; omega)) (by first | (rw [show x39_.toInt.toNat = 0 by omega]; show 0 ≤ (60 : Int) ∧ (60 : Int) ≤ 60; omega) | (rw [show x39_.toInt.toNat = x14_3.toInt.toNat + 1 by omega, Kn_t (by omega)]; omega) | (rw [show x39_.toInt.toNat = x14_3.toInt.toNat + 1 by omega, Kn_n (by omega)]; omega)) rfl
              · refine r_goto hC (tgt := 108) dX10_knew_82 (by decide) ?_
                obtain ⟨x40_, e40⟩ : ∃ z : Int32, z = x14_3 + Int32.ofInt (1) := ⟨_, rfl⟩
                refine r_iinc hC (j := 3) (v := x40_) (lv' := [(3, .int x40_), (0, .ref a0), (1, .int x1), (2, .int x14_2)]) dX10_knew_108 rfl (by rw [e40]) (by decide) rfl ?_
                try have t40 : x40_.toInt = x14_3.toInt + (1) := by rw [e40]; exact (ti_add (b := Int32.ofInt (1)) (by show _ ≤ _ + (1 : Int); omega) (by show _ + (1 : Int) ≤ _; omega))
                refine r_goto hC (tgt := 38) dX10_knew_111 (by decide) ?_
                refine r_sub [1, 2, 3, 0] rfl ?_
                exact ih14 ((24 - x40_.toInt).toNat) (by omega) x40_ x14_2 (by omega) (by omega) (by first | (rw [show x40_.toInt.toNat = 0 by omega]; exact Or.inr ⟨rfl, by omega⟩) | (rw [show x40_.toInt.toNat = x14_3.toInt.toNat + 1 by omega, Kn_t (by omega)]; omega) | (rw [show x40_.toInt.toNat = x14_3.toInt.toNat + 1 by omega, Kn_n (by omega)]; omega)) (by first | (rw [show x40_.toInt.toNat = 0 by omega]; show 0 ≤ (60 : Int) ∧ (60 : Int) ≤ 60; omega) | (rw [show x40_.toInt.toNat = x14_3.toInt.toNat + 1 by omega, Kn_t (by omega)]; omega) | (rw [show x40_.toInt.toNat = x14_3.toInt.toNat + 1 by omega, Kn_n (by omega)]; omega)) rfl
        refine r_sub [2, 3, 1, 0] rfl ?_
        exact LP14 _ x13_ x12_ (by omega) (by omega) (by first | (rw [show x13_.toInt.toNat = 0 by omega]; exact Or.inr ⟨rfl, by omega⟩) | (rw [show x13_.toInt.toNat = x14_3.toInt.toNat + 1 by omega, Kn_t (by omega)]; omega) | (rw [show x13_.toInt.toNat = x14_3.toInt.toNat + 1 by omega, Kn_n (by omega)]; omega)) (by first | (rw [show x13_.toInt.toNat = 0 by omega]; show 0 ≤ (60 : Int) ∧ (60 : Int) ≤ 60; omega) | (rw [show x13_.toInt.toNat = x14_3.toInt.toNat + 1 by omega, Kn_t (by omega)]; omega) | (rw [show x13_.toInt.toNat = x14_3.toInt.toNat + 1 by omega, Kn_n (by omega)]; omega)) rfl
      · refine r_aload_n hC dX10_knew_27 0 rfl ?_
        refine r_iconst hC (v := (1)) dX10_knew_28 (by decide) (by decide) (fun x41_ e41 t41 => ?_)
        refine r_callV hC (As := [.int x41_]) (rest := []) (ci := 10) (c_X10_refused g (xL X) K len I6 J R hs6 a0 ka0 x41_) mT_5_85 mT_1_10 mT_5_82 mT_5_84 mP_48 okX10_refused ⟨by decide, by decide⟩ rfl (by show kO (K a0) = _; rw [ka0]; rfl) rfl rfl (Nat.le_of_ble_eq_true rfl) ⟨by decide, by decide⟩ dX10_knew_29 (aI1 (F := fun st M => P g X 4 32 [(0, .ref a0), (1, .int x1)] st _ _ M) (M := (K, len, I6, J, R)) fun x42_ I42 h42 => ?_)
        obtain ⟨hs42, hf42, k42_0, k42_1, k42_2⟩ := h42
        show P g X 4 32 [(0, .ref a0), (1, .int x1)] [.int x42_] _ _ (K, len, I42, J, R)
        have hF42 : Fr K [(11, 0), (11, 1), (11, 2)] I I42 := hF6.trans hf42 rfl rfl
        exact r_iret hC hQ hlk hr rfl (by decide) (by decide) dX10_knew_32 ⟨_, _, rfl, rfl, ⟨hs42, hF42, (by first | exact Or.inl ⟨hz, by omega⟩ | exact Or.inr ⟨hm, hbm, Or.inr ⟨by omega, by omega⟩⟩ | exact Or.inr ⟨hm, hbm, Or.inl ⟨by omega, (congrArg Int32.toInt k42_0).trans (by rw [show N = NOx_l3.toInt.toNat by omega]; first | (rw [if_pos (by omega)]; omega) | (rw [if_neg (by omega)]; omega) | (rcases NOx_v38_2 with z | z; (rw [if_pos z.1]; exact z.2); (rw [if_neg (by omega)]; exact z.2)))⟩⟩), (by omega)⟩⟩

