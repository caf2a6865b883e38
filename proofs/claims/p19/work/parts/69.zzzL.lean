set_option maxHeartbeats 4000000 in
set_option maxRecDepth 100000 in
theorem f_X10_levelAt (g : GG) (l : Launch) (K len : Nat → Nat) (I : Nat → Nat → Int32) (J : Nat → Nat → Int64) (R : Nat → Nat → Option Nat) (hs : Sf K len I R) (a0 : Nat) (ka0 : K a0 = 11) (x1 : Int32) (hm : Nat) (hbm : R a0 3 = some hm) (khm : K hm = 10) (lr : Nat) (hlr : R a0 15 = some lr) (klr : K lr = 85) (llr : len lr = 60) (sr : Nat) (hsr : R a0 16 = some sr) (ksr : K sr = 86) (lsr : len sr = 300) (ir : Nat) (hir : R a0 17 = some ir) (kir : K ir = 87) (lir : len ir = 300) (wr : Nat) (hwr : R a0 18 = some wr) (kwr : K wr = 88) (lwr : len wr = 300) (D : DD) (E : Nat → Nat → Int) (mc : MC D E a0 hm I R) (hlv : ∀ j : Nat, j < 60 → (I lr j).toInt = LP1 D j) (p0 : x1.toInt ≤ 59) : Ct g l yX10_levelAt cX10_levelAt 2 (Option.some Jvm.ClassFile.FieldType.int) rmX10_levelAt [.ref a0, .int x1] (K, len, I, J, R) (pI0 (K, len, I, J, R) (fun r => (r.toInt = Lv D x1.toInt))) := by
  refine Ct_intro (by decide +kernel) (Nat.le_of_ble_eq_true rfl) (fun X hC hL hKK hNm hr hlk hQ => ?_)
  subst hL
  have hC : Cx g X cX10_levelAt "HillTapModel" 2 rmX10_levelAt := hC
  show P g X 2 0 [(0, .ref a0), (1, .int x1)] [] 0 0 (K, len, I, J, R)
  have hF : Fr K [] I I := Fr.refl
  obtain ⟨⟨hJ, hR6, hD7⟩, rwm, ⟨hd1, hd2, hd3, hd4, hd5, hd7, hd8, hd9⟩, -⟩ := id mc
  have hcx := CM_x hs khm
  have b5 := hs.rng khm (k := 3) rfl (x := I hm 3) rfl
  have b7 := hs.rng khm (k := 7) rfl (x := I hm 7) rfl
  have b8 := hs.rng khm (k := 8) rfl (x := I hm 8) rfl
  have b20 := hs.rng ka0 (k := 20) rfl (x := I a0 20) rfl
  have b_x1 := ti_rng x1
  refine r_iload_n hC dX10_levelAt_0 1 rfl ?_
  refine r_if_ge hC (tgt := 14) dX10_levelAt_1 (by decide) (fun c1 => ?_) (fun c1 => ?_)
  · refine r_aload_n hC dX10_levelAt_14 0 rfl ?_
    refine r_getr hC 15 (ci := 10) rfl u10_in (by decide) mT_5_10 dX10_levelAt_15 ka0 rfl rfl hlr ?_
    refine r_iload_n hC dX10_levelAt_18 1 rfl ?_
    refine x_iaload hC klr llr (by decide) rfl rfl dX10_levelAt_19 (by omega) (by omega) (fun x2_ e2 => ?_)
    have q2 : x2_.toInt = LP1 D x1.toInt.toNat := by rw [e2, clx (i := x1) rfl (by omega)]; exact hlv _ (by omega)
    exact r_iret hC hQ hlk hr rfl (by decide) (by decide) dX10_levelAt_20 ⟨_, rfl, rfl, (by first | (rw [Lv_n (by omega)]; omega) | (rw [Lv_p (by omega)]; exact q2))⟩
  · refine r_aload_n hC dX10_levelAt_4 0 rfl ?_
    refine r_getr hC 3 (ci := 10) rfl u10_in (by decide) mT_4_238 dX10_levelAt_5 ka0 rfl rfl hbm ?_
    refine r_getiN hC 0 (ci := 9) rfl u9_in (by decide) nF_0 dX10_levelAt_8 khm rfl rfl (fun x3_ e3 => ?_)
    have f3 : x3_.toInt = (I hm 0).toInt := by rw [e3]
    have sc3 : x3_.toInt = D 0 1 := by rw [e3]; exact mc.2.2.1.1
    refine r_goto hC (tgt := 20) dX10_levelAt_11 (by decide) ?_
    exact r_iret hC hQ hlk hr rfl (by decide) (by decide) dX10_levelAt_20 ⟨_, rfl, rfl, (by first | (rw [Lv_n (by omega)]; omega) | (rw [Lv_p (by omega)]; exact NOlq))⟩
set_option maxHeartbeats 4000000 in
set_option maxRecDepth 100000 in
theorem f_X10_isLetting (g : GG) (l : Launch) (K len : Nat → Nat) (I : Nat → Nat → Int32) (J : Nat → Nat → Int64) (R : Nat → Nat → Option Nat) (hs : Sf K len I R) (a0 : Nat) (ka0 : K a0 = 11) (x1 : Int32) (hm : Nat) (hbm : R a0 3 = some hm) (khm : K hm = 10) (lr : Nat) (hlr : R a0 15 = some lr) (klr : K lr = 85) (llr : len lr = 60) (sr : Nat) (hsr : R a0 16 = some sr) (ksr : K sr = 86) (lsr : len sr = 300) (ir : Nat) (hir : R a0 17 = some ir) (kir : K ir = 87) (lir : len ir = 300) (wr : Nat) (hwr : R a0 18 = some wr) (kwr : K wr = 88) (lwr : len wr = 300) (D : DD) (E : Nat → Nat → Int) (mc : MC D E a0 hm I R) (hlv : ∀ j : Nat, j < 60 → (I lr j).toInt = LP1 D j) (p0 : 0 ≤ x1.toInt) (p1 : x1.toInt ≤ 59) : Ct g l yX10_isLetting cX10_isLetting 2 (Option.some Jvm.ClassFile.FieldType.boolean) rmX10_isLetting [.ref a0, .int x1] (K, len, I, J, R) (pI0 (K, len, I, J, R) (fun r => (r.toInt = 1 ∧ (Lv D x1.toInt < Lv D (x1.toInt - 1) ∧ (x1.toInt = 0 ∨ Lv D (x1.toInt - 2) ≤ Lv D (x1.toInt - 1))) ∨ r.toInt = 0 ∧ ¬ (Lv D x1.toInt < Lv D (x1.toInt - 1) ∧ (x1.toInt = 0 ∨ Lv D (x1.toInt - 2) ≤ Lv D (x1.toInt - 1)))))) := by
  refine Ct_intro (by decide +kernel) (Nat.le_of_ble_eq_true rfl) (fun X hC hL hKK hNm hr hlk hQ => ?_)
  subst hL
  have hC : Cx g X cX10_isLetting "HillTapModel" 2 rmX10_isLetting := hC
  show P g X 2 0 [(0, .ref a0), (1, .int x1)] [] 0 0 (K, len, I, J, R)
  have hF : Fr K [] I I := Fr.refl
  obtain ⟨⟨hJ, hR6, hD7⟩, rwm, ⟨hd1, hd2, hd3, hd4, hd5, hd7, hd8, hd9⟩, -⟩ := id mc
  have hcx := CM_x hs khm
  have b5 := hs.rng khm (k := 3) rfl (x := I hm 3) rfl
  have b7 := hs.rng khm (k := 7) rfl (x := I hm 7) rfl
  have b8 := hs.rng khm (k := 8) rfl (x := I hm 8) rfl
  have b20 := hs.rng ka0 (k := 20) rfl (x := I a0 20) rfl
  have b_x1 := ti_rng x1
  refine r_aload_n hC dX10_isLetting_0 0 rfl ?_
  refine r_iload_n hC dX10_isLetting_1 1 rfl ?_
  refine r_callV hC (As := [.int x1]) (rest := []) (ci := 10) (f_X10_levelAt g (xL X) K len I J R hs a0 ka0 x1 hm hbm khm lr hlr klr llr sr hsr ksr lsr ir hir kir lir wr hwr kwr lwr D E mc hlv (by omega)) mT_6_220 mT_1_10 mT_6_217 mT_6_219 mP_87 okX10_levelAt ⟨by decide, by decide⟩ rfl (by show kO (K a0) = _; rw [ka0]; rfl) rfl rfl (Nat.le_of_ble_eq_true rfl) ⟨by decide, by decide⟩ dX10_isLetting_2 (aI0 (F := fun st M => P g X 2 5 [(0, .ref a0), (1, .int x1)] st _ _ M) (M := (K, len, I, J, R)) fun x1_ h1 => ?_)
  have k1_0 := h1
  clear h1
  show P g X 2 5 [(0, .ref a0), (1, .int x1)] [.int x1_] _ _ (K, len, I, J, R)
  refine r_aload_n hC dX10_isLetting_5 0 rfl ?_
  refine r_iload_n hC dX10_isLetting_6 1 rfl ?_
  refine r_iconst hC (v := (1)) dX10_isLetting_7 (by decide) (by decide) (fun x2_ e2 t2 => ?_)
  refine r_isub hC dX10_isLetting_8 (fun x3_ e3 => ?_)
  try have t3 : x3_.toInt = x1.toInt - x2_.toInt := by rw [e3]; exact ti_sub (by omega) (by omega)
  refine r_callV hC (As := [.int x3_]) (rest := [.int x1_]) (ci := 10) (f_X10_levelAt g (xL X) K len I J R hs a0 ka0 x3_ hm hbm khm lr hlr klr llr sr hsr ksr lsr ir hir kir lir wr hwr kwr lwr D E mc hlv (by omega)) mT_6_220 mT_1_10 mT_6_217 mT_6_219 mP_87 okX10_levelAt ⟨by decide, by decide⟩ rfl (by show kO (K a0) = _; rw [ka0]; rfl) rfl rfl (Nat.le_of_ble_eq_true rfl) ⟨by decide, by decide⟩ dX10_isLetting_9 (aI0 (F := fun st M => P g X 2 12 [(0, .ref a0), (1, .int x1)] st _ _ M) (M := (K, len, I, J, R)) fun x4_ h4 => ?_)
  have k4_0 := h4
  clear h4
  show P g X 2 12 [(0, .ref a0), (1, .int x1)] [.int x4_, .int x1_] _ _ (K, len, I, J, R)
  have g1 : x4_.toInt = Lv D (x1.toInt - 1) := by rw [k4_0, show x3_.toInt = x1.toInt - 1 by omega]
  refine r_icmp_ge hC (tgt := 40) dX10_isLetting_12 (by decide) (fun c5 => ?_) (fun c5 => ?_)
  · refine r_iconst hC (v := (0)) dX10_isLetting_40 (by decide) (by decide) (fun x6_ e6 t6 => ?_)
    exact r_iret hC hQ hlk hr (by rw [e6]; rfl) (by decide) (by decide) dX10_isLetting_41 ⟨_, rfl, rfl, (by omega)⟩
  · refine r_iload_n hC dX10_isLetting_15 1 rfl ?_
    refine r_if_eq hC (tgt := 36) dX10_isLetting_16 (by decide) (fun c7 => ?_) (fun c7 => ?_)
    · refine r_iconst hC (v := (1)) dX10_isLetting_36 (by decide) (by decide) (fun x8_ e8 t8 => ?_)
      refine r_goto hC (tgt := 41) dX10_isLetting_37 (by decide) ?_
      exact r_iret hC hQ hlk hr (by rw [e8]; rfl) (by decide) (by decide) dX10_isLetting_41 ⟨_, rfl, rfl, (by omega)⟩
    · refine r_aload_n hC dX10_isLetting_19 0 rfl ?_
      refine r_iload_n hC dX10_isLetting_20 1 rfl ?_
      refine r_iconst hC (v := (1)) dX10_isLetting_21 (by decide) (by decide) (fun x9_ e9 t9 => ?_)
      refine r_isub hC dX10_isLetting_22 (fun x10_ e10 => ?_)
      try have t10 : x10_.toInt = x1.toInt - x9_.toInt := by rw [e10]; exact ti_sub (by omega) (by omega)
      refine r_callV hC (As := [.int x10_]) (rest := []) (ci := 10) (f_X10_levelAt g (xL X) K len I J R hs a0 ka0 x10_ hm hbm khm lr hlr klr llr sr hsr ksr lsr ir hir kir lir wr hwr kwr lwr D E mc hlv (by omega)) mT_6_220 mT_1_10 mT_6_217 mT_6_219 mP_87 okX10_levelAt ⟨by decide, by decide⟩ rfl (by show kO (K a0) = _; rw [ka0]; rfl) rfl rfl (Nat.le_of_ble_eq_true rfl) ⟨by decide, by decide⟩ dX10_isLetting_23 (aI0 (F := fun st M => P g X 2 26 [(0, .ref a0), (1, .int x1)] st _ _ M) (M := (K, len, I, J, R)) fun x11_ h11 => ?_)
      have k11_0 := h11
      clear h11
      show P g X 2 26 [(0, .ref a0), (1, .int x1)] [.int x11_] _ _ (K, len, I, J, R)
      have g2 : x11_.toInt = Lv D (x1.toInt - 1) := by rw [k11_0, show x10_.toInt = x1.toInt - 1 by omega]
      refine r_aload_n hC dX10_isLetting_26 0 rfl ?_
      refine r_iload_n hC dX10_isLetting_27 1 rfl ?_
      refine r_iconst hC (v := (2)) dX10_isLetting_28 (by decide) (by decide) (fun x12_ e12 t12 => ?_)
      refine r_isub hC dX10_isLetting_29 (fun x13_ e13 => ?_)
      try have t13 : x13_.toInt = x1.toInt - x12_.toInt := by rw [e13]; exact ti_sub (by omega) (by omega)
      refine r_callV hC (As := [.int x13_]) (rest := [.int x11_]) (ci := 10) (f_X10_levelAt g (xL X) K len I J R hs a0 ka0 x13_ hm hbm khm lr hlr klr llr sr hsr ksr lsr ir hir kir lir wr hwr kwr lwr D E mc hlv (by omega)) mT_6_220 mT_1_10 mT_6_217 mT_6_219 mP_87 okX10_levelAt ⟨by decide, by decide⟩ rfl (by show kO (K a0) = _; rw [ka0]; rfl) rfl rfl (Nat.le_of_ble_eq_true rfl) ⟨by decide, by decide⟩ dX10_isLetting_30 (aI0 (F := fun st M => P g X 2 33 [(0, .ref a0), (1, .int x1)] st _ _ M) (M := (K, len, I, J, R)) fun x14_ h14 => ?_)
      have k14_0 := h14
      clear h14
      show P g X 2 33 [(0, .ref a0), (1, .int x1)] [.int x14_, .int x11_] _ _ (K, len, I, J, R)
      have g3 : x14_.toInt = Lv D (x1.toInt - 2) := by rw [k14_0, show x13_.toInt = x1.toInt - 2 by omega]
      refine r_icmp_lt hC (tgt := 40) dX10_isLetting_33 (by decide) (fun c15 => ?_) (fun c15 => ?_)
      · refine r_iconst hC (v := (0)) dX10_isLetting_40 (by decide) (by decide) (fun x16_ e16 t16 => ?_)
        exact r_iret hC hQ hlk hr (by rw [e16]; rfl) (by decide) (by decide) dX10_isLetting_41 ⟨_, rfl, rfl, (by omega)⟩
      · refine r_iconst hC (v := (1)) dX10_isLetting_36 (by decide) (by decide) (fun x17_ e17 t17 => ?_)
        refine r_goto hC (tgt := 41) dX10_isLetting_37 (by decide) ?_
        exact r_iret hC hQ hlk hr (by rw [e17]; rfl) (by decide) (by decide) dX10_isLetting_41 ⟨_, rfl, rfl, (by omega)⟩
set_option maxHeartbeats 4000000 in
set_option maxRecDepth 100000 in
theorem f_X10_isHeld (g : GG) (l : Launch) (K len : Nat → Nat) (I : Nat → Nat → Int32) (J : Nat → Nat → Int64) (R : Nat → Nat → Option Nat) (hs : Sf K len I R) (a0 : Nat) (ka0 : K a0 = 11) (x1 : Int32) (hm : Nat) (hbm : R a0 3 = some hm) (khm : K hm = 10) (lr : Nat) (hlr : R a0 15 = some lr) (klr : K lr = 85) (llr : len lr = 60) (sr : Nat) (hsr : R a0 16 = some sr) (ksr : K sr = 86) (lsr : len sr = 300) (ir : Nat) (hir : R a0 17 = some ir) (kir : K ir = 87) (lir : len ir = 300) (wr : Nat) (hwr : R a0 18 = some wr) (kwr : K wr = 88) (lwr : len wr = 300) (D : DD) (E : Nat → Nat → Int) (mc : MC D E a0 hm I R) (s : Nat) (hsk : (s : Int) < D 0 7) (mo : MO D s (LP1 D) 1 a0 lr sr ir wr I) (p0 : 0 ≤ x1.toInt) (p1 : x1.toInt ≤ 59) : Ct g l yX10_isHeld cX10_isHeld 3 (Option.some Jvm.ClassFile.FieldType.boolean) rmX10_isHeld [.ref a0, .int x1] (K, len, I, J, R) (pI0 (K, len, I, J, R) (fun r => (r.toInt = 1 ∧ (Tg D s (Ad D s (LP1 D) 1) (min (x1.toInt + 5) 59) < Tg D s (Ad D s (LP1 D) 1) (x1.toInt - 1) ∧ (GV D s (Ad D s (LP1 D) 1) 60 = -2 ∨ min (x1.toInt + 5) 59 < GV D s (Ad D s (LP1 D) 1) 60)) ∨ r.toInt = 0 ∧ ¬ (Tg D s (Ad D s (LP1 D) 1) (min (x1.toInt + 5) 59) < Tg D s (Ad D s (LP1 D) 1) (x1.toInt - 1) ∧ (GV D s (Ad D s (LP1 D) 1) 60 = -2 ∨ min (x1.toInt + 5) 59 < GV D s (Ad D s (LP1 D) 1) 60))))) := by
  refine Ct_intro (by decide +kernel) (Nat.le_of_ble_eq_true rfl) (fun X hC hL hKK hNm hr hlk hQ => ?_)
  subst hL
  have hC : Cx g X cX10_isHeld "HillTapModel" 3 rmX10_isHeld := hC
  show P g X 3 0 [(0, .ref a0), (1, .int x1)] [] 0 0 (K, len, I, J, R)
  have hF : Fr K [] I I := Fr.refl
  obtain ⟨⟨hJ, hR6, hD7⟩, rwm, ⟨hd1, hd2, hd3, hd4, hd5, hd7, hd8, hd9⟩, -⟩ := id mc
  have hcx := CM_x hs khm
  have b5 := hs.rng khm (k := 3) rfl (x := I hm 3) rfl
  have b7 := hs.rng khm (k := 7) rfl (x := I hm 7) rfl
  have b8 := hs.rng khm (k := 8) rfl (x := I hm 8) rfl
  have b20 := hs.rng ka0 (k := 20) rfl (x := I a0 20) rfl
  have b_x1 := ti_rng x1
  refine r_iload_n hC dX10_isHeld_0 1 rfl ?_
  refine r_iconst hC (v := (5)) dX10_isHeld_1 (by decide) (by decide) (fun x1_ e1 t1 => ?_)
  refine r_iadd hC dX10_isHeld_2 (fun x2_ e2 => ?_)
  try have t2 : x2_.toInt = x1.toInt + x1_.toInt := by rw [e2]; exact ti_add (by omega) (by omega)
  refine r_bipush hC (v := (59)) dX10_isHeld_3 (by decide) (by decide) (fun x3_ e3 t3 => ?_)
  refine r_icmp_le hC (tgt := 13) dX10_isHeld_5 (by decide) (fun c4 => ?_) (fun c4 => ?_)
  · refine r_iload_n hC dX10_isHeld_13 1 rfl ?_
    refine r_iconst hC (v := (5)) dX10_isHeld_14 (by decide) (by decide) (fun x5_ e5 t5 => ?_)
    refine r_iadd hC dX10_isHeld_15 (fun x6_ e6 => ?_)
    try have t6 : x6_.toInt = x1.toInt + x5_.toInt := by rw [e6]; exact ti_add (by omega) (by omega)
    refine r_istore_n hC (lv' := [(2, .int x6_), (0, .ref a0), (1, .int x1)]) dX10_isHeld_16 (by decide) rfl ?_
    have qmin : x6_.toInt = min (x1.toInt + 5) 59 := by omega
    refine r_aload_n hC dX10_isHeld_17 1 rfl ?_
    refine r_iload_n hC dX10_isHeld_18 0 rfl ?_
    refine r_callV hC (As := [.int x6_]) (rest := []) (ci := 10) (f_X10_speeds g (xL X) K len I J R hs a0 ka0 x6_ hm hbm khm lr hlr klr llr sr hsr ksr lsr ir hir kir lir wr hwr kwr lwr D E mc s hsk mo (by omega)) mT_6_167 mT_1_10 mT_6_164 mT_6_166 mP_81 okX10_speeds ⟨by decide, by decide⟩ rfl (by show kO (K a0) = _; rw [ka0]; rfl) rfl rfl (Nat.le_of_ble_eq_true rfl) ⟨by decide, by decide⟩ dX10_isHeld_19 (aI0 (F := fun st M => P g X 3 22 [(2, .int x6_), (0, .ref a0), (1, .int x1)] st _ _ M) (M := (K, len, I, J, R)) fun x7_ h7 => ?_)
    obtain ⟨k7_0, k7_1⟩ := h7
    show P g X 3 22 [(2, .int x6_), (0, .ref a0), (1, .int x1)] [.int x7_] _ _ (K, len, I, J, R)
    have qt : x7_.toInt = Tg D s (Ad D s (LP1 D) 1) (min (x1.toInt + 5) 59) := by rw [k7_0, qmin]
    refine r_aload_n hC dX10_isHeld_22 1 rfl ?_
    refine r_iload_n hC dX10_isHeld_23 2 rfl ?_
    refine r_iconst hC (v := (1)) dX10_isHeld_24 (by decide) (by decide) (fun x8_ e8 t8 => ?_)
    refine r_isub hC dX10_isHeld_25 (fun x9_ e9 => ?_)
    try have t9 : x9_.toInt = x1.toInt - x8_.toInt := by rw [e9]; exact ti_sub (by omega) (by omega)
    refine r_callV hC (As := [.int x9_]) (rest := [.int x7_]) (ci := 10) (f_X10_speeds g (xL X) K len I J R hs a0 ka0 x9_ hm hbm khm lr hlr klr llr sr hsr ksr lsr ir hir kir lir wr hwr kwr lwr D E mc s hsk mo (by omega)) mT_6_167 mT_1_10 mT_6_164 mT_6_166 mP_81 okX10_speeds ⟨by decide, by decide⟩ rfl (by show kO (K a0) = _; rw [ka0]; rfl) rfl rfl (Nat.le_of_ble_eq_true rfl) ⟨by decide, by decide⟩ dX10_isHeld_26 (aI0 (F := fun st M => P g X 3 29 [(2, .int x6_), (0, .ref a0), (1, .int x1)] st _ _ M) (M := (K, len, I, J, R)) fun x10_ h10 => ?_)
    obtain ⟨k10_0, k10_1⟩ := h10
    show P g X 3 29 [(2, .int x6_), (0, .ref a0), (1, .int x1)] [.int x10_, .int x7_] _ _ (K, len, I, J, R)
    have qu : x10_.toInt = Tg D s (Ad D s (LP1 D) 1) (x1.toInt - 1) := by rw [k10_0, show x9_.toInt = x1.toInt - 1 by omega]
    refine r_icmp_ge hC (tgt := 53) dX10_isHeld_29 (by decide) (fun c11 => ?_) (fun c11 => ?_)
    · refine r_iconst hC (v := (0)) dX10_isHeld_53 (by decide) (by decide) (fun x12_ e12 t12 => ?_)
      exact r_iret hC hQ hlk hr (by rw [e12]; rfl) (by decide) (by decide) dX10_isHeld_54 ⟨_, rfl, rfl, (by omega)⟩
    · refine r_aload_n hC dX10_isHeld_32 1 rfl ?_
      refine r_geti hC 19 (ci := 10) rfl u10_in (by decide) mT_5_14 dX10_isHeld_33 ka0 rfl rfl (fun x13_ e13 => ?_)
      have r13 := hs.rng ka0 rfl e13
      have q13 := hs.gone ka0 e13
      have f13 : x13_.toInt = (I a0 19).toInt := by rw [e13]
      have q13g : x13_.toInt = GV D s (Ad D s (LP1 D) 1) 60 := by rw [e13]; exact mo.2.2
      refine r_bipush hC (v := (-2)) dX10_isHeld_36 (by decide) (by decide) (fun x14_ e14 t14 => ?_)
      refine r_icmp_eq hC (tgt := 49) dX10_isHeld_38 (by decide) (fun c15 => ?_) (fun c15 => ?_)
      · refine r_iconst hC (v := (1)) dX10_isHeld_49 (by decide) (by decide) (fun x16_ e16 t16 => ?_)
        refine r_goto hC (tgt := 54) dX10_isHeld_50 (by decide) ?_
        exact r_iret hC hQ hlk hr (by rw [e16]; rfl) (by decide) (by decide) dX10_isHeld_54 ⟨_, rfl, rfl, (by omega)⟩
      · refine r_aload_n hC dX10_isHeld_41 1 rfl ?_
        refine r_geti hC 19 (ci := 10) rfl u10_in (by decide) mT_5_14 dX10_isHeld_42 ka0 rfl rfl (fun x17_ e17 => ?_)
        have r17 := hs.rng ka0 rfl e17
        have q17 := hs.gone ka0 e17
        have f17 : x17_.toInt = (I a0 19).toInt := by rw [e17]
        have w17 : x17_ = x13_ := by rw [e17]; exact e13.symm
        have wt17 : x17_.toInt = x13_.toInt := by rw [w17]
        have q17g : x17_.toInt = GV D s (Ad D s (LP1 D) 1) 60 := by rw [e17]; exact mo.2.2
        refine r_iload_n hC dX10_isHeld_45 0 rfl ?_
        refine r_icmp_le hC (tgt := 53) dX10_isHeld_46 (by decide) (fun c18 => ?_) (fun c18 => ?_)
        · refine r_iconst hC (v := (0)) dX10_isHeld_53 (by decide) (by decide) (fun x19_ e19 t19 => ?_)
          exact r_iret hC hQ hlk hr (by rw [e19]; rfl) (by decide) (by decide) dX10_isHeld_54 ⟨_, rfl, rfl, (by omega)⟩
        · refine r_iconst hC (v := (1)) dX10_isHeld_49 (by decide) (by decide) (fun x20_ e20 t20 => ?_)
          refine r_goto hC (tgt := 54) dX10_isHeld_50 (by decide) ?_
          exact r_iret hC hQ hlk hr (by rw [e20]; rfl) (by decide) (by decide) dX10_isHeld_54 ⟨_, rfl, rfl, (by omega)⟩
  · refine r_bipush hC (v := (59)) dX10_isHeld_8 (by decide) (by decide) (fun x21_ e21 t21 => ?_)
    refine r_goto hC (tgt := 16) dX10_isHeld_10 (by decide) ?_
    refine r_istore_n hC (lv' := [(2, .int x21_), (0, .ref a0), (1, .int x1)]) dX10_isHeld_16 (by decide) rfl ?_
    have qmin : x21_.toInt = min (x1.toInt + 5) 59 := by omega
    refine r_aload_n hC dX10_isHeld_17 1 rfl ?_
    refine r_iload_n hC dX10_isHeld_18 0 rfl ?_
    refine r_callV hC (As := [.int x21_]) (rest := []) (ci := 10) (f_X10_speeds g (xL X) K len I J R hs a0 ka0 x21_ hm hbm khm lr hlr klr llr sr hsr ksr lsr ir hir kir lir wr hwr kwr lwr D E mc s hsk mo (by omega)) mT_6_167 mT_1_10 mT_6_164 mT_6_166 mP_81 okX10_speeds ⟨by decide, by decide⟩ rfl (by show kO (K a0) = _; rw [ka0]; rfl) rfl rfl (Nat.le_of_ble_eq_true rfl) ⟨by decide, by decide⟩ dX10_isHeld_19 (aI0 (F := fun st M => P g X 3 22 [(2, .int x21_), (0, .ref a0), (1, .int x1)] st _ _ M) (M := (K, len, I, J, R)) fun x22_ h22 => ?_)
    obtain ⟨k22_0, k22_1⟩ := h22
    show P g X 3 22 [(2, .int x21_), (0, .ref a0), (1, .int x1)] [.int x22_] _ _ (K, len, I, J, R)
    have qt : x22_.toInt = Tg D s (Ad D s (LP1 D) 1) (min (x1.toInt + 5) 59) := by rw [k22_0, qmin]
    refine r_aload_n hC dX10_isHeld_22 1 rfl ?_
    refine r_iload_n hC dX10_isHeld_23 2 rfl ?_
    refine r_iconst hC (v := (1)) dX10_isHeld_24 (by decide) (by decide) (fun x23_ e23 t23 => ?_)
    refine r_isub hC dX10_isHeld_25 (fun x24_ e24 => ?_)
    try have t24 : x24_.toInt = x1.toInt - x23_.toInt := by rw [e24]; exact ti_sub (by omega) (by omega)
    refine r_callV hC (As := [.int x24_]) (rest := [.int x22_]) (ci := 10) (f_X10_speeds g (xL X) K len I J R hs a0 ka0 x24_ hm hbm khm lr hlr klr llr sr hsr ksr lsr ir hir kir lir wr hwr kwr lwr D E mc s hsk mo (by omega)) mT_6_167 mT_1_10 mT_6_164 mT_6_166 mP_81 okX10_speeds ⟨by decide, by decide⟩ rfl (by show kO (K a0) = _; rw [ka0]; rfl) rfl rfl (Nat.le_of_ble_eq_true rfl) ⟨by decide, by decide⟩ dX10_isHeld_26 (aI0 (F := fun st M => P g X 3 29 [(2, .int x21_), (0, .ref a0), (1, .int x1)] st _ _ M) (M := (K, len, I, J, R)) fun x25_ h25 => ?_)
    obtain ⟨k25_0, k25_1⟩ := h25
    show P g X 3 29 [(2, .int x21_), (0, .ref a0), (1, .int x1)] [.int x25_, .int x22_] _ _ (K, len, I, J, R)
    have qu : x25_.toInt = Tg D s (Ad D s (LP1 D) 1) (x1.toInt - 1) := by rw [k25_0, show x24_.toInt = x1.toInt - 1 by omega]
    refine r_icmp_ge hC (tgt := 53) dX10_isHeld_29 (by decide) (fun c26 => ?_) (fun c26 => ?_)
    · refine r_iconst hC (v := (0)) dX10_isHeld_53 (by decide) (by decide) (fun x27_ e27 t27 => ?_)
      exact r_iret hC hQ hlk hr (by rw [e27]; rfl) (by decide) (by decide) dX10_isHeld_54 ⟨_, rfl, rfl, (by omega)⟩
    · refine r_aload_n hC dX10_isHeld_32 1 rfl ?_
      refine r_geti hC 19 (ci := 10) rfl u10_in (by decide) mT_5_14 dX10_isHeld_33 ka0 rfl rfl (fun x28_ e28 => ?_)
      have r28 := hs.rng ka0 rfl e28
      have q28 := hs.gone ka0 e28
      have f28 : x28_.toInt = (I a0 19).toInt := by rw [e28]
      have q28g : x28_.toInt = GV D s (Ad D s (LP1 D) 1) 60 := by rw [e28]; exact mo.2.2
      refine r_bipush hC (v := (-2)) dX10_isHeld_36 (by decide) (by decide) (fun x29_ e29 t29 => ?_)
      refine r_icmp_eq hC (tgt := 49) dX10_isHeld_38 (by decide) (fun c30 => ?_) (fun c30 => ?_)
      · refine r_iconst hC (v := (1)) dX10_isHeld_49 (by decide) (by decide) (fun x31_ e31 t31 => ?_)
        refine r_goto hC (tgt := 54) dX10_isHeld_50 (by decide) ?_
        exact r_iret hC hQ hlk hr (by rw [e31]; rfl) (by decide) (by decide) dX10_isHeld_54 ⟨_, rfl, rfl, (by omega)⟩
      · refine r_aload_n hC dX10_isHeld_41 1 rfl ?_
        refine r_geti hC 19 (ci := 10) rfl u10_in (by decide) mT_5_14 dX10_isHeld_42 ka0 rfl rfl (fun x32_ e32 => ?_)
        have r32 := hs.rng ka0 rfl e32
        have q32 := hs.gone ka0 e32
        have f32 : x32_.toInt = (I a0 19).toInt := by rw [e32]
        have w32 : x32_ = x28_ := by rw [e32]; exact e28.symm
        have wt32 : x32_.toInt = x28_.toInt := by rw [w32]
        have q32g : x32_.toInt = GV D s (Ad D s (LP1 D) 1) 60 := by rw [e32]; exact mo.2.2
        refine r_iload_n hC dX10_isHeld_45 0 rfl ?_
        refine r_icmp_le hC (tgt := 53) dX10_isHeld_46 (by decide) (fun c33 => ?_) (fun c33 => ?_)
        · refine r_iconst hC (v := (0)) dX10_isHeld_53 (by decide) (by decide) (fun x34_ e34 t34 => ?_)
          exact r_iret hC hQ hlk hr (by rw [e34]; rfl) (by decide) (by decide) dX10_isHeld_54 ⟨_, rfl, rfl, (by omega)⟩
        · refine r_iconst hC (v := (1)) dX10_isHeld_49 (by decide) (by decide) (fun x35_ e35 t35 => ?_)
          refine r_goto hC (tgt := 54) dX10_isHeld_50 (by decide) ?_
          exact r_iret hC hQ hlk hr (by rw [e35]; rfl) (by decide) (by decide) dX10_isHeld_54 ⟨_, rfl, rfl, (by omega)⟩
set_option maxHeartbeats 4000000 in
set_option maxRecDepth 100000 in
theorem f_X10_tapOf (g : GG) (l : Launch) (K len : Nat → Nat) (I : Nat → Nat → Int32) (J : Nat → Nat → Int64) (R : Nat → Nat → Option Nat) (hs : Sf K len I R) (a0 : Nat) (ka0 : K a0 = 11) (x1 : Int32) (hm : Nat) (hbm : R a0 3 = some hm) (khm : K hm = 10) (ps1 : x1.toInt < (I hm 7).toInt) (lr : Nat) (hlr : R a0 15 = some lr) (klr : K lr = 85) (llr : len lr = 60) (sr : Nat) (hsr : R a0 16 = some sr) (ksr : K sr = 86) (lsr : len sr = 300) (ir : Nat) (hir : R a0 17 = some ir) (kir : K ir = 87) (lir : len ir = 300) (wr : Nat) (hwr : R a0 18 = some wr) (kwr : K wr = 88) (lwr : len wr = 300) (D : DD) (E : Nat → Nat → Int) (mc : MC D E a0 hm I R) (p0 : 0 ≤ x1.toInt) (p1 : x1.toInt ≤ 5) : Ct g l yX10_tapOf cX10_tapOf 4 (Option.some Jvm.ClassFile.FieldType.int) rmX10_tapOf [.ref a0, .int x1] (K, len, I, J, R) (pI1 (K, len, I, J, R) (fun r I' => Sf K len I' R ∧ Fr K [(11, 19), (85, 999), (86, 999), (87, 999), (88, 999)] I I' ∧ (r.toInt = TapV D x1.toInt.toNat) ∧ (0 ≤ r.toInt ∧ r.toInt ≤ 60) ∧ (MO D x1.toInt.toNat (LP1 D) 1 a0 lr sr ir wr I'))) := by
  refine Ct_intro (by decide +kernel) (Nat.le_of_ble_eq_true rfl) (fun X hC hL hKK hNm hr hlk hQ => ?_)
  subst hL
  have hC : Cx g X cX10_tapOf "HillTapModel" 4 rmX10_tapOf := hC
  show P g X 4 0 [(0, .ref a0), (1, .int x1)] [] 0 0 (K, len, I, J, R)
  have hF : Fr K [(11, 19), (85, 999), (86, 999), (87, 999), (88, 999)] I I := Fr.refl
  obtain ⟨⟨hJ, hR6, hD7⟩, rwm, ⟨hd1, hd2, hd3, hd4, hd5, hd7, hd8, hd9⟩, -⟩ := id mc
  have hcx := CM_x hs khm
  have b5 := hs.rng khm (k := 3) rfl (x := I hm 3) rfl
  have b7 := hs.rng khm (k := 7) rfl (x := I hm 7) rfl
  have b8 := hs.rng khm (k := 8) rfl (x := I hm 8) rfl
  have b20 := hs.rng ka0 (k := 20) rfl (x := I a0 20) rfl
  have b_x1 := ti_rng x1
  obtain ⟨S0, eS0⟩ : ∃ z : Int32, z = I hm 7 := ⟨_, rfl⟩
  have fS0 : S0.toInt = (I hm 7).toInt := by rw [eS0]
  have rS0 := hs.rng khm rfl eS0
  refine r_aload_n hC dX10_tapOf_0 0 rfl ?_
  refine r_iload_n hC dX10_tapOf_1 1 rfl ?_
  have hv1 : I hm 7 = S0 := eS0.symm
  refine r_callV hC (As := [.int x1]) (rest := []) (ci := 10) (f_X10_runsAsTold g (xL X) K len I J R hs a0 ka0 x1 hm hbm khm (by rw [hv1]; omega) lr hlr klr llr sr hsr ksr lsr ir hir kir lir wr hwr kwr lwr D E mc (by omega) (by omega)) mT_6_127 mT_1_10 mT_6_124 mT_6_126 mP_73 okX10_runsAsTold ⟨by decide, by decide⟩ rfl (by show kO (K a0) = _; rw [ka0]; rfl) rfl rfl (Nat.le_of_ble_eq_true rfl) ⟨by decide, by decide⟩ dX10_tapOf_2 (aV1 (F := fun st M => P g X 4 5 [(0, .ref a0), (1, .int x1)] st _ _ M) (M := (K, len, I, J, R)) fun I2 h2 => ?_)
  obtain ⟨hs2, hf2, k2_0⟩ := h2
  show P g X 4 5 [(0, .ref a0), (1, .int x1)] [] _ _ (K, len, I2, J, R)
  have hF2 : Fr K [(11, 19), (85, 999), (86, 999), (87, 999), (88, 999)] I I2 := hF.trans hf2 rfl rfl
  refine r_iconst hC (v := (0)) dX10_tapOf_5 (by decide) (by decide) (fun x3_ e3 t3 => ?_)
  refine r_istore_n hC (lv' := [(2, .int x3_), (0, .ref a0), (1, .int x1)]) dX10_tapOf_6 (by decide) rfl ?_
  refine r_iconst hC (v := (0)) dX10_tapOf_7 (by decide) (by decide) (fun x4_ e4 t4 => ?_)
  refine r_istore_n hC (lv' := [(3, .int x4_), (2, .int x3_), (0, .ref a0), (1, .int x1)]) dX10_tapOf_8 (by decide) rfl ?_
  have LP5 : ∀ (mu : Nat) (x5_3 : Int32) (x5_2 : Int32) (v5_0 : 0 ≤ x5_3.toInt) (v5_1 : x5_3.toInt ≤ 60) (v5_2 : x5_2.toInt = Tp D x1.toInt.toNat x5_3.toInt.toNat) (v5_3 : 0 ≤ x5_2.toInt ∧ x5_2.toInt ≤ x5_3.toInt), (60 - x5_3.toInt).toNat = mu → P g X 4 9 [(0, .ref a0), (1, .int x1), (2, .int x5_2), (3, .int x5_3)] [] 0 0 (K, len, I2, J, R) := by
    intro mu; induction mu using Nat.strongRecOn with | ind mu ih => ?_
    intro x5_3 x5_2 v5_0 v5_1 v5_2 v5_3 hmu
    have ih5 := ih
    clear ih
    have hmu5 := hmu
    clear hmu
    refine r_iload_n hC dX10_tapOf_9 3 rfl ?_
    refine r_bipush hC (v := (60)) dX10_tapOf_10 (by decide) (by decide) (fun x6_ e6 t6 => ?_)
    refine r_icmp_ge hC (tgt := 45) dX10_tapOf_12 (by decide) (fun c7 => ?_) (fun c7 => ?_)
    · refine r_iload_n hC dX10_tapOf_45 2 rfl ?_
      exact r_iret hC hQ hlk hr rfl (by decide) (by decide) dX10_tapOf_46 ⟨_, _, rfl, rfl, ⟨hs2, hF2, (by first | (rw [TapV_e (n := x5_3.toInt.toNat) (by omega) (by omega)]; omega) | (rw [TapV_f (n := x5_3.toInt.toNat) (i := x5_3.toInt) (by omega) (by omega) (by omega) (by omega) (by omega)]; omega)), (by omega), (by exact k2_0)⟩⟩
    · refine r_aload_n hC dX10_tapOf_15 0 rfl ?_
      refine r_iload_n hC dX10_tapOf_16 3 rfl ?_
      refine r_callV hC (As := [.int x5_3]) (rest := []) (ci := 10) (f_X10_isLetting g (xL X) K len I2 J R hs2 a0 ka0 x5_3 hm hbm khm lr hlr klr llr sr hsr ksr lsr ir hir kir lir wr hwr kwr lwr D E (mc.mv hs ka0 khm hF2 rfl) k2_0.1 (by omega) (by omega)) mT_6_216 mT_1_10 mT_6_213 mT_6_215 mP_86 okX10_isLetting ⟨by decide, by decide⟩ rfl (by show kO (K a0) = _; rw [ka0]; rfl) rfl rfl (Nat.le_of_ble_eq_true rfl) ⟨by decide, by decide⟩ dX10_tapOf_17 (aI0 (F := fun st M => P g X 4 20 [(0, .ref a0), (1, .int x1), (2, .int x5_2), (3, .int x5_3)] st _ _ M) (M := (K, len, I2, J, R)) fun x8_ h8 => ?_)
      have k8_0 := h8
      clear h8
      show P g X 4 20 [(0, .ref a0), (1, .int x1), (2, .int x5_2), (3, .int x5_3)] [.int x8_] _ _ (K, len, I2, J, R)
      refine r_if_ne hC (tgt := 26) dX10_tapOf_20 (by decide) (fun c9 => ?_) (fun c9 => ?_)
      · refine r_aload_n hC dX10_tapOf_26 0 rfl ?_
        refine r_iload_n hC dX10_tapOf_27 3 rfl ?_
        refine r_callV hC (As := [.int x5_3]) (rest := []) (ci := 10) (f_X10_isHeld g (xL X) K len I2 J R hs2 a0 ka0 x5_3 hm hbm khm lr hlr klr llr sr hsr ksr lsr ir hir kir lir wr hwr kwr lwr D E (mc.mv hs ka0 khm hF2 rfl) x1.toInt.toNat (show ((x1.toInt.toNat : Nat) : Int) < D 0 7 by omega) k2_0 (by omega) (by omega)) mT_6_232 mT_1_10 mT_6_229 mT_6_231 mP_89 okX10_isHeld ⟨by decide, by decide⟩ rfl (by show kO (K a0) = _; rw [ka0]; rfl) rfl rfl (Nat.le_of_ble_eq_true rfl) ⟨by decide, by decide⟩ dX10_tapOf_28 (aI0 (F := fun st M => P g X 4 31 [(0, .ref a0), (1, .int x1), (2, .int x5_2), (3, .int x5_3)] st _ _ M) (M := (K, len, I2, J, R)) fun x10_ h10 => ?_)
        have k10_0 := h10
        clear h10
        show P g X 4 31 [(0, .ref a0), (1, .int x1), (2, .int x5_2), (3, .int x5_3)] [.int x10_] _ _ (K, len, I2, J, R)
        refine r_if_ne hC (tgt := 36) dX10_tapOf_31 (by decide) (fun c11 => ?_) (fun c11 => ?_)
        · obtain ⟨x12_, e12⟩ : ∃ z : Int32, z = x5_2 + Int32.ofInt (1) := ⟨_, rfl⟩
          refine r_iinc hC (j := 2) (v := x12_) (lv' := [(2, .int x12_), (0, .ref a0), (1, .int x1), (3, .int x5_3)]) dX10_tapOf_36 rfl (by rw [e12]) (by decide) rfl ?_
          try have t12 : x12_.toInt = x5_2.toInt + (1) := by rw [e12]; exact (ti_add (b := Int32.ofInt (1)) (by show _ ≤ _ + (1 : Int); omega) (by show _ + (1 : Int) ≤ _; omega))
          obtain ⟨x13_, e13⟩ : ∃ z : Int32, z = x5_3 + Int32.ofInt (1) := ⟨_, rfl⟩
          refine r_iinc hC (j := 3) (v := x13_) (lv' := [(3, .int x13_), (2, .int x12_), (0, .ref a0), (1, .int x1)]) dX10_tapOf_39 rfl (by rw [e13]) (by decide) rfl ?_
          try have t13 : x13_.toInt = x5_3.toInt + (1) := by rw [e13]; exact (ti_add (b := Int32.ofInt (1)) (by show _ ≤ _ + (1 : Int); omega) (by show _ + (1 : Int) ≤ _; omega))
          refine r_goto hC (tgt := 9) dX10_tapOf_42 (by decide) ?_
          refine r_sub [2, 3, 1, 0] rfl ?_
          exact ih5 ((60 - x13_.toInt).toNat) (by omega) x13_ x12_ (by omega) (by omega) (by first | (rw [show x13_.toInt.toNat = 0 by omega]; show _ = (0 : Int); omega) | (rw [show x13_.toInt.toNat = x5_3.toInt.toNat + 1 by omega, Tp_n (i := x5_3.toInt) (by omega) (by omega)]; omega) | (rw [show x13_.toInt.toNat = x5_3.toInt.toNat + 1 by omega, Tp_h (i := x5_3.toInt) (by omega) (by omega) (by omega) (by omega)]; omega)) (by omega) rfl
        · refine r_iload_n hC dX10_tapOf_34 2 rfl ?_
          exact r_iret hC hQ hlk hr rfl (by decide) (by decide) dX10_tapOf_35 ⟨_, _, rfl, rfl, ⟨hs2, hF2, (by first | (rw [TapV_e (n := x5_3.toInt.toNat) (by omega) (by omega)]; omega) | (rw [TapV_f (n := x5_3.toInt.toNat) (i := x5_3.toInt) (by omega) (by omega) (by omega) (by omega) (by omega)]; omega)), (by omega), (by exact k2_0)⟩⟩
      · refine r_goto hC (tgt := 39) dX10_tapOf_23 (by decide) ?_
        obtain ⟨x14_, e14⟩ : ∃ z : Int32, z = x5_3 + Int32.ofInt (1) := ⟨_, rfl⟩
        refine r_iinc hC (j := 3) (v := x14_) (lv' := [(3, .int x14_), (0, .ref a0), (1, .int x1), (2, .int x5_2)]) dX10_tapOf_39 rfl (by rw [e14]) (by decide) rfl ?_
        try have t14 : x14_.toInt = x5_3.toInt + (1) := by rw [e14]; exact (ti_add (b := Int32.ofInt (1)) (by show _ ≤ _ + (1 : Int); omega) (by show _ + (1 : Int) ≤ _; omega))
        refine r_goto hC (tgt := 9) dX10_tapOf_42 (by decide) ?_
        refine r_sub [1, 2, 3, 0] rfl ?_
        exact ih5 ((60 - x14_.toInt).toNat) (by omega) x14_ x5_2 (by omega) (by omega) (by first | (rw [show x14_.toInt.toNat = 0 by omega]; show _ = (0 : Int); omega) | (rw [show x14_.toInt.toNat = x5_3.toInt.toNat + 1 by omega, Tp_n (i := x5_3.toInt) (by omega) (by omega)]; omega) | (rw [show x14_.toInt.toNat = x5_3.toInt.toNat + 1 by omega, Tp_h (i := x5_3.toInt) (by omega) (by omega) (by omega) (by omega)]; omega)) (by omega) rfl
  refine r_sub [2, 3, 1, 0] rfl ?_
  exact LP5 _ x4_ x3_ (by omega) (by omega) (by first | (rw [show x4_.toInt.toNat = 0 by omega]; show _ = (0 : Int); omega) | (rw [show x4_.toInt.toNat = x5_3.toInt.toNat + 1 by omega, Tp_n (i := x5_3.toInt) (by omega) (by omega)]; omega) | (rw [show x4_.toInt.toNat = x5_3.toInt.toNat + 1 by omega, Tp_h (i := x5_3.toInt) (by omega) (by omega) (by omega) (by omega)]; omega)) (by omega) rfl
set_option maxHeartbeats 4000000 in
set_option maxRecDepth 100000 in
theorem f_X10_tap (g : GG) (l : Launch) (K len : Nat → Nat) (I : Nat → Nat → Int32) (J : Nat → Nat → Int64) (R : Nat → Nat → Option Nat) (hs : Sf K len I R) (a0 : Nat) (ka0 : K a0 = 11) (x1 : Int32) (D : DD) (E : Nat → Nat → Int) (hmx : ∀ hm, R a0 3 = some hm → MC D E a0 hm I R) : Ct g l yX10_tap cX10_tap 2 (Option.some Jvm.ClassFile.FieldType.int) rmX10_tap [.ref a0, .int x1] (K, len, I, J, R) (pI1 (K, len, I, J, R) (fun r I' => Sf K len I' R ∧ Fr K [(11, 0), (11, 1), (11, 2), (11, 19), (85, 999), (86, 999), (87, 999), (88, 999)] I I' ∧ ((R a0 3 = none ∧ r.toInt = -1) ∨ (∃ hm, R a0 3 = some hm ∧ ((0 ≤ x1.toInt ∧ x1.toInt < D 0 7) ∧ r.toInt = TapV D x1.toInt.toNat ∨ ¬ (0 ≤ x1.toInt ∧ x1.toInt < D 0 7) ∧ r.toInt = -1))) ∧ ((I' a0 2).toInt = -1))) := by
  refine Ct_intro (by decide +kernel) (Nat.le_of_ble_eq_true rfl) (fun X hC hL hKK hNm hr hlk hQ => ?_)
  subst hL
  have hC : Cx g X cX10_tap "HillTapModel" 2 rmX10_tap := hC
  show P g X 2 0 [(0, .ref a0), (1, .int x1)] [] 0 0 (K, len, I, J, R)
  have hF : Fr K [(11, 0), (11, 1), (11, 2), (11, 19), (85, 999), (86, 999), (87, 999), (88, 999)] I I := Fr.refl
  obtain ⟨lr, hlr, klr, llr⟩ := hs.row ka0 15 85 60 (by decide) (by decide)
  obtain ⟨sr, hsr, ksr, lsr⟩ := hs.row ka0 16 86 300 (by decide) (by decide)
  obtain ⟨ir, hir, kir, lir⟩ := hs.row ka0 17 87 300 (by decide) (by decide)
  obtain ⟨wr, hwr, kwr, lwr⟩ := hs.row ka0 18 88 300 (by decide) (by decide)
  have b_x1 := ti_rng x1
  rcases hs.2.1.2.2.1 a0 ka0 with hz | ⟨hm, hbm, khm⟩
  · refine r_aload_n hC dX10_tap_0 0 rfl ?_
    refine r_iconst hC (v := (0)) dX10_tap_1 (by decide) (by decide) (fun x1_ e1 t1 => ?_)
    refine r_puti hC 0 (ci := 10) rfl u10_in tyX10_ok nmX10 (by decide) mT_4_235 rfl rfl rfl dX10_tap_2 ka0 rfl rfl (fun I2 eI2 => ?_)
    have hs2 := hs.put0 eI2 ka0 rfl rfl rfl (by decide)
    have hF2 := hF.put eI2 ka0 rfl
    refine r_aload_n hC dX10_tap_5 0 rfl ?_
    refine r_iload_n hC dX10_tap_6 1 rfl ?_
    refine r_callV hC (As := [.int x1]) (rest := []) (ci := 10) (f_X10_isStory g (xL X) K len I2 J R hs2 a0 ka0 x1) mT_6_119 mT_1_10 mT_6_116 mT_6_118 mP_71 okX10_isStory ⟨by decide, by decide⟩ rfl (by show kO (K a0) = _; rw [ka0]; rfl) rfl rfl (Nat.le_of_ble_eq_true rfl) ⟨by decide, by decide⟩ dX10_tap_7 (aI0 (F := fun st M => P g X 2 10 [(0, .ref a0), (1, .int x1)] st _ _ M) (M := (K, len, I2, J, R)) fun x3_ h3 => ?_)
    have k3_0 := h3
    clear h3
    show P g X 2 10 [(0, .ref a0), (1, .int x1)] [.int x3_] _ _ (K, len, I2, J, R)
    have kq3 : x3_.toInt = 0 := by rcases k3_0 with ⟨z, y⟩ | ⟨hm9, z, y⟩; exact y; rw [hz] at z; cases z
    clear k3_0
    refine r_if_eq hC (tgt := 25) dX10_tap_10 (by decide) (fun c4 => ?_) (fun c4 => ?_)
    rotate_left
    · exfalso; omega
    refine r_aload_n hC dX10_tap_25 0 rfl ?_
    refine r_iconst hC (v := (1)) dX10_tap_26 (by decide) (by decide) (fun x5_ e5 t5 => ?_)
    refine r_callV hC (As := [.int x5_]) (rest := []) (ci := 10) (c_X10_refused g (xL X) K len I2 J R hs2 a0 ka0 x5_) mT_5_85 mT_1_10 mT_5_82 mT_5_84 mP_48 okX10_refused ⟨by decide, by decide⟩ rfl (by show kO (K a0) = _; rw [ka0]; rfl) rfl rfl (Nat.le_of_ble_eq_true rfl) ⟨by decide, by decide⟩ dX10_tap_27 (aI1 (F := fun st M => P g X 2 30 [(0, .ref a0), (1, .int x1)] st _ _ M) (M := (K, len, I2, J, R)) fun x6_ I6 h6 => ?_)
    obtain ⟨hs6, hf6, k6_0, k6_1, k6_2⟩ := h6
    show P g X 2 30 [(0, .ref a0), (1, .int x1)] [.int x6_] _ _ (K, len, I6, J, R)
    have hF6 : Fr K [(11, 0), (11, 1), (11, 2), (11, 19), (85, 999), (86, 999), (87, 999), (88, 999)] I I6 := hF2.trans hf6 rfl rfl
    exact r_iret hC hQ hlk hr rfl (by decide) (by decide) dX10_tap_30 ⟨_, _, rfl, rfl, ⟨hs6, hF6, (by first | exact Or.inl ⟨hz, by omega⟩ | exact Or.inr ⟨hm, hbm, Or.inr ⟨by omega, by omega⟩⟩ | exact Or.inr ⟨hm, hbm, Or.inl ⟨by omega, (congrArg Int32.toInt k6_0).trans NOlq⟩⟩), (by omega)⟩⟩
  · obtain ⟨S0, eS0⟩ : ∃ z : Int32, z = I hm 7 := ⟨_, rfl⟩
    have fS0 : S0.toInt = (I hm 7).toInt := by rw [eS0]
    have rS0 := hs.rng khm rfl eS0
    have mc := hmx hm hbm
    obtain ⟨⟨hJ, hR6, hD7⟩, rwm, ⟨hd1, hd2, hd3, hd4, hd5, hd7, hd8, hd9⟩, -⟩ := id mc
    have hcx := CM_x hs khm
    have b5 := hs.rng khm (k := 3) rfl (x := I hm 3) rfl
    have b7 := hs.rng khm (k := 7) rfl (x := I hm 7) rfl
    have b8 := hs.rng khm (k := 8) rfl (x := I hm 8) rfl
    have b20 := hs.rng ka0 (k := 20) rfl (x := I a0 20) rfl
    refine r_aload_n hC dX10_tap_0 0 rfl ?_
    refine r_iconst hC (v := (0)) dX10_tap_1 (by decide) (by decide) (fun x7_ e7 t7 => ?_)
    refine r_puti hC 0 (ci := 10) rfl u10_in tyX10_ok nmX10 (by decide) mT_4_235 rfl rfl rfl dX10_tap_2 ka0 rfl rfl (fun I8 eI8 => ?_)
    have hs8 := hs.put0 eI8 ka0 rfl rfl rfl (by decide)
    have hF8 := hF.put eI8 ka0 rfl
    refine r_aload_n hC dX10_tap_5 0 rfl ?_
    refine r_iload_n hC dX10_tap_6 1 rfl ?_
    refine r_callV hC (As := [.int x1]) (rest := []) (ci := 10) (f_X10_isStory g (xL X) K len I8 J R hs8 a0 ka0 x1) mT_6_119 mT_1_10 mT_6_116 mT_6_118 mP_71 okX10_isStory ⟨by decide, by decide⟩ rfl (by show kO (K a0) = _; rw [ka0]; rfl) rfl rfl (Nat.le_of_ble_eq_true rfl) ⟨by decide, by decide⟩ dX10_tap_7 (aI0 (F := fun st M => P g X 2 10 [(0, .ref a0), (1, .int x1)] st _ _ M) (M := (K, len, I8, J, R)) fun x9_ h9 => ?_)
    have k9_0 := h9
    clear h9
    show P g X 2 10 [(0, .ref a0), (1, .int x1)] [.int x9_] _ _ (K, len, I8, J, R)
    have kq9 : x9_.toInt = 1 ∧ (0 ≤ x1.toInt ∧ x1.toInt < D 0 7) ∨ x9_.toInt = 0 ∧ ¬ (0 ≤ x1.toInt ∧ x1.toInt < D 0 7) := by rcases k9_0 with ⟨z, -⟩ | ⟨hm9, z, y⟩ <;> rw [hbm] at z <;> cases z; rw [show (I8 hm 7).toInt = _ from (mc.mv hs ka0 khm hF8 rfl).2.2.1.2.2.2.2.2.1] at y; exact y
    clear k9_0
    refine r_if_eq hC (tgt := 25) dX10_tap_10 (by decide) (fun c10 => ?_) (fun c10 => ?_)
    · refine r_aload_n hC dX10_tap_25 0 rfl ?_
      refine r_iconst hC (v := (1)) dX10_tap_26 (by decide) (by decide) (fun x11_ e11 t11 => ?_)
      refine r_callV hC (As := [.int x11_]) (rest := []) (ci := 10) (c_X10_refused g (xL X) K len I8 J R hs8 a0 ka0 x11_) mT_5_85 mT_1_10 mT_5_82 mT_5_84 mP_48 okX10_refused ⟨by decide, by decide⟩ rfl (by show kO (K a0) = _; rw [ka0]; rfl) rfl rfl (Nat.le_of_ble_eq_true rfl) ⟨by decide, by decide⟩ dX10_tap_27 (aI1 (F := fun st M => P g X 2 30 [(0, .ref a0), (1, .int x1)] st _ _ M) (M := (K, len, I8, J, R)) fun x12_ I12 h12 => ?_)
      obtain ⟨hs12, hf12, k12_0, k12_1, k12_2⟩ := h12
      show P g X 2 30 [(0, .ref a0), (1, .int x1)] [.int x12_] _ _ (K, len, I12, J, R)
      have hF12 : Fr K [(11, 0), (11, 1), (11, 2), (11, 19), (85, 999), (86, 999), (87, 999), (88, 999)] I I12 := hF8.trans hf12 rfl rfl
      exact r_iret hC hQ hlk hr rfl (by decide) (by decide) dX10_tap_30 ⟨_, _, rfl, rfl, ⟨hs12, hF12, (by first | exact Or.inl ⟨hz, by omega⟩ | exact Or.inr ⟨hm, hbm, Or.inr ⟨by omega, by omega⟩⟩ | exact Or.inr ⟨hm, hbm, Or.inl ⟨by omega, (congrArg Int32.toInt k12_0).trans NOlq⟩⟩), (by omega)⟩⟩
    · refine r_aload_n hC dX10_tap_13 0 rfl ?_
      refine r_aload_n hC dX10_tap_14 0 rfl ?_
      refine r_iload_n hC dX10_tap_15 1 rfl ?_
      have hv13 : I8 hm 7 = S0 := (Eq.trans (up2_kk eI8 ka0 khm (by decide)) eS0.symm)
      refine r_callV hC (As := [.int x1]) (rest := [.ref a0]) (ci := 10) (f_X10_tapOf g (xL X) K len I8 J R hs8 a0 ka0 x1 hm hbm khm (by rw [hv13]; omega) lr hlr klr llr sr hsr ksr lsr ir hir kir lir wr hwr kwr lwr D E (mc.mv hs ka0 khm hF8 rfl) (by omega) (by omega)) mT_6_228 mT_1_10 mT_6_225 mT_6_227 mP_88 okX10_tapOf ⟨by decide, by decide⟩ rfl (by show kO (K a0) = _; rw [ka0]; rfl) rfl rfl (Nat.le_of_ble_eq_true rfl) ⟨by decide, by decide⟩ dX10_tap_16 (aI1 (F := fun st M => P g X 2 19 [(0, .ref a0), (1, .int x1)] st _ _ M) (M := (K, len, I8, J, R)) fun x14_ I14 h14 => ?_)
      obtain ⟨hs14, hf14, k14_0, k14_1, k14_2⟩ := h14
      show P g X 2 19 [(0, .ref a0), (1, .int x1)] [.int x14_, .ref a0] _ _ (K, len, I14, J, R)
      have hF14 : Fr K [(11, 0), (11, 1), (11, 2), (11, 19), (85, 999), (86, 999), (87, 999), (88, 999)] I I14 := hF8.trans hf14 rfl rfl
      refine r_callV hC (As := [.int x14_]) (rest := []) (ci := 10) (c_X10_done g (xL X) K len I14 J R hs14 a0 ka0 x14_) mT_6_79 mT_1_10 mT_6_76 mT_6_78 mP_67 okX10_done ⟨by decide, by decide⟩ rfl (by show kO (K a0) = _; rw [ka0]; rfl) rfl rfl (Nat.le_of_ble_eq_true rfl) ⟨by decide, by decide⟩ dX10_tap_19 (aI1 (F := fun st M => P g X 2 22 [(0, .ref a0), (1, .int x1)] st _ _ M) (M := (K, len, I14, J, R)) fun x15_ I15 h15 => ?_)
      obtain ⟨hs15, hf15, k15_0, k15_1, k15_2⟩ := h15
      show P g X 2 22 [(0, .ref a0), (1, .int x1)] [.int x15_] _ _ (K, len, I15, J, R)
      have hF15 : Fr K [(11, 0), (11, 1), (11, 2), (11, 19), (85, 999), (86, 999), (87, 999), (88, 999)] I I15 := hF14.trans hf15 rfl rfl
      have mo15 := k14_2.mv ka0 klr ksr kir kwr hf15 rfl
      refine r_goto hC (tgt := 30) dX10_tap_22 (by decide) ?_
      exact r_iret hC hQ hlk hr rfl (by decide) (by decide) dX10_tap_30 ⟨_, _, rfl, rfl, ⟨hs15, hF15, (by first | exact Or.inl ⟨hz, by omega⟩ | exact Or.inr ⟨hm, hbm, Or.inr ⟨by omega, by omega⟩⟩ | exact Or.inr ⟨hm, hbm, Or.inl ⟨by omega, (congrArg Int32.toInt k15_0).trans k14_0⟩⟩), (by omega)⟩⟩
