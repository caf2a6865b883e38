set_option maxHeartbeats 4000000 in
set_option maxRecDepth 100000 in
theorem f_X10_levelAt (g : GG) (l : Launch) (K len : Nat → Nat) (I : Nat → Nat → Int32) (J : Nat → Nat → Int64) (R : Nat → Nat → Option Nat) (hs : Sf K len I R) (a0 : Nat) (ka0 : K a0 = 11) (x1 : Int32) (hm : Nat) (hbm : R a0 3 = some hm) (khm : K hm = 10) (lr : Nat) (hlr : R a0 15 = some lr) (klr : K lr = 85) (llr : len lr = 60) (sr : Nat) (hsr : R a0 16 = some sr) (ksr : K sr = 86) (lsr : len sr = 300) (ir : Nat) (hir : R a0 17 = some ir) (kir : K ir = 87) (lir : len ir = 300) (wr : Nat) (hwr : R a0 18 = some wr) (kwr : K wr = 88) (lwr : len wr = 300) (D : DD) (E : Nat → Nat → Int) (mc : MC D E a0 hm I R) (hlv : ∀ j : Nat, j < 60 → (I lr j).toInt = LP1 D j) (p0 : x1.toInt ≤ 59) : Ct g l yX10_levelAt cX10_levelAt 2 (Option.some Jvm.ClassFile.FieldType.int) rmX10_levelAt [.ref a0, .int x1] (K, len, I, J, R) (pI0 (K, len, I, J, R) (fun r => (r.toInt = Lv D x1.toInt))) := by
  refine Ct_intro (by decide +kernel) (Nat.le_of_ble_eq_true rfl) (fun X hC hL hKK hNm hr hlk hQ => ?_)
  subst hL
  have hC : Cx g X cX10_levelAt "HillTapModel" 2 rmX10_levelAt := hC
  show P g X 2 0 [(0, .ref a0), (1, .int x1)] [] 0 0 (K, len, I, J, R)
  have hF : Fr K [] I I := Fr.refl
  obtain ⟨⟨hJ, hR6, hD7⟩, rwm, ⟨hd1, hd2, hd3, hd4, hd5, hd7, hd8, hd9⟩, -⟩ := id mc
  have hcx := CM_x hs khm
  have b5 := hs.rng khm (k := 3) rfl (x := I hm 3) rfl
  have b7 := hs.rng khm (k := 7) rfl (x := I hm 7) rfl
  have b8 := hs.rng khm (k := 8) rfl (x := I hm 8) rfl
  have b20 := hs.rng ka0 (k := 20) rfl (x := I a0 20) rfl
  have b_x1 := ti_rng x1
  refine r_iload_n hC dX10_levelAt_0 1 rfl ?_
  refine r_if_ge hC (tgt := 14) dX10_levelAt_1 (by decide) (fun c1 => ?_) (fun c1 => ?_)
  · refine r_aload_n hC dX10_levelAt_14 0 rfl ?_
    refine r_getr hC 15 (ci := 10) rfl u10_in (by decide) mT_5_10 dX10_levelAt_15 ka0 rfl rfl hlr ?_
    refine r_iload_n hC dX10_levelAt_18 1 rfl ?_
    refine x_iaload hC klr llr (by decide) rfl rfl dX10_levelAt_19 (by omega) (by omega) (fun x2_ e2 => ?_)
    have q2 : x2_.toInt = LP1 D x1.toInt.toNat := by rw [e2, clx (i := x1) rfl (by omega)]; exact hlv _ (by omega)
    exact r_iret hC hQ hlk hr rfl (by decide) (by decide) dX10_levelAt_20 ⟨_, rfl, rfl, (by first | (rw [Lv_n (by omega)]; omega) | (rw [Lv_p (by omega)]; exact q2))⟩
  · refine r_aload_n hC dX10_levelAt_4 0 rfl ?_
    refine r_getr hC 3 (ci := 10) rfl u10_in (by decide) mT_4_238 dX10_levelAt_5 ka0 rfl rfl hbm ?_
    refine r_getiN hC 0 (ci := 9) rfl u9_in (by decide) nF_0 dX10_levelAt_8 khm rfl rfl (fun x3_ e3 => ?_)
    have f3 : x3_.toInt = (I hm 0).toInt := by rw [e3]
    have sc3 : x3_.toInt = D 0 1 := by rw [e3]; exact mc.2.2.1.1
    refine r_goto hC (tgt := 20) dX10_levelAt_11 (by decide) ?_
    exact r_iret hC hQ hlk hr rfl (by decide) (by decide) dX10_levelAt_20 ⟨_, rfl, rfl, (by first | (rw [Lv_n (by omega)]; omega) | (rw [Lv_p (by omega)]; exact NOlq))⟩
set_option maxHeartbeats 4000000 in
set_option maxRecDepth 100000 in
theorem f_X10_isLetting (g : GG) (l : Launch) (K len : Nat → Nat) (I : Nat → Nat → Int32) (J : Nat → Nat → Int64) (R : Nat → Nat → Option Nat) (hs : Sf K len I R) (a0 : Nat) (ka0 : K a0 = 11) (x1 : Int32) (hm : Nat) (hbm : R a0 3 = some hm) (khm : K hm = 10) (lr : Nat) (hlr : R a0 15 = some lr) (klr : K lr = 85) (llr : len lr = 60) (sr : Nat) (hsr : R a0 16 = some sr) (ksr : K sr = 86) (lsr : len sr = 300) (ir : Nat) (hir : R a0 17 = some ir) (kir : K ir = 87) (lir : len ir = 300) (wr : Nat) (hwr : R a0 18 = some wr) (kwr : K wr = 88) (lwr : len wr = 300) (D : DD) (E : Nat → Nat → Int) (mc : MC D E a0 hm I R) (hlv : ∀ j : Nat, j < 60 → (I lr j).toInt = LP1 D j) (p0 : 0 ≤ x1.toInt) (p1 : x1.toInt ≤ 59) : Ct g l yX10_isLetting cX10_isLetting 2 (Option.some Jvm.ClassFile.FieldType.boolean) rmX10_isLetting [.ref a0, .int x1] (K, len, I, J, R) (pI0 (K, len, I, J, R) (fun r => (r.toInt = 1 ∧ (Lv D x1.toInt < Lv D (x1.toInt - 1) ∧ (x1.toInt = 0 ∨ Lv D (x1.toInt - 2) ≤ Lv D (x1.toInt - 1))) ∨ r.toInt = 0 ∧ ¬ (Lv D x1.toInt < Lv D (x1.toInt - 1) ∧ (x1.toInt = 0 ∨ Lv D (x1.toInt - 2) ≤ Lv D (x1.toInt - 1)))))) := by
  refine Ct_intro (by decide +kernel) (Nat.le_of_ble_eq_true rfl) (fun X hC hL hKK hNm hr hlk hQ => ?_)
  subst hL
  have hC : Cx g X cX10_isLetting "HillTapModel" 2 rmX10_isLetting := hC
  show P g X 2 0 [(0, .ref a0), (1, .int x1)] [] 0 0 (K, len, I, J, R)
  have hF : Fr K [] I I := Fr.refl
  obtain ⟨⟨hJ, hR6, hD7⟩, rwm, ⟨hd1, hd2, hd3, hd4, hd5, hd7, hd8, hd9⟩, -⟩ := id mc
  have hcx := CM_x hs khm
  have b5 := hs.rng khm (k := 3) rfl (x := I hm 3) rfl
  have b7 := hs.rng khm (k := 7) rfl (x := I hm 7) rfl
  have b8 := hs.rng khm (k := 8) rfl (x := I hm 8) rfl
  have b20 := hs.rng ka0 (k := 20) rfl (x := I a0 20) rfl
  have b_x1 := ti_rng x1
  refine r_aload_n hC dX10_isLetting_0 0 rfl ?_
  refine r_iload_n hC dX10_isLetting_1 1 rfl ?_
  refine r_callV hC (As := [.int x1]) (rest := []) (ci := 10) (f_X10_levelAt g (xL X) K len I J R hs a0 ka0 x1 hm hbm khm lr hlr klr llr sr hsr ksr lsr ir hir kir lir wr hwr kwr lwr D E mc hlv (by omega)) mT_6_220 mT_1_10 mT_6_217 mT_6_219 mP_87 okX10_levelAt ⟨by decide, by decide⟩ rfl (by show kO (K a0) = _; rw [ka0]; rfl) rfl rfl (Nat.le_of_ble_eq_true rfl) ⟨by decide, by decide⟩ dX10_isLetting_2 (aI0 (F := fun st M => P g X 2 5 [(0, .ref a0), (1, .int x1)] st _ _ M) (M := (K, len, I, J, R)) fun x1_ h1 => ?_)
  have k1_0 := h1
  clear h1
  show P g X 2 5 [(0, .ref a0), (1, .int x1)] [.int x1_] _ _ (K, len, I, J, R)
  refine r_aload_n hC dX10_isLetting_5 0 rfl ?_
  refine r_iload_n hC dX10_isLetting_6 1 rfl ?_
  refine r_iconst hC (v := (1)) dX10_isLetting_7 (by decide) (by decide) (fun x2_ e2 t2 => ?_)
  refine r_isub hC dX10_isLetting_8 (fun x3_ e3 => ?_)
  try have t3 : x3_.toInt = x1.toInt - x2_.toInt := by rw [e3]; exact ti_sub (by omega) (by omega)
  refine r_callV hC (As := [.int x3_]) (rest := [.int x1_]) (ci := 10) (f_X10_levelAt g (xL X) K len I J R hs a0 ka0 x3_ hm hbm khm lr hlr klr llr sr hsr ksr lsr ir hir kir lir wr hwr kwr lwr D E mc hlv (by omega)) mT_6_220 mT_1_10 mT_6_217 mT_6_219 mP_87 okX10_levelAt ⟨by decide, by decide⟩ rfl (by show kO (K a0) = _; rw [ka0]; rfl) rfl rfl (Nat.le_of_ble_eq_true rfl) ⟨by decide, by decide⟩ dX10_isLetting_9 (aI0 (F := fun st M => P g X 2 12 [(0, .ref a0), (1, .int x1)] st _ _ M) (M := (K, len, I, J, R)) fun x4_ h4 => ?_)
  have k4_0 := h4
  clear h4
  show P g X 2 12 [(0, .ref a0), (1, .int x1)] [.int x4_, .int x1_] _ _ (K, len, I, J, R)
  have g1 : x4_.toInt = Lv D (x1.toInt - 1) := by rw [k4_0, show x3_.toInt = x1.toInt - 1 by omega]
  refine r_icmp_ge hC (tgt := 40) dX10_isLetting_12 (by decide) (fun c5 => ?_) (fun c5 => ?_)
  · refine r_iconst hC (v := (0)) dX10_isLetting_40 (by decide) (by decide) (fun x6_ e6 t6 => ?_)
    exact r_iret hC hQ hlk hr (by rw [e6]; rfl) (by decide) (by decide) dX10_isLetting_41 ⟨_, rfl, rfl, (by omega)⟩
  · refine r_iload_n hC dX10_isLetting_15 1 rfl ?_
    refine r_if_eq hC (tgt := 36) dX10_isLetting_16 (by decide) (fun c7 => ?_) (fun c7 => ?_)
    · refine r_iconst hC (v := (1)) dX10_isLetting_36 (by decide) (by decide) (fun x8_ e8 t8 => ?_)
      refine r_goto hC (tgt := 41) dX10_isLetting_37 (by decide) ?_
      exact r_iret hC hQ hlk hr (by rw [e8]; rfl) (by decide) (by decide) dX10_isLetting_41 ⟨_, rfl, rfl, (by omega)⟩
    · refine r_aload_n hC dX10_isLetting_19 0 rfl ?_
      refine r_iload_n hC dX10_isLetting_20 1 rfl ?_
      refine r_iconst hC (v := (1)) dX10_isLetting_21 (by decide) (by decide) (fun x9_ e9 t9 => ?_)
      refine r_isub hC dX10_isLetting_22 (fun x10_ e10 => ?_)
      try have t10 : x10_.toInt = x1.toInt - x9_.toInt := by rw [e10]; exact ti_sub (by omega) (by omega)
      refine r_callV hC (As := [.int x10_]) (rest := []) (ci := 10) (f_X10_levelAt g (xL X) K len I J R hs a0 ka0 x10_ hm hbm khm lr hlr klr llr sr hsr ksr lsr ir hir kir lir wr hwr kwr lwr D E mc hlv (by omega)) mT_6_220 mT_1_10 mT_6_217 mT_6_219 mP_87 okX10_levelAt ⟨by decide, by decide⟩ rfl (by show kO (K a0) = _; rw [ka0]; rfl) rfl rfl (Nat.le_of_ble_eq_true rfl) ⟨by decide, by decide⟩ dX10_isLetting_23 (aI0 (F := fun st M => P g X 2 26 [(0, .ref a0), (1, .int x1)] st _ _ M) (M := (K, len, I, J, R)) fun x11_ h11 => ?_)
      have k11_0 := h11
      clear h11
      show P g X 2 26 [(0, .ref a0), (1, .int x1)] [.int x11_] _ _ (K, len, I, J, R)
      have g2 : x11_.toInt = Lv D (x1.toInt - 1) := by rw [k11_0, show x10_.toInt = x1.toInt - 1 by omega]
      refine r_aload_n hC dX10_isLetting_26 0 rfl ?_
      refine r_iload_n hC dX10_isLetting_27 1 rfl ?_
      refine r_iconst hC (v := (2)) dX10_isLetting_28 (by decide) (by decide) (fun x12_ e12 t12 => ?_)
      refine r_isub hC dX10_isLetting_29 (fun x13_ e13 => ?_)
      try have t13 : x13_.toInt = x1.toInt - x12_.toInt := by rw [e13]; exact ti_sub (by omega) (by omega)
      refine r_callV hC (As := [.int x13_]) (rest := [.int x11_]) (ci := 10) (f_X10_levelAt g (xL X) K len I J R hs a0 ka0 x13_ hm hbm khm lr hlr klr llr sr hsr ksr lsr ir hir kir lir wr hwr kwr lwr D E mc hlv (by omega)) mT_6_220 mT_1_10 mT_6_217 mT_6_219 mP_87 okX10_levelAt ⟨by decide, by decide⟩ rfl (by show kO (K a0) = _; rw [ka0]; rfl) rfl rfl (Nat.le_of_ble_eq_true rfl) ⟨by decide, by decide⟩ dX10_isLetting_30 (aI0 (F := fun st M => P g X 2 33 [(0, .ref a0), (1, .int x1)] st _ _ M) (M := (K, len, I, J, R)) fun x14_ h14 => ?_)
      have k14_0 := h14
      clear h14
      show P g X 2 33 [(0, .ref a0), (1, .int x1)] [.int x14_, .int x11_] _ _ (K, len, I, J, R)
      have g3 : x14_.toInt = Lv D (x1.toInt - 2) := by rw [k14_0, show x13_.toInt = x1.toInt - 2 by omega]
      refine r_icmp_lt hC (tgt := 40) dX10_isLetting_33 (by decide) (fun c15 => ?_) (fun c15 => ?_)
      · refine r_iconst hC (v := (0)) dX10_isLetting_40 (by decide) (by decide) (fun x16_ e16 t16 => ?_)
        exact r_iret hC hQ hlk hr (by rw [e16]; rfl) (by decide) (by decide) dX10_isLetting_41 ⟨_, rfl, rfl, (by omega)⟩
      · refine r_iconst hC (v := (1)) dX10_isLetting_36 (by decide) (by decide) (fun x17_ e17 t17 => ?_)
        refine r_goto hC (tgt := 41) dX10_isLetting_37 (by decide) ?_
        exact r_iret hC hQ hlk hr (by rw [e17]; rfl) (by decide) (by decide) dX10_isLetting_41 ⟨_, rfl, rfl, (by omega)⟩
set_option maxHeartbeats 4000000 in
set_option maxRecDepth 100000 in
theorem f_X10_lettingsOf (g : GG) (l : Launch) (K len : Nat → Nat) (I : Nat → Nat → Int32) (J : Nat → Nat → Int64) (R : Nat → Nat → Option Nat) (hs : Sf K len I R) (a0 : Nat) (ka0 : K a0 = 11) (hm : Nat) (hbm : R a0 3 = some hm) (khm : K hm = 10) (lr : Nat) (hlr : R a0 15 = some lr) (klr : K lr = 85) (llr : len lr = 60) (sr : Nat) (hsr : R a0 16 = some sr) (ksr : K sr = 86) (lsr : len sr = 300) (ir : Nat) (hir : R a0 17 = some ir) (kir : K ir = 87) (lir : len ir = 300) (wr : Nat) (hwr : R a0 18 = some wr) (kwr : K wr = 88) (lwr : len wr = 300) (D : DD) (E : Nat → Nat → Int) (mc : MC D E a0 hm I R) (hlv : ∀ j : Nat, j < 60 → (I lr j).toInt = LP1 D j) : Ct g l yX10_lettingsOf cX10_lettingsOf 3 (Option.some Jvm.ClassFile.FieldType.int) rmX10_lettingsOf [.ref a0] (K, len, I, J, R) (pI0 (K, len, I, J, R) (fun r => (r.toInt = Lc D 60) ∧ (0 ≤ r.toInt ∧ r.toInt ≤ 60))) := by
  refine Ct_intro (by decide +kernel) (Nat.le_of_ble_eq_true rfl) (fun X hC hL hKK hNm hr hlk hQ => ?_)
  subst hL
  have hC : Cx g X cX10_lettingsOf "HillTapModel" 3 rmX10_lettingsOf := hC
  show P g X 3 0 [(0, .ref a0)] [] 0 0 (K, len, I, J, R)
  have hF : Fr K [] I I := Fr.refl
  obtain ⟨⟨hJ, hR6, hD7⟩, rwm, ⟨hd1, hd2, hd3, hd4, hd5, hd7, hd8, hd9⟩, -⟩ := id mc
  have hcx := CM_x hs khm
  have b5 := hs.rng khm (k := 3) rfl (x := I hm 3) rfl
  have b7 := hs.rng khm (k := 7) rfl (x := I hm 7) rfl
  have b8 := hs.rng khm (k := 8) rfl (x := I hm 8) rfl
  have b20 := hs.rng ka0 (k := 20) rfl (x := I a0 20) rfl
  refine r_iconst hC (v := (0)) dX10_lettingsOf_0 (by decide) (by decide) (fun x1_ e1 t1 => ?_)
  refine r_istore_n hC (lv' := [(1, .int x1_), (0, .ref a0)]) dX10_lettingsOf_1 (by decide) rfl ?_
  refine r_iconst hC (v := (0)) dX10_lettingsOf_2 (by decide) (by decide) (fun x2_ e2 t2 => ?_)
  refine r_istore_n hC (lv' := [(2, .int x2_), (1, .int x1_), (0, .ref a0)]) dX10_lettingsOf_3 (by decide) rfl ?_
  have LP3 : ∀ (mu : Nat) (x3_2 : Int32) (x3_1 : Int32) (v3_0 : 0 ≤ x3_2.toInt) (v3_1 : x3_2.toInt ≤ 60) (v3_2 : x3_1.toInt = Lc D x3_2.toInt.toNat) (v3_3 : 0 ≤ x3_1.toInt ∧ x3_1.toInt ≤ x3_2.toInt), (60 - x3_2.toInt).toNat = mu → P g X 3 4 [(0, .ref a0), (1, .int x3_1), (2, .int x3_2)] [] 0 0 (K, len, I, J, R) := by
    intro mu; induction mu using Nat.strongRecOn with | ind mu ih => ?_
    intro x3_2 x3_1 v3_0 v3_1 v3_2 v3_3 hmu
    have ih3 := ih
    clear ih
    have hmu3 := hmu
    clear hmu
    refine r_iload_n hC dX10_lettingsOf_4 2 rfl ?_
    refine r_bipush hC (v := (60)) dX10_lettingsOf_5 (by decide) (by decide) (fun x4_ e4 t4 => ?_)
    refine r_icmp_ge hC (tgt := 32) dX10_lettingsOf_7 (by decide) (fun c5 => ?_) (fun c5 => ?_)
    · refine r_iload_n hC dX10_lettingsOf_32 1 rfl ?_
      exact r_iret hC hQ hlk hr rfl (by decide) (by decide) dX10_lettingsOf_33 ⟨_, rfl, rfl, ⟨(by rw [show 60 = x3_2.toInt.toNat by omega]; exact v3_2), (by omega)⟩⟩
    · refine r_iload_n hC dX10_lettingsOf_10 1 rfl ?_
      refine r_aload_n hC dX10_lettingsOf_11 0 rfl ?_
      refine r_iload_n hC dX10_lettingsOf_12 2 rfl ?_
      refine r_callV hC (As := [.int x3_2]) (rest := [.int x3_1]) (ci := 10) (f_X10_isLetting g (xL X) K len I J R hs a0 ka0 x3_2 hm hbm khm lr hlr klr llr sr hsr ksr lsr ir hir kir lir wr hwr kwr lwr D E mc hlv (by omega) (by omega)) mT_6_216 mT_1_10 mT_6_213 mT_6_215 mP_86 okX10_isLetting ⟨by decide, by decide⟩ rfl (by show kO (K a0) = _; rw [ka0]; rfl) rfl rfl (Nat.le_of_ble_eq_true rfl) ⟨by decide, by decide⟩ dX10_lettingsOf_13 (aI0 (F := fun st M => P g X 3 16 [(0, .ref a0), (1, .int x3_1), (2, .int x3_2)] st _ _ M) (M := (K, len, I, J, R)) fun x6_ h6 => ?_)
      have k6_0 := h6
      clear h6
      show P g X 3 16 [(0, .ref a0), (1, .int x3_1), (2, .int x3_2)] [.int x6_, .int x3_1] _ _ (K, len, I, J, R)
      refine r_if_eq hC (tgt := 23) dX10_lettingsOf_16 (by decide) (fun c7 => ?_) (fun c7 => ?_)
      · refine r_iconst hC (v := (0)) dX10_lettingsOf_23 (by decide) (by decide) (fun x8_ e8 t8 => ?_)
        refine r_iadd hC dX10_lettingsOf_24 (fun x9_ e9 => ?_)
        try have t9 : x9_.toInt = x3_1.toInt + x8_.toInt := by rw [e9]; exact ti_add (by omega) (by omega)
        refine r_istore_n hC (lv' := [(1, .int x9_), (0, .ref a0), (2, .int x3_2)]) dX10_lettingsOf_25 (by decide) rfl ?_
        obtain ⟨x10_, e10⟩ : ∃ z : Int32, z = x3_2 + Int32.ofInt (1) := ⟨_, rfl⟩
        refine r_iinc hC (j := 2) (v := x10_) (lv' := [(2, .int x10_), (1, .int x9_), (0, .ref a0)]) dX10_lettingsOf_26 rfl (by rw [e10]) (by decide) rfl ?_
        try have t10 : x10_.toInt = x3_2.toInt + (1) := by rw [e10]; exact (ti_add (b := Int32.ofInt (1)) (by show _ ≤ _ + (1 : Int); omega) (by show _ + (1 : Int) ≤ _; omega))
        refine r_goto hC (tgt := 4) dX10_lettingsOf_29 (by decide) ?_
        refine r_sub [2, 1, 0] rfl ?_
        exact ih3 ((60 - x10_.toInt).toNat) (by omega) x10_ x9_ (by omega) (by omega) (by first | (rw [show x10_.toInt.toNat = 0 by omega]; show _ = (0 : Int); omega) | (rw [show x10_.toInt.toNat = x3_2.toInt.toNat + 1 by omega, Lc_t (i := x3_2.toInt) (by omega) (by omega)]; omega) | (rw [show x10_.toInt.toNat = x3_2.toInt.toNat + 1 by omega, Lc_n (i := x3_2.toInt) (by omega) (by omega)]; omega)) (by omega) rfl
      · refine r_iconst hC (v := (1)) dX10_lettingsOf_19 (by decide) (by decide) (fun x11_ e11 t11 => ?_)
        refine r_goto hC (tgt := 24) dX10_lettingsOf_20 (by decide) ?_
        refine r_iadd hC dX10_lettingsOf_24 (fun x12_ e12 => ?_)
        try have t12 : x12_.toInt = x3_1.toInt + x11_.toInt := by rw [e12]; exact ti_add (by omega) (by omega)
        refine r_istore_n hC (lv' := [(1, .int x12_), (0, .ref a0), (2, .int x3_2)]) dX10_lettingsOf_25 (by decide) rfl ?_
        obtain ⟨x13_, e13⟩ : ∃ z : Int32, z = x3_2 + Int32.ofInt (1) := ⟨_, rfl⟩
        refine r_iinc hC (j := 2) (v := x13_) (lv' := [(2, .int x13_), (1, .int x12_), (0, .ref a0)]) dX10_lettingsOf_26 rfl (by rw [e13]) (by decide) rfl ?_
        try have t13 : x13_.toInt = x3_2.toInt + (1) := by rw [e13]; exact (ti_add (b := Int32.ofInt (1)) (by show _ ≤ _ + (1 : Int); omega) (by show _ + (1 : Int) ≤ _; omega))
        refine r_goto hC (tgt := 4) dX10_lettingsOf_29 (by decide) ?_
        refine r_sub [2, 1, 0] rfl ?_
        exact ih3 ((60 - x13_.toInt).toNat) (by omega) x13_ x12_ (by omega) (by omega) (by first | (rw [show x13_.toInt.toNat = 0 by omega]; show _ = (0 : Int); omega) | (rw [show x13_.toInt.toNat = x3_2.toInt.toNat + 1 by omega, Lc_t (i := x3_2.toInt) (by omega) (by omega)]; omega) | (rw [show x13_.toInt.toNat = x3_2.toInt.toNat + 1 by omega, Lc_n (i := x3_2.toInt) (by omega) (by omega)]; omega)) (by omega) rfl
  refine r_sub [2, 1, 0] rfl ?_
  exact LP3 _ x2_ x1_ (by omega) (by omega) (by first | (rw [show x2_.toInt.toNat = 0 by omega]; show _ = (0 : Int); omega) | (rw [show x2_.toInt.toNat = x3_2.toInt.toNat + 1 by omega, Lc_t (i := x3_2.toInt) (by omega) (by omega)]; omega) | (rw [show x2_.toInt.toNat = x3_2.toInt.toNat + 1 by omega, Lc_n (i := x3_2.toInt) (by omega) (by omega)]; omega)) (by omega) rfl
set_option maxHeartbeats 4000000 in
set_option maxRecDepth 100000 in
theorem f_X10_lettings (g : GG) (l : Launch) (K len : Nat → Nat) (I : Nat → Nat → Int32) (J : Nat → Nat → Int64) (R : Nat → Nat → Option Nat) (hs : Sf K len I R) (a0 : Nat) (ka0 : K a0 = 11) (D : DD) (E : Nat → Nat → Int) (hmx : ∀ hm, R a0 3 = some hm → MC D E a0 hm I R) : Ct g l yX10_lettings cX10_lettings 1 (Option.some Jvm.ClassFile.FieldType.int) rmX10_lettings [.ref a0] (K, len, I, J, R) (pI1 (K, len, I, J, R) (fun r I' => Sf K len I' R ∧ Fr K [(11, 0), (11, 1), (11, 2), (85, 999)] I I' ∧ ((R a0 3 = none ∧ r.toInt = -1) ∨ (∃ hm, R a0 3 = some hm ∧ ((1 ≤ D 0 7) ∧ r.toInt = Lc D 60 ∨ ¬ (1 ≤ D 0 7) ∧ r.toInt = -1))) ∧ ((I' a0 2).toInt = -1))) := by
  refine Ct_intro (by decide +kernel) (Nat.le_of_ble_eq_true rfl) (fun X hC hL hKK hNm hr hlk hQ => ?_)
  subst hL
  have hC : Cx g X cX10_lettings "HillTapModel" 1 rmX10_lettings := hC
  show P g X 1 0 [(0, .ref a0)] [] 0 0 (K, len, I, J, R)
  have hF : Fr K [(11, 0), (11, 1), (11, 2), (85, 999)] I I := Fr.refl
  obtain ⟨lr, hlr, klr, llr⟩ := hs.row ka0 15 85 60 (by decide) (by decide)
  obtain ⟨sr, hsr, ksr, lsr⟩ := hs.row ka0 16 86 300 (by decide) (by decide)
  obtain ⟨ir, hir, kir, lir⟩ := hs.row ka0 17 87 300 (by decide) (by decide)
  obtain ⟨wr, hwr, kwr, lwr⟩ := hs.row ka0 18 88 300 (by decide) (by decide)
  rcases hs.2.1.2.2.1 a0 ka0 with hz | ⟨hm, hbm, khm⟩
  · refine r_aload_n hC dX10_lettings_0 0 rfl ?_
    refine r_iconst hC (v := (0)) dX10_lettings_1 (by decide) (by decide) (fun x1_ e1 t1 => ?_)
    refine r_puti hC 0 (ci := 10) rfl u10_in tyX10_ok nmX10 (by decide) mT_4_235 rfl rfl rfl dX10_lettings_2 ka0 rfl rfl (fun I2 eI2 => ?_)
    have hs2 := hs.put0 eI2 ka0 rfl rfl rfl (by decide)
    have hF2 := hF.put eI2 ka0 rfl
    refine r_aload_n hC dX10_lettings_5 0 rfl ?_
    refine r_getz hC 3 (ci := 10) rfl u10_in (by decide) mT_4_238 dX10_lettings_6 ka0 rfl rfl hz ?_
    refine r_ifnonnullN hC dX10_lettings_9 ?_
    refine r_aload_n hC dX10_lettings_12 0 rfl ?_
    refine r_iconst hC (v := (1)) dX10_lettings_13 (by decide) (by decide) (fun x3_ e3 t3 => ?_)
    refine r_callV hC (As := [.int x3_]) (rest := []) (ci := 10) (c_X10_refused g (xL X) K len I2 J R hs2 a0 ka0 x3_) mT_5_85 mT_1_10 mT_5_82 mT_5_84 mP_48 okX10_refused ⟨by decide, by decide⟩ rfl (by show kO (K a0) = _; rw [ka0]; rfl) rfl rfl (Nat.le_of_ble_eq_true rfl) ⟨by decide, by decide⟩ dX10_lettings_14 (aI1 (F := fun st M => P g X 1 17 [(0, .ref a0)] st _ _ M) (M := (K, len, I2, J, R)) fun x4_ I4 h4 => ?_)
    obtain ⟨hs4, hf4, k4_0, k4_1, k4_2⟩ := h4
    show P g X 1 17 [(0, .ref a0)] [.int x4_] _ _ (K, len, I4, J, R)
    have hF4 : Fr K [(11, 0), (11, 1), (11, 2), (85, 999)] I I4 := hF2.trans hf4 rfl rfl
    exact r_iret hC hQ hlk hr rfl (by decide) (by decide) dX10_lettings_17 ⟨_, _, rfl, rfl, ⟨hs4, hF4, (by first | exact Or.inl ⟨hz, by omega⟩ | exact Or.inr ⟨hm, hbm, Or.inr ⟨by omega, by omega⟩⟩ | exact Or.inr ⟨hm, hbm, Or.inl ⟨by omega, (congrArg Int32.toInt k4_0).trans NOlq⟩⟩), (by omega)⟩⟩
  · obtain ⟨S0, eS0⟩ : ∃ z : Int32, z = I hm 7 := ⟨_, rfl⟩
    have fS0 : S0.toInt = (I hm 7).toInt := by rw [eS0]
    have rS0 := hs.rng khm rfl eS0
    have mc := hmx hm hbm
    obtain ⟨⟨hJ, hR6, hD7⟩, rwm, ⟨hd1, hd2, hd3, hd4, hd5, hd7, hd8, hd9⟩, -⟩ := id mc
    have hcx := CM_x hs khm
    have b5 := hs.rng khm (k := 3) rfl (x := I hm 3) rfl
    have b7 := hs.rng khm (k := 7) rfl (x := I hm 7) rfl
    have b8 := hs.rng khm (k := 8) rfl (x := I hm 8) rfl
    have b20 := hs.rng ka0 (k := 20) rfl (x := I a0 20) rfl
    refine r_aload_n hC dX10_lettings_0 0 rfl ?_
    refine r_iconst hC (v := (0)) dX10_lettings_1 (by decide) (by decide) (fun x5_ e5 t5 => ?_)
    refine r_puti hC 0 (ci := 10) rfl u10_in tyX10_ok nmX10 (by decide) mT_4_235 rfl rfl rfl dX10_lettings_2 ka0 rfl rfl (fun I6 eI6 => ?_)
    have hs6 := hs.put0 eI6 ka0 rfl rfl rfl (by decide)
    have hF6 := hF.put eI6 ka0 rfl
    refine r_aload_n hC dX10_lettings_5 0 rfl ?_
    refine r_getr hC 3 (ci := 10) rfl u10_in (by decide) mT_4_238 dX10_lettings_6 ka0 rfl rfl hbm ?_
    refine r_ifnonnull hC (tgt := 18) dX10_lettings_9 (by decide) ?_
    refine r_aload_n hC dX10_lettings_18 0 rfl ?_
    refine r_bipush hC (v := (60)) dX10_lettings_19 (by decide) (by decide) (fun x7_ e7 t7 => ?_)
    refine r_iconst hC (v := (-1)) dX10_lettings_21 (by decide) (by decide) (fun x8_ e8 t8 => ?_)
    refine r_callV hC (As := [.int x7_, .int x8_]) (rest := []) (ci := 10) (f_X10_fills g (xL X) K len I6 J R hs6 a0 ka0 x7_ x8_ hm hbm khm D hJ (rwm.mv hcx qM_big hF6 rfl) (by rw [hF6.get khm rfl]; exact hd1) (by rw [hF6.get khm rfl]; exact hd2) (by rw [hF6.get khm rfl]; exact hd3) (by rw [hF6.get khm rfl]; exact hd4) lr hlr klr llr (by omega)) mT_6_99 mT_1_10 mT_6_96 mT_6_98 mP_69 okX10_fills ⟨by decide, by decide⟩ rfl (by show kO (K a0) = _; rw [ka0]; rfl) rfl rfl (Nat.le_of_ble_eq_true rfl) ⟨by decide, by decide⟩ dX10_lettings_22 (aV1 (F := fun st M => P g X 1 25 [(0, .ref a0)] st _ _ M) (M := (K, len, I6, J, R)) fun I9 h9 => ?_)
    obtain ⟨hs9, hf9, k9_0⟩ := h9
    show P g X 1 25 [(0, .ref a0)] [] _ _ (K, len, I9, J, R)
    have hF9 : Fr K [(11, 0), (11, 1), (11, 2), (85, 999)] I I9 := hF6.trans hf9 rfl rfl
    have lvq : ∀ j : Nat, j < 60 → (I9 lr j).toInt = LP1 D j := fun j hj => by rw [k9_0 j hj, show x7_.toInt = 60 by omega, show x8_.toInt = -1 by omega, Gm_p (by have h9 := hJ.2.2.2.2.1; omega)]; rfl
    refine r_aload_n hC dX10_lettings_25 0 rfl ?_
    refine r_aload_n hC dX10_lettings_26 0 rfl ?_
    refine r_callV hC (As := []) (rest := [.ref a0]) (ci := 10) (f_X10_lettingsOf g (xL X) K len I9 J R hs9 a0 ka0 hm hbm khm lr hlr klr llr sr hsr ksr lsr ir hir kir lir wr hwr kwr lwr D E (mc.mv hs ka0 khm hF9 rfl) lvq) mT_6_212 mT_1_10 mT_6_209 mT_6_211 mP_85 okX10_lettingsOf ⟨by decide, by decide⟩ rfl (by show kO (K a0) = _; rw [ka0]; rfl) rfl rfl (Nat.le_of_ble_eq_true rfl) ⟨by decide, by decide⟩ dX10_lettings_27 (aI0 (F := fun st M => P g X 1 30 [(0, .ref a0)] st _ _ M) (M := (K, len, I9, J, R)) fun x10_ h10 => ?_)
    obtain ⟨k10_0, k10_1⟩ := h10
    show P g X 1 30 [(0, .ref a0)] [.int x10_, .ref a0] _ _ (K, len, I9, J, R)
    refine r_callV hC (As := [.int x10_]) (rest := []) (ci := 10) (c_X10_done g (xL X) K len I9 J R hs9 a0 ka0 x10_) mT_6_79 mT_1_10 mT_6_76 mT_6_78 mP_67 okX10_done ⟨by decide, by decide⟩ rfl (by show kO (K a0) = _; rw [ka0]; rfl) rfl rfl (Nat.le_of_ble_eq_true rfl) ⟨by decide, by decide⟩ dX10_lettings_30 (aI1 (F := fun st M => P g X 1 33 [(0, .ref a0)] st _ _ M) (M := (K, len, I9, J, R)) fun x11_ I11 h11 => ?_)
    obtain ⟨hs11, hf11, k11_0, k11_1, k11_2⟩ := h11
    show P g X 1 33 [(0, .ref a0)] [.int x11_] _ _ (K, len, I11, J, R)
    have hF11 : Fr K [(11, 0), (11, 1), (11, 2), (85, 999)] I I11 := hF9.trans hf11 rfl rfl
    exact r_iret hC hQ hlk hr rfl (by decide) (by decide) dX10_lettings_33 ⟨_, _, rfl, rfl, ⟨hs11, hF11, (by first | exact Or.inl ⟨hz, by omega⟩ | exact Or.inr ⟨hm, hbm, Or.inr ⟨by omega, by omega⟩⟩ | exact Or.inr ⟨hm, hbm, Or.inl ⟨by omega, (congrArg Int32.toInt k11_0).trans k10_0⟩⟩), (by omega)⟩⟩
