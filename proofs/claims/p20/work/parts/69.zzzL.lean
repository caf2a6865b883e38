set_option maxHeartbeats 4000000 in
set_option maxRecDepth 100000 in
theorem f_X10_levelAt (g : GG) (l : Launch) (K len : Nat → Nat) (I : Nat → Nat → Int32) (J : Nat → Nat → Int64) (R : Nat → Nat → Option Nat) (hs : Sf K len I R) (a0 : Nat) (ka0 : K a0 = 11) (x1 : Int32) (hm : Nat) (hbm : R a0 3 = some hm) (khm : K hm = 10) (lr : Nat) (hlr : R a0 15 = some lr) (klr : K lr = 85) (llr : len lr = 60) (sr : Nat) (hsr : R a0 16 = some sr) (ksr : K sr = 86) (lsr : len sr = 300) (ir : Nat) (hir : R a0 17 = some ir) (kir : K ir = 87) (lir : len ir = 300) (wr : Nat) (hwr : R a0 18 = some wr) (kwr : K wr = 88) (lwr : len wr = 300) (D : DD) (E : Nat → Nat → Int) (mc : MC D E a0 hm I R) (hlv : ∀ j : Nat, j < 60 → (I lr j).toInt = LP1 D j) (p0 : x1.toInt ≤ 59) : Ct g l yX10_levelAt cX10_levelAt 2 (Option.some Jvm.ClassFile.FieldType.int) rmX10_levelAt [.ref a0, .int x1] (K, len, I, J, R) (pI0 (K, len, I, J, R) (fun r => (r.toInt = Lv D x1.toInt))) := by
  refine Ct_intro (by decide +kernel) (Nat.le_of_ble_eq_true rfl) (fun X hC hL hKK hNm hr hlk hQ => ?_)
  subst hL
  have hC : Cx g X cX10_levelAt "HillTapModel" 2 rmX10_levelAt := hC
  show P g X 2 0 [(0, .ref a0), (1, .int x1)] [] 0 0 (K, len, I, J, R)
  have hF : Fr K [] I I := Fr.refl
  obtain ⟨⟨hJ, hR6, hD7⟩, rwm, ⟨hd1, hd2, hd3, hd4, hd5, hd7, hd8, hd9⟩, -⟩ := id mc
  have hcx := CM_x hs khm
  have b5 := hs.rng khm (k := 3) rfl (x := I hm 3) rfl
  have b7 := hs.rng khm (k := 7) rfl (x := I hm 7) rfl
  have b8 := hs.rng khm (k := 8) rfl (x := I hm 8) rfl
  have b20 := hs.rng ka0 (k := 20) rfl (x := I a0 20) rfl
  have b_x1 := ti_rng x1
  refine r_iload_n hC dX10_levelAt_0 1 rfl ?_
  refine r_if_ge hC (tgt := 14) dX10_levelAt_1 (by decide) (fun c1 => ?_) (fun c1 => ?_)
  · refine r_aload_n hC dX10_levelAt_14 0 rfl ?_
    refine r_getr hC 15 (ci := 10) rfl u10_in (by decide) mT_5_10 dX10_levelAt_15 ka0 rfl rfl hlr ?_
    refine r_iload_n hC dX10_levelAt_18 1 rfl ?_
    refine x_iaload hC klr llr (by decide) rfl rfl dX10_levelAt_19 (by omega) (by omega) (fun x2_ e2 => ?_)
    have q2 : x2_.toInt = LP1 D x1.toInt.toNat := by rw [e2, clx (i := x1) rfl (by omega)]; exact hlv _ (by omega)
    exact r_iret hC hQ hlk hr rfl (by decide) (by decide) dX10_levelAt_20 ⟨_, rfl, rfl, (by first | (rw [Lv_n (by omega)]; omega) | (rw [Lv_p (by omega)]; exact q2))⟩
  · refine r_aload_n hC dX10_levelAt_4 0 rfl ?_
    refine r_getr hC 3 (ci := 10) rfl u10_in (by decide) mT_4_238 dX10_levelAt_5 ka0 rfl rfl hbm ?_
    refine r_getiN hC 0 (ci := 9) rfl u9_in (by decide) nF_0 dX10_levelAt_8 khm rfl rfl (fun x3_ e3 => ?_)
    have f3 : x3_.toInt = (I hm 0).toInt := by rw [e3]
    have sc3 : x3_.toInt = D 0 1 := by rw [e3]; exact mc.2.2.1.1
    refine r_goto hC (tgt := 20) dX10_levelAt_11 (by decide) ?_
    exact r_iret hC hQ hlk hr rfl (by decide) (by decide) dX10_levelAt_20 ⟨_, rfl, rfl, (by first | (rw [Lv_n (by omega)]; omega) | (rw [Lv_p (by omega)]; exact NOlq))⟩
set_option maxHeartbeats 4000000 in
set_option maxRecDepth 100000 in
theorem f_X10_isLetting (g : GG) (l : Launch) (K len : Nat → Nat) (I : Nat → Nat → Int32) (J : Nat → Nat → Int64) (R : Nat → Nat → Option Nat) (hs : Sf K len I R) (a0 : Nat) (ka0 : K a0 = 11) (x1 : Int32) (hm : Nat) (hbm : R a0 3 = some hm) (khm : K hm = 10) (lr : Nat) (hlr : R a0 15 = some lr) (klr : K lr = 85) (llr : len lr = 60) (sr : Nat) (hsr : R a0 16 = some sr) (ksr : K sr = 86) (lsr : len sr = 300) (ir : Nat) (hir : R a0 17 = some ir) (kir : K ir = 87) (lir : len ir = 300) (wr : Nat) (hwr : R a0 18 = some wr) (kwr : K wr = 88) (lwr : len wr = 300) (D : DD) (E : Nat → Nat → Int) (mc : MC D E a0 hm I R) (hlv : ∀ j : Nat, j < 60 → (I lr j).toInt = LP1 D j) (p0 : 0 ≤ x1.toInt) (p1 : x1.toInt ≤ 59) : Ct g l yX10_isLetting cX10_isLetting 2 (Option.some Jvm.ClassFile.FieldType.boolean) rmX10_isLetting [.ref a0, .int x1] (K, len, I, J, R) (pI0 (K, len, I, J, R) (fun r => (r.toInt = 1 ∧ (Lv D x1.toInt < Lv D (x1.toInt - 1) ∧ (x1.toInt = 0 ∨ Lv D (x1.toInt - 2) ≤ Lv D (x1.toInt - 1))) ∨ r.toInt = 0 ∧ ¬ (Lv D x1.toInt < Lv D (x1.toInt - 1) ∧ (x1.toInt = 0 ∨ Lv D (x1.toInt - 2) ≤ Lv D (x1.toInt - 1)))))) := by
  refine Ct_intro (by decide +kernel) (Nat.le_of_ble_eq_true rfl) (fun X hC hL hKK hNm hr hlk hQ => ?_)
  subst hL
  have hC : Cx g X cX10_isLetting "HillTapModel" 2 rmX10_isLetting := hC
  show P g X 2 0 [(0, .ref a0), (1, .int x1)] [] 0 0 (K, len, I, J, R)
  have hF : Fr K [] I I := Fr.refl
  obtain ⟨⟨hJ, hR6, hD7⟩, rwm, ⟨hd1, hd2, hd3, hd4, hd5, hd7, hd8, hd9⟩, -⟩ := id mc
  have hcx := CM_x hs khm
  have b5 := hs.rng khm (k := 3) rfl (x := I hm 3) rfl
  have b7 := hs.rng khm (k := 7) rfl (x := I hm 7) rfl
  have b8 := hs.rng khm (k := 8) rfl (x := I hm 8) rfl
  have b20 := hs.rng ka0 (k := 20) rfl (x := I a0 20) rfl
  have b_x1 := ti_rng x1
  refine r_aload_n hC dX10_isLetting_0 0 rfl ?_
  refine r_iload_n hC dX10_isLetting_1 1 rfl ?_
  refine r_callV hC (As := [.int x1]) (rest := []) (ci := 10) (f_X10_levelAt g (xL X) K len I J R hs a0 ka0 x1 hm hbm khm lr hlr klr llr sr hsr ksr lsr ir hir kir lir wr hwr kwr lwr D E mc hlv (by omega)) mT_6_220 mT_1_10 mT_6_217 mT_6_219 mP_87 okX10_levelAt ⟨by decide, by decide⟩ rfl (by show kO (K a0) = _; rw [ka0]; rfl) rfl rfl (Nat.le_of_ble_eq_true rfl) ⟨by decide, by decide⟩ dX10_isLetting_2 (aI0 (F := fun st M => P g X 2 5 [(0, .ref a0), (1, .int x1)] st _ _ M) (M := (K, len, I, J, R)) fun x1_ h1 => ?_)
  have k1_0 := h1
  clear h1
  show P g X 2 5 [(0, .ref a0), (1, .int x1)] [.int x1_] _ _ (K, len, I, J, R)
  refine r_aload_n hC dX10_isLetting_5 0 rfl ?_
  refine r_iload_n hC dX10_isLetting_6 1 rfl ?_
  refine r_iconst hC (v := (1)) dX10_isLetting_7 (by decide) (by decide) (fun x2_ e2 t2 => ?_)
  refine r_isub hC dX10_isLetting_8 (fun x3_ e3 => ?_)
  try have t3 : x3_.toInt = x1.toInt - x2_.toInt := by rw [e3]; exact ti_sub (by omega) (by omega)
  refine r_callV hC (As := [.int x3_]) (rest := [.int x1_]) (ci := 10) (f_X10_levelAt g (xL X) K len I J R hs a0 ka0 x3_ hm hbm khm lr hlr klr llr sr hsr ksr lsr ir hir kir lir wr hwr kwr lwr D E mc hlv (by omega)) mT_6_220 mT_1_10 mT_6_217 mT_6_219 mP_87 okX10_levelAt ⟨by decide, by decide⟩ rfl (by show kO (K a0) = _; rw [ka0]; rfl) rfl rfl (Nat.le_of_ble_eq_true rfl) ⟨by decide, by decide⟩ dX10_isLetting_9 (aI0 (F := fun st M => P g X 2 12 [(0, .ref a0), (1, .int x1)] st _ _ M) (M := (K, len, I, J, R)) fun x4_ h4 => ?_)
  have k4_0 := h4
  clear h4
  show P g X 2 12 [(0, .ref a0), (1, .int x1)] [.int x4_, .int x1_] _ _ (K, len, I, J, R)
  have g1 : x4_.toInt = Lv D (x1.toInt - 1) := by rw [k4_0, show x3_.toInt = x1.toInt - 1 by omega]
  refine r_icmp_ge hC (tgt := 40) dX10_isLetting_12 (by decide) (fun c5 => ?_) (fun c5 => ?_)
  · refine r_iconst hC (v := (0)) dX10_isLetting_40 (by decide) (by decide) (fun x6_ e6 t6 => ?_)
    exact r_iret hC hQ hlk hr (by rw [e6]; rfl) (by decide) (by decide) dX10_isLetting_41 ⟨_, rfl, rfl, (by omega)⟩
  · refine r_iload_n hC dX10_isLetting_15 1 rfl ?_
    refine r_if_eq hC (tgt := 36) dX10_isLetting_16 (by decide) (fun c7 => ?_) (fun c7 => ?_)
    · refine r_iconst hC (v := (1)) dX10_isLetting_36 (by decide) (by decide) (fun x8_ e8 t8 => ?_)
      refine r_goto hC (tgt := 41) dX10_isLetting_37 (by decide) ?_
      exact r_iret hC hQ hlk hr (by rw [e8]; rfl) (by decide) (by decide) dX10_isLetting_41 ⟨_, rfl, rfl, (by omega)⟩
    · refine r_aload_n hC dX10_isLetting_19 0 rfl ?_
      refine r_iload_n hC dX10_isLetting_20 1 rfl ?_
      refine r_iconst hC (v := (1)) dX10_isLetting_21 (by decide) (by decide) (fun x9_ e9 t9 => ?_)
      refine r_isub hC dX10_isLetting_22 (fun x10_ e10 => ?_)
      try have t10 : x10_.toInt = x1.toInt - x9_.toInt := by rw [e10]; exact ti_sub (by omega) (by omega)
      refine r_callV hC (As := [.int x10_]) (rest := []) (ci := 10) (f_X10_levelAt g (xL X) K len I J R hs a0 ka0 x10_ hm hbm khm lr hlr klr llr sr hsr ksr lsr ir hir kir lir wr hwr kwr lwr D E mc hlv (by omega)) mT_6_220 mT_1_10 mT_6_217 mT_6_219 mP_87 okX10_levelAt ⟨by decide, by decide⟩ rfl (by show kO (K a0) = _; rw [ka0]; rfl) rfl rfl (Nat.le_of_ble_eq_true rfl) ⟨by decide, by decide⟩ dX10_isLetting_23 (aI0 (F := fun st M => P g X 2 26 [(0, .ref a0), (1, .int x1)] st _ _ M) (M := (K, len, I, J, R)) fun x11_ h11 => ?_)
      have k11_0 := h11
      clear h11
      show P g X 2 26 [(0, .ref a0), (1, .int x1)] [.int x11_] _ _ (K, len, I, J, R)
      have g2 : x11_.toInt = Lv D (x1.toInt - 1) := by rw [k11_0, show x10_.toInt = x1.toInt - 1 by omega]
      refine r_aload_n hC dX10_isLetting_26 0 rfl ?_
      refine r_iload_n hC dX10_isLetting_27 1 rfl ?_
      refine r_iconst hC (v := (2)) dX10_isLetting_28 (by decide) (by decide) (fun x12_ e12 t12 => ?_)
      refine r_isub hC dX10_isLetting_29 (fun x13_ e13 => ?_)
      try have t13 : x13_.toInt = x1.toInt - x12_.toInt := by rw [e13]; exact ti_sub (by omega) (by omega)
      refine r_callV hC (As := [.int x13_]) (rest := [.int x11_]) (ci := 10) (f_X10_levelAt g (xL X) K len I J R hs a0 ka0 x13_ hm hbm khm lr hlr klr llr sr hsr ksr lsr ir hir kir lir wr hwr kwr lwr D E mc hlv (by omega)) mT_6_220 mT_1_10 mT_6_217 mT_6_219 mP_87 okX10_levelAt ⟨by decide, by decide⟩ rfl (by show kO (K a0) = _; rw [ka0]; rfl) rfl rfl (Nat.le_of_ble_eq_true rfl) ⟨by decide, by decide⟩ dX10_isLetting_30 (aI0 (F := fun st M => P g X 2 33 [(0, .ref a0), (1, .int x1)] st _ _ M) (M := (K, len, I, J, R)) fun x14_ h14 => ?_)
      have k14_0 := h14
      clear h14
      show P g X 2 33 [(0, .ref a0), (1, .int x1)] [.int x14_, .int x11_] _ _ (K, len, I, J, R)
      have g3 : x14_.toInt = Lv D (x1.toInt - 2) := by rw [k14_0, show x13_.toInt = x1.toInt - 2 by omega]
      refine r_icmp_lt hC (tgt := 40) dX10_isLetting_33 (by decide) (fun c15 => ?_) (fun c15 => ?_)
      · refine r_iconst hC (v := (0)) dX10_isLetting_40 (by decide) (by decide) (fun x16_ e16 t16 => ?_)
        exact r_iret hC hQ hlk hr (by rw [e16]; rfl) (by decide) (by decide) dX10_isLetting_41 ⟨_, rfl, rfl, (by omega)⟩
      · refine r_iconst hC (v := (1)) dX10_isLetting_36 (by decide) (by decide) (fun x17_ e17 t17 => ?_)
        refine r_goto hC (tgt := 41) dX10_isLetting_37 (by decide) ?_
        exact r_iret hC hQ hlk hr (by rw [e17]; rfl) (by decide) (by decide) dX10_isLetting_41 ⟨_, rfl, rfl, (by omega)⟩
set_option maxHeartbeats 4000000 in
set_option maxRecDepth 100000 in
theorem f_X10_lettingsOf (g : GG) (l : Launch) (K len : Nat → Nat) (I : Nat → Nat → Int32) (J : Nat → Nat → Int64) (R : Nat → Nat → Option Nat) (hs : Sf K len I R) (a0 : Nat) (ka0 : K a0 = 11) (hm : Nat) (hbm : R a0 3 = some hm) (khm : K hm = 10) (lr : Nat) (hlr : R a0 15 = some lr) (klr : K lr = 85) (llr : len lr = 60) (sr : Nat) (hsr : R a0 16 = some sr) (ksr : K sr = 86) (lsr : len sr = 300) (ir : Nat) (hir : R a0 17 = some ir) (kir : K ir = 87) (lir : len ir = 300) (wr : Nat) (hwr : R a0 18 = some wr) (kwr : K wr = 88) (lwr : len wr = 300) (D : DD) (E : Nat → Nat → Int) (mc : MC D E a0 hm I R) (hlv : ∀ j : Nat, j < 60 → (I lr j).toInt = LP1 D j) : Ct g l yX10_lettingsOf cX10_lettingsOf 3 (Option.some Jvm.ClassFile.FieldType.int) rmX10_lettingsOf [.ref a0] (K, len, I, J, R) (pI0 (K, len, I, J, R) (fun r => (r.toInt = Lc D 60) ∧ (0 ≤ r.toInt ∧ r.toInt ≤ 60))) := by
  refine Ct_intro (by decide +kernel) (Nat.le_of_ble_eq_true rfl) (fun X hC hL hKK hNm hr hlk hQ => ?_)
  subst hL
  have hC : Cx g X cX10_lettingsOf "HillTapModel" 3 rmX10_lettingsOf := hC
  show P g X 3 0 [(0, .ref a0)] [] 0 0 (K, len, I, J, R)
  have hF : Fr K [] I I := Fr.refl
  obtain ⟨⟨hJ, hR6, hD7⟩, rwm, ⟨hd1, hd2, hd3, hd4, hd5, hd7, hd8, hd9⟩, -⟩ := id mc
  have hcx := CM_x hs khm
  have b5 := hs.rng khm (k := 3) rfl (x := I hm 3) rfl
  have b7 := hs.rng khm (k := 7) rfl (x := I hm 7) rfl
  have b8 := hs.rng khm (k := 8) rfl (x := I hm 8) rfl
  have b20 := hs.rng ka0 (k := 20) rfl (x := I a0 20) rfl
  refine r_iconst hC (v := (0)) dX10_lettingsOf_0 (by decide) (by decide) (fun x1_ e1 t1 => ?_)
  refine r_istore_n hC (lv' := [(1, .int x1_), (0, .ref a0)]) dX10_lettingsOf_1 (by decide) rfl ?_
  refine r_iconst hC (v := (0)) dX10_lettingsOf_2 (by decide) (by decide) (fun x2_ e2 t2 => ?_)
  refine r_istore_n hC (lv' := [(2, .int x2_), (1, .int x1_), (0, .ref a0)]) dX10_lettingsOf_3 (by decide) rfl ?_
  have LP3 : ∀ (mu : Nat) (x3_2 : Int32) (x3_1 : Int32) (v3_0 : 0 ≤ x3_2.toInt) (v3_1 : x3_2.toInt ≤ 60) (v3_2 : x3_1.toInt = Lc D x3_2.toInt.toNat) (v3_3 : 0 ≤ x3_1.toInt ∧ x3_1.toInt ≤ x3_2.toInt), (60 - x3_2.toInt).toNat = mu → P g X 3 4 [(0, .ref a0), (1, .int x3_1), (2, .int x3_2)] [] 0 0 (K, len, I, J, R) := by
    intro mu; induction mu using Nat.strongRecOn with | ind mu ih => ?_
    intro x3_2 x3_1 v3_0 v3_1 v3_2 v3_3 hmu
    have ih3 := ih
    clear ih
    have hmu3 := hmu
    clear hmu
    refine r_iload_n hC dX10_lettingsOf_4 2 rfl ?_
    refine r_bipush hC (v := (60)) dX10_lettingsOf_5 (by decide) (by decide) (fun x4_ e4 t4 => ?_)
    refine r_icmp_ge hC (tgt := 32) dX10_lettingsOf_7 (by decide) (fun c5 => ?_) (fun c5 => ?_)
    · refine r_iload_n hC dX10_lettingsOf_32 1 rfl ?_
      exact r_iret hC hQ hlk hr rfl (by decide) (by decide) dX10_lettingsOf_33 ⟨_, rfl, rfl, ⟨(by rw [show 60 = x3_2.toInt.toNat by omega]; exact v3_2), (by omega)⟩⟩
    · refine r_iload_n hC dX10_lettingsOf_10 1 rfl ?_
      refine r_aload_n hC dX10_lettingsOf_11 0 rfl ?_
      refine r_iload_n hC dX10_lettingsOf_12 2 rfl ?_
      refine r_callV hC (As := [.int x3_2]) (rest := [.int x3_1]) (ci := 10) (f_X10_isLetting g (xL X) K len I J R hs a0 ka0 x3_2 hm hbm khm lr hlr klr llr sr hsr ksr lsr ir hir kir lir wr hwr kwr lwr D E mc hlv (by omega) (by omega)) mT_6_216 mT_1_10 mT_6_213 mT_6_215 mP_86 okX10_isLetting ⟨by decide, by decide⟩ rfl (by show kO (K a0) = _; rw [ka0]; rfl) rfl rfl (Nat.le_of_ble_eq_true rfl) ⟨by decide, by decide⟩ dX10_lettingsOf_13 (aI0 (F := fun st M => P g X 3 16 [(0, .ref a0), (1, .int x3_1), (2, .int x3_2)] st _ _ M) (M := (K, len, I, J, R)) fun x6_ h6 => ?_)
      have k6_0 := h6
      clear h6
      show P g X 3 16 [(0, .ref a0), (1, .int x3_1), (2, .int x3_2)] [.int x6_, .int x3_1] _ _ (K, len, I, J, R)
      refine r_if_eq hC (tgt := 23) dX10_lettingsOf_16 (by decide) (fun c7 => ?_) (fun c7 => ?_)
      · refine r_iconst hC (v := (0)) dX10_lettingsOf_23 (by decide) (by decide) (fun x8_ e8 t8 => ?_)
        refine r_iadd hC dX10_lettingsOf_24 (fun x9_ e9 => ?_)
        try have t9 : x9_.toInt = x3_1.toInt + x8_.toInt := by rw [e9]; exact ti_add (by omega) (by omega)
        refine r_istore_n hC (lv' := [(1, .int x9_), (0, .ref a0), (2, .int x3_2)]) dX10_lettingsOf_25 (by decide) rfl ?_
        obtain ⟨x10_, e10⟩ : ∃ z : Int32, z = x3_2 + Int32.ofInt (1) := ⟨_, rfl⟩
        refine r_iinc hC (j := 2) (v := x10_) (lv' := [(2, .int x10_), (1, .int x9_), (0, .ref a0)]) dX10_lettingsOf_26 rfl (by rw [e10]) (by decide) rfl ?_
        try have t10 : x10_.toInt = x3_2.toInt + (1) := by rw [e10]; exact (ti_add (b := Int32.ofInt (1)) (by show _ ≤ _ + (1 : Int); omega) (by show _ + (1 : Int) ≤ _; omega))
        refine r_goto hC (tgt := 4) dX10_lettingsOf_29 (by decide) ?_
        refine r_sub [2, 1, 0] rfl ?_
        exact ih3 ((60 - x10_.toInt).toNat) (by omega) x10_ x9_ (by omega) (by omega) (by first | (rw [show x10_.toInt.toNat = 0 by omega]; show _ = (0 : Int); omega) | (rw [show x10_.toInt.toNat = x3_2.toInt.toNat + 1 by omega, Lc_t (i := x3_2.toInt) (by omega) (by omega)]; omega) | (rw [show x10_.toInt.toNat = x3_2.toInt.toNat + 1 by omega, Lc_n (i := x3_2.toInt) (by omega) (by omega)]; omega)) (by omega) rfl
      · refine r_iconst hC (v := (1)) dX10_lettingsOf_19 (by decide) (by decide) (fun x11_ e11 t11 => ?_)
        refine r_goto hC (tgt := 24) dX10_lettingsOf_20 (by decide) ?_
        refine r_iadd hC dX10_lettingsOf_24 (fun x12_ e12 => ?_)
        try have t12 : x12_.toInt = x3_1.toInt + x11_.toInt := by rw [e12]; exact ti_add (by omega) (by omega)
        refine r_istore_n hC (lv' := [(1, .int x12_), (0, .ref a0), (2, .int x3_2)]) dX10_lettingsOf_25 (by decide) rfl ?_
        obtain ⟨x13_, e13⟩ : ∃ z : Int32, z = x3_2 + Int32.ofInt (1) := ⟨_, rfl⟩
        refine r_iinc hC (j := 2) (v := x13_) (lv' := [(2, .int x13_), (1, .int x12_), (0, .ref a0)]) dX10_lettingsOf_26 rfl (by rw [e13]) (by decide) rfl ?_
        try have t13 : x13_.toInt = x3_2.toInt + (1) := by rw [e13]; exact (ti_add (b := Int32.ofInt (1)) (by show _ ≤ _ + (1 : Int); omega) (by show _ + (1 : Int) ≤ _; omega))
        refine r_goto hC (tgt := 4) dX10_lettingsOf_29 (by decide) ?_
        refine r_sub [2, 1, 0] rfl ?_
        exact ih3 ((60 - x13_.toInt).toNat) (by omega) x13_ x12_ (by omega) (by omega) (by first | (rw [show x13_.toInt.toNat = 0 by omega]; show _ = (0 : Int); omega) | (rw [show x13_.toInt.toNat = x3_2.toInt.toNat + 1 by omega, Lc_t (i := x3_2.toInt) (by omega) (by omega)]; omega) | (rw [show x13_.toInt.toNat = x3_2.toInt.toNat + 1 by omega, Lc_n (i := x3_2.toInt) (by omega) (by omega)]; omega)) (by omega) rfl
  refine r_sub [2, 1, 0] rfl ?_
  exact LP3 _ x2_ x1_ (by omega) (by omega) (by first | (rw [show x2_.toInt.toNat = 0 by omega]; show _ = (0 : Int); omega) | (rw [show x2_.toInt.toNat = x3_2.toInt.toNat + 1 by omega, Lc_t (i := x3_2.toInt) (by omega) (by omega)]; omega) | (rw [show x2_.toInt.toNat = x3_2.toInt.toNat + 1 by omega, Lc_n (i := x3_2.toInt) (by omega) (by omega)]; omega)) (by omega) rfl
set_option maxHeartbeats 4000000 in
set_option maxRecDepth 100000 in
theorem f_X10_isHeld (g : GG) (l : Launch) (K len : Nat → Nat) (I : Nat → Nat → Int32) (J : Nat → Nat → Int64) (R : Nat → Nat → Option Nat) (hs : Sf K len I R) (a0 : Nat) (ka0 : K a0 = 11) (x1 : Int32) (hm : Nat) (hbm : R a0 3 = some hm) (khm : K hm = 10) (lr : Nat) (hlr : R a0 15 = some lr) (klr : K lr = 85) (llr : len lr = 60) (sr : Nat) (hsr : R a0 16 = some sr) (ksr : K sr = 86) (lsr : len sr = 300) (ir : Nat) (hir : R a0 17 = some ir) (kir : K ir = 87) (lir : len ir = 300) (wr : Nat) (hwr : R a0 18 = some wr) (kwr : K wr = 88) (lwr : len wr = 300) (D : DD) (E : Nat → Nat → Int) (mc : MC D E a0 hm I R) (s : Nat) (hsk : (s : Int) < D 0 7) (mo : MO D s (LP1 D) 1 a0 lr sr ir wr I) (p0 : 0 ≤ x1.toInt) (p1 : x1.toInt ≤ 59) : Ct g l yX10_isHeld cX10_isHeld 3 (Option.some Jvm.ClassFile.FieldType.boolean) rmX10_isHeld [.ref a0, .int x1] (K, len, I, J, R) (pI0 (K, len, I, J, R) (fun r => (r.toInt = 1 ∧ (Tg D s (Ad D s (LP1 D) 1) (min (x1.toInt + 5) 59) < Tg D s (Ad D s (LP1 D) 1) (x1.toInt - 1) ∧ (GV D s (Ad D s (LP1 D) 1) 60 = -2 ∨ min (x1.toInt + 5) 59 < GV D s (Ad D s (LP1 D) 1) 60)) ∨ r.toInt = 0 ∧ ¬ (Tg D s (Ad D s (LP1 D) 1) (min (x1.toInt + 5) 59) < Tg D s (Ad D s (LP1 D) 1) (x1.toInt - 1) ∧ (GV D s (Ad D s (LP1 D) 1) 60 = -2 ∨ min (x1.toInt + 5) 59 < GV D s (Ad D s (LP1 D) 1) 60))))) := by
  refine Ct_intro (by decide +kernel) (Nat.le_of_ble_eq_true rfl) (fun X hC hL hKK hNm hr hlk hQ => ?_)
  subst hL
  have hC : Cx g X cX10_isHeld "HillTapModel" 3 rmX10_isHeld := hC
  show P g X 3 0 [(0, .ref a0), (1, .int x1)] [] 0 0 (K, len, I, J, R)
  have hF : Fr K [] I I := Fr.refl
  obtain ⟨⟨hJ, hR6, hD7⟩, rwm, ⟨hd1, hd2, hd3, hd4, hd5, hd7, hd8, hd9⟩, -⟩ := id mc
  have hcx := CM_x hs khm
  have b5 := hs.rng khm (k := 3) rfl (x := I hm 3) rfl
  have b7 := hs.rng khm (k := 7) rfl (x := I hm 7) rfl
  have b8 := hs.rng khm (k := 8) rfl (x := I hm 8) rfl
  have b20 := hs.rng ka0 (k := 20) rfl (x := I a0 20) rfl
  have b_x1 := ti_rng x1
  refine r_iload_n hC dX10_isHeld_0 1 rfl ?_
  refine r_iconst hC (v := (5)) dX10_isHeld_1 (by decide) (by decide) (fun x1_ e1 t1 => ?_)
  refine r_iadd hC dX10_isHeld_2 (fun x2_ e2 => ?_)
  try have t2 : x2_.toInt = x1.toInt + x1_.toInt := by rw [e2]; exact ti_add (by omega) (by omega)
  refine r_bipush hC (v := (59)) dX10_isHeld_3 (by decide) (by decide) (fun x3_ e3 t3 => ?_)
  refine r_icmp_le hC (tgt := 13) dX10_isHeld_5 (by decide) (fun c4 => ?_) (fun c4 => ?_)
  · refine r_iload_n hC dX10_isHeld_13 1 rfl ?_
    refine r_iconst hC (v := (5)) dX10_isHeld_14 (by decide) (by decide) (fun x5_ e5 t5 => ?_)
    refine r_iadd hC dX10_isHeld_15 (fun x6_ e6 => ?_)
    try have t6 : x6_.toInt = x1.toInt + x5_.toInt := by rw [e6]; exact ti_add (by omega) (by omega)
    refine r_istore_n hC (lv' := [(2, .int x6_), (0, .ref a0), (1, .int x1)]) dX10_isHeld_16 (by decide) rfl ?_
    have qmin : x6_.toInt = min (x1.toInt + 5) 59 := by omega
    refine r_aload_n hC dX10_isHeld_17 1 rfl ?_
    refine r_iload_n hC dX10_isHeld_18 0 rfl ?_
    refine r_callV hC (As := [.int x6_]) (rest := []) (ci := 10) (f_X10_speeds g (xL X) K len I J R hs a0 ka0 x6_ hm hbm khm lr hlr klr llr sr hsr ksr lsr ir hir kir lir wr hwr kwr lwr D E mc s hsk mo (by omega)) mT_6_167 mT_1_10 mT_6_164 mT_6_166 mP_81 okX10_speeds ⟨by decide, by decide⟩ rfl (by show kO (K a0) = _; rw [ka0]; rfl) rfl rfl (Nat.le_of_ble_eq_true rfl) ⟨by decide, by decide⟩ dX10_isHeld_19 (aI0 (F := fun st M => P g X 3 22 [(2, .int x6_), (0, .ref a0), (1, .int x1)] st _ _ M) (M := (K, len, I, J, R)) fun x7_ h7 => ?_)
    obtain ⟨k7_0, k7_1⟩ := h7
    show P g X 3 22 [(2, .int x6_), (0, .ref a0), (1, .int x1)] [.int x7_] _ _ (K, len, I, J, R)
    have qt : x7_.toInt = Tg D s (Ad D s (LP1 D) 1) (min (x1.toInt + 5) 59) := by rw [k7_0, qmin]
    refine r_aload_n hC dX10_isHeld_22 1 rfl ?_
    refine r_iload_n hC dX10_isHeld_23 2 rfl ?_
    refine r_iconst hC (v := (1)) dX10_isHeld_24 (by decide) (by decide) (fun x8_ e8 t8 => ?_)
    refine r_isub hC dX10_isHeld_25 (fun x9_ e9 => ?_)
    try have t9 : x9_.toInt = x1.toInt - x8_.toInt := by rw [e9]; exact ti_sub (by omega) (by omega)
    refine r_callV hC (As := [.int x9_]) (rest := [.int x7_]) (ci := 10) (f_X10_speeds g (xL X) K len I J R hs a0 ka0 x9_ hm hbm khm lr hlr klr llr sr hsr ksr lsr ir hir kir lir wr hwr kwr lwr D E mc s hsk mo (by omega)) mT_6_167 mT_1_10 mT_6_164 mT_6_166 mP_81 okX10_speeds ⟨by decide, by decide⟩ rfl (by show kO (K a0) = _; rw [ka0]; rfl) rfl rfl (Nat.le_of_ble_eq_true rfl) ⟨by decide, by decide⟩ dX10_isHeld_26 (aI0 (F := fun st M => P g X 3 29 [(2, .int x6_), (0, .ref a0), (1, .int x1)] st _ _ M) (M := (K, len, I, J, R)) fun x10_ h10 => ?_)
    obtain ⟨k10_0, k10_1⟩ := h10
    show P g X 3 29 [(2, .int x6_), (0, .ref a0), (1, .int x1)] [.int x10_, .int x7_] _ _ (K, len, I, J, R)
    have qu : x10_.toInt = Tg D s (Ad D s (LP1 D) 1) (x1.toInt - 1) := by rw [k10_0, show x9_.toInt = x1.toInt - 1 by omega]
    refine r_icmp_ge hC (tgt := 53) dX10_isHeld_29 (by decide) (fun c11 => ?_) (fun c11 => ?_)
    · refine r_iconst hC (v := (0)) dX10_isHeld_53 (by decide) (by decide) (fun x12_ e12 t12 => ?_)
      exact r_iret hC hQ hlk hr (by rw [e12]; rfl) (by decide) (by decide) dX10_isHeld_54 ⟨_, rfl, rfl, (by omega)⟩
    · refine r_aload_n hC dX10_isHeld_32 1 rfl ?_
      refine r_geti hC 19 (ci := 10) rfl u10_in (by decide) mT_5_14 dX10_isHeld_33 ka0 rfl rfl (fun x13_ e13 => ?_)
      have r13 := hs.rng ka0 rfl e13
      have q13 := hs.gone ka0 e13
      have f13 : x13_.toInt = (I a0 19).toInt := by rw [e13]
      have q13g : x13_.toInt = GV D s (Ad D s (LP1 D) 1) 60 := by rw [e13]; exact mo.2.2
      refine r_bipush hC (v := (-2)) dX10_isHeld_36 (by decide) (by decide) (fun x14_ e14 t14 => ?_)
      refine r_icmp_eq hC (tgt := 49) dX10_isHeld_38 (by decide) (fun c15 => ?_) (fun c15 => ?_)
      · refine r_iconst hC (v := (1)) dX10_isHeld_49 (by decide) (by decide) (fun x16_ e16 t16 => ?_)
        refine r_goto hC (tgt := 54) dX10_isHeld_50 (by decide) ?_
        exact r_iret hC hQ hlk hr (by rw [e16]; rfl) (by decide) (by decide) dX10_isHeld_54 ⟨_, rfl, rfl, (by omega)⟩
      · refine r_aload_n hC dX10_isHeld_41 1 rfl ?_
        refine r_geti hC 19 (ci := 10) rfl u10_in (by decide) mT_5_14 dX10_isHeld_42 ka0 rfl rfl (fun x17_ e17 => ?_)
        have r17 := hs.rng ka0 rfl e17
        have q17 := hs.gone ka0 e17
        have f17 : x17_.toInt = (I a0 19).toInt := by rw [e17]
        have w17 : x17_ = x13_ := by rw [e17]; exact e13.symm
        have wt17 : x17_.toInt = x13_.toInt := by rw [w17]
        have q17g : x17_.toInt = GV D s (Ad D s (LP1 D) 1) 60 := by rw [e17]; exact mo.2.2
        refine r_iload_n hC dX10_isHeld_45 0 rfl ?_
        refine r_icmp_le hC (tgt := 53) dX10_isHeld_46 (by decide) (fun c18 => ?_) (fun c18 => ?_)
        · refine r_iconst hC (v := (0)) dX10_isHeld_53 (by decide) (by decide) (fun x19_ e19 t19 => ?_)
          exact r_iret hC hQ hlk hr (by rw [e19]; rfl) (by decide) (by decide) dX10_isHeld_54 ⟨_, rfl, rfl, (by omega)⟩
        · refine r_iconst hC (v := (1)) dX10_isHeld_49 (by decide) (by decide) (fun x20_ e20 t20 => ?_)
          refine r_goto hC (tgt := 54) dX10_isHeld_50 (by decide) ?_
          exact r_iret hC hQ hlk hr (by rw [e20]; rfl) (by decide) (by decide) dX10_isHeld_54 ⟨_, rfl, rfl, (by omega)⟩
  · refine r_bipush hC (v := (59)) dX10_isHeld_8 (by decide) (by decide) (fun x21_ e21 t21 => ?_)
    refine r_goto hC (tgt := 16) dX10_isHeld_10 (by decide) ?_
    refine r_istore_n hC (lv' := [(2, .int x21_), (0, .ref a0), (1, .int x1)]) dX10_isHeld_16 (by decide) rfl ?_
    have qmin : x21_.toInt = min (x1.toInt + 5) 59 := by omega
    refine r_aload_n hC dX10_isHeld_17 1 rfl ?_
    refine r_iload_n hC dX10_isHeld_18 0 rfl ?_
    refine r_callV hC (As := [.int x21_]) (rest := []) (ci := 10) (f_X10_speeds g (xL X) K len I J R hs a0 ka0 x21_ hm hbm khm lr hlr klr llr sr hsr ksr lsr ir hir kir lir wr hwr kwr lwr D E mc s hsk mo (by omega)) mT_6_167 mT_1_10 mT_6_164 mT_6_166 mP_81 okX10_speeds ⟨by decide, by decide⟩ rfl (by show kO (K a0) = _; rw [ka0]; rfl) rfl rfl (Nat.le_of_ble_eq_true rfl) ⟨by decide, by decide⟩ dX10_isHeld_19 (aI0 (F := fun st M => P g X 3 22 [(2, .int x21_), (0, .ref a0), (1, .int x1)] st _ _ M) (M := (K, len, I, J, R)) fun x22_ h22 => ?_)
    obtain ⟨k22_0, k22_1⟩ := h22
    show P g X 3 22 [(2, .int x21_), (0, .ref a0), (1, .int x1)] [.int x22_] _ _ (K, len, I, J, R)
    have qt : x22_.toInt = Tg D s (Ad D s (LP1 D) 1) (min (x1.toInt + 5) 59) := by rw [k22_0, qmin]
    refine r_aload_n hC dX10_isHeld_22 1 rfl ?_
    refine r_iload_n hC dX10_isHeld_23 2 rfl ?_
    refine r_iconst hC (v := (1)) dX10_isHeld_24 (by decide) (by decide) (fun x23_ e23 t23 => ?_)
    refine r_isub hC dX10_isHeld_25 (fun x24_ e24 => ?_)
    try have t24 : x24_.toInt = x1.toInt - x23_.toInt := by rw [e24]; exact ti_sub (by omega) (by omega)
    refine r_callV hC (As := [.int x24_]) (rest := [.int x22_]) (ci := 10) (f_X10_speeds g (xL X) K len I J R hs a0 ka0 x24_ hm hbm khm lr hlr klr llr sr hsr ksr lsr ir hir kir lir wr hwr kwr lwr D E mc s hsk mo (by omega)) mT_6_167 mT_1_10 mT_6_164 mT_6_166 mP_81 okX10_speeds ⟨by decide, by decide⟩ rfl (by show kO (K a0) = _; rw [ka0]; rfl) rfl rfl (Nat.le_of_ble_eq_true rfl) ⟨by decide, by decide⟩ dX10_isHeld_26 (aI0 (F := fun st M => P g X 3 29 [(2, .int x21_), (0, .ref a0), (1, .int x1)] st _ _ M) (M := (K, len, I, J, R)) fun x25_ h25 => ?_)
    obtain ⟨k25_0, k25_1⟩ := h25
    show P g X 3 29 [(2, .int x21_), (0, .ref a0), (1, .int x1)] [.int x25_, .int x22_] _ _ (K, len, I, J, R)
    have qu : x25_.toInt = Tg D s (Ad D s (LP1 D) 1) (x1.toInt - 1) := by rw [k25_0, show x24_.toInt = x1.toInt - 1 by omega]
    refine r_icmp_ge hC (tgt := 53) dX10_isHeld_29 (by decide) (fun c26 => ?_) (fun c26 => ?_)
    · refine r_iconst hC (v := (0)) dX10_isHeld_53 (by decide) (by decide) (fun x27_ e27 t27 => ?_)
      exact r_iret hC hQ hlk hr (by rw [e27]; rfl) (by decide) (by decide) dX10_isHeld_54 ⟨_, rfl, rfl, (by omega)⟩
    · refine r_aload_n hC dX10_isHeld_32 1 rfl ?_
      refine r_geti hC 19 (ci := 10) rfl u10_in (by decide) mT_5_14 dX10_isHeld_33 ka0 rfl rfl (fun x28_ e28 => ?_)
      have r28 := hs.rng ka0 rfl e28
      have q28 := hs.gone ka0 e28
      have f28 : x28_.toInt = (I a0 19).toInt := by rw [e28]
      have q28g : x28_.toInt = GV D s (Ad D s (LP1 D) 1) 60 := by rw [e28]; exact mo.2.2
      refine r_bipush hC (v := (-2)) dX10_isHeld_36 (by decide) (by decide) (fun x29_ e29 t29 => ?_)
      refine r_icmp_eq hC (tgt := 49) dX10_isHeld_38 (by decide) (fun c30 => ?_) (fun c30 => ?_)
      · refine r_iconst hC (v := (1)) dX10_isHeld_49 (by decide) (by decide) (fun x31_ e31 t31 => ?_)
        refine r_goto hC (tgt := 54) dX10_isHeld_50 (by decide) ?_
        exact r_iret hC hQ hlk hr (by rw [e31]; rfl) (by decide) (by decide) dX10_isHeld_54 ⟨_, rfl, rfl, (by omega)⟩
      · refine r_aload_n hC dX10_isHeld_41 1 rfl ?_
        refine r_geti hC 19 (ci := 10) rfl u10_in (by decide) mT_5_14 dX10_isHeld_42 ka0 rfl rfl (fun x32_ e32 => ?_)
        have r32 := hs.rng ka0 rfl e32
        have q32 := hs.gone ka0 e32
        have f32 : x32_.toInt = (I a0 19).toInt := by rw [e32]
        have w32 : x32_ = x28_ := by rw [e32]; exact e28.symm
        have wt32 : x32_.toInt = x28_.toInt := by rw [w32]
        have q32g : x32_.toInt = GV D s (Ad D s (LP1 D) 1) 60 := by rw [e32]; exact mo.2.2
        refine r_iload_n hC dX10_isHeld_45 0 rfl ?_
        refine r_icmp_le hC (tgt := 53) dX10_isHeld_46 (by decide) (fun c33 => ?_) (fun c33 => ?_)
        · refine r_iconst hC (v := (0)) dX10_isHeld_53 (by decide) (by decide) (fun x34_ e34 t34 => ?_)
          exact r_iret hC hQ hlk hr (by rw [e34]; rfl) (by decide) (by decide) dX10_isHeld_54 ⟨_, rfl, rfl, (by omega)⟩
        · refine r_iconst hC (v := (1)) dX10_isHeld_49 (by decide) (by decide) (fun x35_ e35 t35 => ?_)
          refine r_goto hC (tgt := 54) dX10_isHeld_50 (by decide) ?_
          exact r_iret hC hQ hlk hr (by rw [e35]; rfl) (by decide) (by decide) dX10_isHeld_54 ⟨_, rfl, rfl, (by omega)⟩
set_option maxHeartbeats 4000000 in
set_option maxRecDepth 100000 in
theorem f_X10_tapOf (g : GG) (l : Launch) (K len : Nat → Nat) (I : Nat → Nat → Int32) (J : Nat → Nat → Int64) (R : Nat → Nat → Option Nat) (hs : Sf K len I R) (a0 : Nat) (ka0 : K a0 = 11) (x1 : Int32) (hm : Nat) (hbm : R a0 3 = some hm) (khm : K hm = 10) (ps1 : x1.toInt < (I hm 7).toInt) (lr : Nat) (hlr : R a0 15 = some lr) (klr : K lr = 85) (llr : len lr = 60) (sr : Nat) (hsr : R a0 16 = some sr) (ksr : K sr = 86) (lsr : len sr = 300) (ir : Nat) (hir : R a0 17 = some ir) (kir : K ir = 87) (lir : len ir = 300) (wr : Nat) (hwr : R a0 18 = some wr) (kwr : K wr = 88) (lwr : len wr = 300) (D : DD) (E : Nat → Nat → Int) (mc : MC D E a0 hm I R) (p0 : 0 ≤ x1.toInt) (p1 : x1.toInt ≤ 5) : Ct g l yX10_tapOf cX10_tapOf 4 (Option.some Jvm.ClassFile.FieldType.int) rmX10_tapOf [.ref a0, .int x1] (K, len, I, J, R) (pI1 (K, len, I, J, R) (fun r I' => Sf K len I' R ∧ Fr K [(11, 19), (85, 999), (86, 999), (87, 999), (88, 999)] I I' ∧ (r.toInt = TapV D x1.toInt.toNat) ∧ (0 ≤ r.toInt ∧ r.toInt ≤ 60) ∧ (MO D x1.toInt.toNat (LP1 D) 1 a0 lr sr ir wr I'))) := by
  refine Ct_intro (by decide +kernel) (Nat.le_of_ble_eq_true rfl) (fun X hC hL hKK hNm hr hlk hQ => ?_)
  subst hL
  have hC : Cx g X cX10_tapOf "HillTapModel" 4 rmX10_tapOf := hC
  show P g X 4 0 [(0, .ref a0), (1, .int x1)] [] 0 0 (K, len, I, J, R)
  have hF : Fr K [(11, 19), (85, 999), (86, 999), (87, 999), (88, 999)] I I := Fr.refl
  obtain ⟨⟨hJ, hR6, hD7⟩, rwm, ⟨hd1, hd2, hd3, hd4, hd5, hd7, hd8, hd9⟩, -⟩ := id mc
  have hcx := CM_x hs khm
  have b5 := hs.rng khm (k := 3) rfl (x := I hm 3) rfl
  have b7 := hs.rng khm (k := 7) rfl (x := I hm 7) rfl
  have b8 := hs.rng khm (k := 8) rfl (x := I hm 8) rfl
  have b20 := hs.rng ka0 (k := 20) rfl (x := I a0 20) rfl
  have b_x1 := ti_rng x1
  obtain ⟨S0, eS0⟩ : ∃ z : Int32, z = I hm 7 := ⟨_, rfl⟩
  have fS0 : S0.toInt = (I hm 7).toInt := by rw [eS0]
  have rS0 := hs.rng khm rfl eS0
  refine r_aload_n hC dX10_tapOf_0 0 rfl ?_
  refine r_iload_n hC dX10_tapOf_1 1 rfl ?_
  have hv1 : I hm 7 = S0 := eS0.symm
  refine r_callV hC (As := [.int x1]) (rest := []) (ci := 10) (f_X10_runsAsTold g (xL X) K len I J R hs a0 ka0 x1 hm hbm khm (by rw [hv1]; omega) lr hlr klr llr sr hsr ksr lsr ir hir kir lir wr hwr kwr lwr D E mc (by omega) (by omega)) mT_6_127 mT_1_10 mT_6_124 mT_6_126 mP_73 okX10_runsAsTold ⟨by decide, by decide⟩ rfl (by show kO (K a0) = _; rw [ka0]; rfl) rfl rfl (Nat.le_of_ble_eq_true rfl) ⟨by decide, by decide⟩ dX10_tapOf_2 (aV1 (F := fun st M => P g X 4 5 [(0, .ref a0), (1, .int x1)] st _ _ M) (M := (K, len, I, J, R)) fun I2 h2 => ?_)
  obtain ⟨hs2, hf2, k2_0⟩ := h2
  show P g X 4 5 [(0, .ref a0), (1, .int x1)] [] _ _ (K, len, I2, J, R)
  have hF2 : Fr K [(11, 19), (85, 999), (86, 999), (87, 999), (88, 999)] I I2 := hF.trans hf2 rfl rfl
  refine r_iconst hC (v := (0)) dX10_tapOf_5 (by decide) (by decide) (fun x3_ e3 t3 => ?_)
  refine r_istore_n hC (lv' := [(2, .int x3_), (0, .ref a0), (1, .int x1)]) dX10_tapOf_6 (by decide) rfl ?_
  refine r_iconst hC (v := (0)) dX10_tapOf_7 (by decide) (by decide) (fun x4_ e4 t4 => ?_)
  refine r_istore_n hC (lv' := [(3, .int x4_), (2, .int x3_), (0, .ref a0), (1, .int x1)]) dX10_tapOf_8 (by decide) rfl ?_
  have LP5 : ∀ (mu : Nat) (x5_3 : Int32) (x5_2 : Int32) (v5_0 : 0 ≤ x5_3.toInt) (v5_1 : x5_3.toInt ≤ 60) (v5_2 : x5_2.toInt = Tp D x1.toInt.toNat x5_3.toInt.toNat) (v5_3 : 0 ≤ x5_2.toInt ∧ x5_2.toInt ≤ x5_3.toInt), (60 - x5_3.toInt).toNat = mu → P g X 4 9 [(0, .ref a0), (1, .int x1), (2, .int x5_2), (3, .int x5_3)] [] 0 0 (K, len, I2, J, R) := by
    intro mu; induction mu using Nat.strongRecOn with | ind mu ih => ?_
    intro x5_3 x5_2 v5_0 v5_1 v5_2 v5_3 hmu
    have ih5 := ih
    clear ih
    have hmu5 := hmu
    clear hmu
    refine r_iload_n hC dX10_tapOf_9 3 rfl ?_
    refine r_bipush hC (v := (60)) dX10_tapOf_10 (by decide) (by decide) (fun x6_ e6 t6 => ?_)
    refine r_icmp_ge hC (tgt := 45) dX10_tapOf_12 (by decide) (fun c7 => ?_) (fun c7 => ?_)
    · refine r_iload_n hC dX10_tapOf_45 2 rfl ?_
      exact r_iret hC hQ hlk hr rfl (by decide) (by decide) dX10_tapOf_46 ⟨_, _, rfl, rfl, ⟨hs2, hF2, (by first | (rw [TapV_e (n := x5_3.toInt.toNat) (by omega) (by omega)]; omega) | (rw [TapV_f (n := x5_3.toInt.toNat) (i := x5_3.toInt) (by omega) (by omega) (by omega) (by omega) (by omega)]; omega)), (by omega), (by exact k2_0)⟩⟩
    · refine r_aload_n hC dX10_tapOf_15 0 rfl ?_
      refine r_iload_n hC dX10_tapOf_16 3 rfl ?_
      refine r_callV hC (As := [.int x5_3]) (rest := []) (ci := 10) (f_X10_isLetting g (xL X) K len I2 J R hs2 a0 ka0 x5_3 hm hbm khm lr hlr klr llr sr hsr ksr lsr ir hir kir lir wr hwr kwr lwr D E (mc.mv hs ka0 khm hF2 rfl) k2_0.1 (by omega) (by omega)) mT_6_216 mT_1_10 mT_6_213 mT_6_215 mP_86 okX10_isLetting ⟨by decide, by decide⟩ rfl (by show kO (K a0) = _; rw [ka0]; rfl) rfl rfl (Nat.le_of_ble_eq_true rfl) ⟨by decide, by decide⟩ dX10_tapOf_17 (aI0 (F := fun st M => P g X 4 20 [(0, .ref a0), (1, .int x1), (2, .int x5_2), (3, .int x5_3)] st _ _ M) (M := (K, len, I2, J, R)) fun x8_ h8 => ?_)
      have k8_0 := h8
      clear h8
      show P g X 4 20 [(0, .ref a0), (1, .int x1), (2, .int x5_2), (3, .int x5_3)] [.int x8_] _ _ (K, len, I2, J, R)
      refine r_if_ne hC (tgt := 26) dX10_tapOf_20 (by decide) (fun c9 => ?_) (fun c9 => ?_)
      · refine r_aload_n hC dX10_tapOf_26 0 rfl ?_
        refine r_iload_n hC dX10_tapOf_27 3 rfl ?_
        refine r_callV hC (As := [.int x5_3]) (rest := []) (ci := 10) (f_X10_isHeld g (xL X) K len I2 J R hs2 a0 ka0 x5_3 hm hbm khm lr hlr klr llr sr hsr ksr lsr ir hir kir lir wr hwr kwr lwr D E (mc.mv hs ka0 khm hF2 rfl) x1.toInt.toNat (show ((x1.toInt.toNat : Nat) : Int) < D 0 7 by omega) k2_0 (by omega) (by omega)) mT_6_232 mT_1_10 mT_6_229 mT_6_231 mP_89 okX10_isHeld ⟨by decide, by decide⟩ rfl (by show kO (K a0) = _; rw [ka0]; rfl) rfl rfl (Nat.le_of_ble_eq_true rfl) ⟨by decide, by decide⟩ dX10_tapOf_28 (aI0 (F := fun st M => P g X 4 31 [(0, .ref a0), (1, .int x1), (2, .int x5_2), (3, .int x5_3)] st _ _ M) (M := (K, len, I2, J, R)) fun x10_ h10 => ?_)
        have k10_0 := h10
        clear h10
        show P g X 4 31 [(0, .ref a0), (1, .int x1), (2, .int x5_2), (3, .int x5_3)] [.int x10_] _ _ (K, len, I2, J, R)
        refine r_if_ne hC (tgt := 36) dX10_tapOf_31 (by decide) (fun c11 => ?_) (fun c11 => ?_)
        · obtain ⟨x12_, e12⟩ : ∃ z : Int32, z = x5_2 + Int32.ofInt (1) := ⟨_, rfl⟩
          refine r_iinc hC (j := 2) (v := x12_) (lv' := [(2, .int x12_), (0, .ref a0), (1, .int x1), (3, .int x5_3)]) dX10_tapOf_36 rfl (by rw [e12]) (by decide) rfl ?_
          try have t12 : x12_.toInt = x5_2.toInt + (1) := by rw [e12]; exact (ti_add (b := Int32.ofInt (1)) (by show _ ≤ _ + (1 : Int); omega) (by show _ + (1 : Int) ≤ _; omega))
          obtain ⟨x13_, e13⟩ : ∃ z : Int32, z = x5_3 + Int32.ofInt (1) := ⟨_, rfl⟩
          refine r_iinc hC (j := 3) (v := x13_) (lv' := [(3, .int x13_), (2, .int x12_), (0, .ref a0), (1, .int x1)]) dX10_tapOf_39 rfl (by rw [e13]) (by decide) rfl ?_
          try have t13 : x13_.toInt = x5_3.toInt + (1) := by rw [e13]; exact (ti_add (b := Int32.ofInt (1)) (by show _ ≤ _ + (1 : Int); omega) (by show _ + (1 : Int) ≤ _; omega))
          refine r_goto hC (tgt := 9) dX10_tapOf_42 (by decide) ?_
          refine r_sub [2, 3, 1, 0] rfl ?_
          exact ih5 ((60 - x13_.toInt).toNat) (by omega) x13_ x12_ (by omega) (by omega) (by first | (rw [show x13_.toInt.toNat = 0 by omega]; show _ = (0 : Int); omega) | (rw [show x13_.toInt.toNat = x5_3.toInt.toNat + 1 by omega, Tp_n (i := x5_3.toInt) (by omega) (by omega)]; omega) | (rw [show x13_.toInt.toNat = x5_3.toInt.toNat + 1 by omega, Tp_h (i := x5_3.toInt) (by omega) (by omega) (by omega) (by omega)]; omega)) (by omega) rfl
        · refine r_iload_n hC dX10_tapOf_34 2 rfl ?_
          exact r_iret hC hQ hlk hr rfl (by decide) (by decide) dX10_tapOf_35 ⟨_, _, rfl, rfl, ⟨hs2, hF2, (by first | (rw [TapV_e (n := x5_3.toInt.toNat) (by omega) (by omega)]; omega) | (rw [TapV_f (n := x5_3.toInt.toNat) (i := x5_3.toInt) (by omega) (by omega) (by omega) (by omega) (by omega)]; omega)), (by omega), (by exact k2_0)⟩⟩
      · refine r_goto hC (tgt := 39) dX10_tapOf_23 (by decide) ?_
        obtain ⟨x14_, e14⟩ : ∃ z : Int32, z = x5_3 + Int32.ofInt (1) := ⟨_, rfl⟩
        refine r_iinc hC (j := 3) (v := x14_) (lv' := [(3, .int x14_), (0, .ref a0), (1, .int x1), (2, .int x5_2)]) dX10_tapOf_39 rfl (by rw [e14]) (by decide) rfl ?_
        try have t14 : x14_.toInt = x5_3.toInt + (1) := by rw [e14]; exact (ti_add (b := Int32.ofInt (1)) (by show _ ≤ _ + (1 : Int); omega) (by show _ + (1 : Int) ≤ _; omega))
        refine r_goto hC (tgt := 9) dX10_tapOf_42 (by decide) ?_
        refine r_sub [1, 2, 3, 0] rfl ?_
        exact ih5 ((60 - x14_.toInt).toNat) (by omega) x14_ x5_2 (by omega) (by omega) (by first | (rw [show x14_.toInt.toNat = 0 by omega]; show _ = (0 : Int); omega) | (rw [show x14_.toInt.toNat = x5_3.toInt.toNat + 1 by omega, Tp_n (i := x5_3.toInt) (by omega) (by omega)]; omega) | (rw [show x14_.toInt.toNat = x5_3.toInt.toNat + 1 by omega, Tp_h (i := x5_3.toInt) (by omega) (by omega) (by omega) (by omega)]; omega)) (by omega) rfl
  refine r_sub [2, 3, 1, 0] rfl ?_
  exact LP5 _ x4_ x3_ (by omega) (by omega) (by first | (rw [show x4_.toInt.toNat = 0 by omega]; show _ = (0 : Int); omega) | (rw [show x4_.toInt.toNat = x5_3.toInt.toNat + 1 by omega, Tp_n (i := x5_3.toInt) (by omega) (by omega)]; omega) | (rw [show x4_.toInt.toNat = x5_3.toInt.toNat + 1 by omega, Tp_h (i := x5_3.toInt) (by omega) (by omega) (by omega) (by omega)]; omega)) (by omega) rfl
set_option maxHeartbeats 4000000 in
set_option maxRecDepth 100000 in
theorem f_X10_fooled (g : GG) (l : Launch) (K len : Nat → Nat) (I : Nat → Nat → Int32) (J : Nat → Nat → Int64) (R : Nat → Nat → Option Nat) (hs : Sf K len I R) (a0 : Nat) (ka0 : K a0 = 11) (x1 : Int32) (D : DD) (E : Nat → Nat → Int) (hmx : ∀ hm, R a0 3 = some hm → MC D E a0 hm I R) : Ct g l yX10_fooled cX10_fooled 3 (Option.some Jvm.ClassFile.FieldType.int) rmX10_fooled [.ref a0, .int x1] (K, len, I, J, R) (pI1 (K, len, I, J, R) (fun r I' => Sf K len I' R ∧ Fr K [(11, 0), (11, 1), (11, 2), (11, 19), (85, 999), (86, 999), (87, 999), (88, 999)] I I' ∧ ((R a0 3 = none ∧ r.toInt = -1) ∨ (∃ hm, R a0 3 = some hm ∧ ((1 ≤ D 0 7 ∧ 0 ≤ x1.toInt) ∧ r.toInt = (if Lc D 60 ≤ x1.toInt then (-2 : Int) else Fo (fun s => TapV D s) x1.toInt (D 0 7).toNat) ∨ ¬ (1 ≤ D 0 7 ∧ 0 ≤ x1.toInt) ∧ r.toInt = -1))) ∧ ((I' a0 2).toInt = -1))) := by
  refine Ct_intro (by decide +kernel) (Nat.le_of_ble_eq_true rfl) (fun X hC hL hKK hNm hr hlk hQ => ?_)
  subst hL
  have hC : Cx g X cX10_fooled "HillTapModel" 3 rmX10_fooled := hC
  show P g X 3 0 [(0, .ref a0), (1, .int x1)] [] 0 0 (K, len, I, J, R)
  have hF : Fr K [(11, 0), (11, 1), (11, 2), (11, 19), (85, 999), (86, 999), (87, 999), (88, 999)] I I := Fr.refl
  obtain ⟨lr, hlr, klr, llr⟩ := hs.row ka0 15 85 60 (by decide) (by decide)
  obtain ⟨sr, hsr, ksr, lsr⟩ := hs.row ka0 16 86 300 (by decide) (by decide)
  obtain ⟨ir, hir, kir, lir⟩ := hs.row ka0 17 87 300 (by decide) (by decide)
  obtain ⟨wr, hwr, kwr, lwr⟩ := hs.row ka0 18 88 300 (by decide) (by decide)
  have b_x1 := ti_rng x1
  rcases hs.2.1.2.2.1 a0 ka0 with hz | ⟨hm, hbm, khm⟩
  · refine r_aload_n hC dX10_fooled_0 0 rfl ?_
    refine r_iconst hC (v := (0)) dX10_fooled_1 (by decide) (by decide) (fun x1_ e1 t1 => ?_)
    refine r_puti hC 0 (ci := 10) rfl u10_in tyX10_ok nmX10 (by decide) mT_4_235 rfl rfl rfl dX10_fooled_2 ka0 rfl rfl (fun I2 eI2 => ?_)
    have hs2 := hs.put0 eI2 ka0 rfl rfl rfl (by decide)
    have hF2 := hF.put eI2 ka0 rfl
    refine r_aload_n hC dX10_fooled_5 0 rfl ?_
    refine r_getz hC 3 (ci := 10) rfl u10_in (by decide) mT_4_238 dX10_fooled_6 ka0 rfl rfl hz ?_
    refine r_ifnonnullN hC dX10_fooled_9 ?_
    refine r_aload_n hC dX10_fooled_12 0 rfl ?_
    refine r_iconst hC (v := (1)) dX10_fooled_13 (by decide) (by decide) (fun x3_ e3 t3 => ?_)
    refine r_callV hC (As := [.int x3_]) (rest := []) (ci := 10) (c_X10_refused g (xL X) K len I2 J R hs2 a0 ka0 x3_) mT_5_85 mT_1_10 mT_5_82 mT_5_84 mP_48 okX10_refused ⟨by decide, by decide⟩ rfl (by show kO (K a0) = _; rw [ka0]; rfl) rfl rfl (Nat.le_of_ble_eq_true rfl) ⟨by decide, by decide⟩ dX10_fooled_14 (aI1 (F := fun st M => P g X 3 17 [(0, .ref a0), (1, .int x1)] st _ _ M) (M := (K, len, I2, J, R)) fun x4_ I4 h4 => ?_)
    obtain ⟨hs4, hf4, k4_0, k4_1, k4_2⟩ := h4
    show P g X 3 17 [(0, .ref a0), (1, .int x1)] [.int x4_] _ _ (K, len, I4, J, R)
    have hF4 : Fr K [(11, 0), (11, 1), (11, 2), (11, 19), (85, 999), (86, 999), (87, 999), (88, 999)] I I4 := hF2.trans hf4 rfl rfl
    exact r_iret hC hQ hlk hr rfl (by decide) (by decide) dX10_fooled_17 ⟨_, _, rfl, rfl, ⟨hs4, hF4, (by first | exact Or.inl ⟨hz, by omega⟩ | exact Or.inr ⟨hm, hbm, Or.inr ⟨by omega, by omega⟩⟩ | exact Or.inr ⟨hm, hbm, Or.inl ⟨by omega, (congrArg Int32.toInt k4_0).trans (by first | (rw [if_neg (by omega), Fo_hit (k := NOx_l2.toInt.toNat) (NOx_v30_2 (by omega)) (show TapV D _ = _ by omega) (by omega)]; omega) | (by_cases h8 : Lc D 60 ≤ x1.toInt; (rw [if_pos h8]; omega); (rw [if_neg h8, show (D 0 7).toNat = NOx_l2.toInt.toNat by omega, NOx_v30_2 (by omega)]; omega)))⟩⟩), (by omega)⟩⟩
  · obtain ⟨S0, eS0⟩ : ∃ z : Int32, z = I hm 7 := ⟨_, rfl⟩
    have fS0 : S0.toInt = (I hm 7).toInt := by rw [eS0]
    have rS0 := hs.rng khm rfl eS0
    have mc := hmx hm hbm
    obtain ⟨⟨hJ, hR6, hD7⟩, rwm, ⟨hd1, hd2, hd3, hd4, hd5, hd7, hd8, hd9⟩, -⟩ := id mc
    have hcx := CM_x hs khm
    have b5 := hs.rng khm (k := 3) rfl (x := I hm 3) rfl
    have b7 := hs.rng khm (k := 7) rfl (x := I hm 7) rfl
    have b8 := hs.rng khm (k := 8) rfl (x := I hm 8) rfl
    have b20 := hs.rng ka0 (k := 20) rfl (x := I a0 20) rfl
    refine r_aload_n hC dX10_fooled_0 0 rfl ?_
    refine r_iconst hC (v := (0)) dX10_fooled_1 (by decide) (by decide) (fun x5_ e5 t5 => ?_)
    refine r_puti hC 0 (ci := 10) rfl u10_in tyX10_ok nmX10 (by decide) mT_4_235 rfl rfl rfl dX10_fooled_2 ka0 rfl rfl (fun I6 eI6 => ?_)
    have hs6 := hs.put0 eI6 ka0 rfl rfl rfl (by decide)
    have hF6 := hF.put eI6 ka0 rfl
    refine r_aload_n hC dX10_fooled_5 0 rfl ?_
    refine r_getr hC 3 (ci := 10) rfl u10_in (by decide) mT_4_238 dX10_fooled_6 ka0 rfl rfl hbm ?_
    refine r_ifnonnull hC (tgt := 18) dX10_fooled_9 (by decide) ?_
    refine r_iload_n hC dX10_fooled_18 1 rfl ?_
    refine r_if_ge hC (tgt := 28) dX10_fooled_19 (by decide) (fun c7 => ?_) (fun c7 => ?_)
    · refine r_iconst hC (v := (0)) dX10_fooled_28 (by decide) (by decide) (fun x8_ e8 t8 => ?_)
      refine r_istore_n hC (lv' := [(2, .int x8_), (0, .ref a0), (1, .int x1)]) dX10_fooled_29 (by decide) rfl ?_
      have LP9 : ∀ (mu : Nat) (x9_2 : Int32) (I9 : Nat → Nat → Int32) (hs9 : Sf K len I9 R) (hF9 : Fr K [(11, 0), (11, 1), (11, 2), (11, 19), (85, 999), (86, 999), (87, 999), (88, 999)] I I9) (v9_0 : 0 ≤ x9_2.toInt) (v9_1 : x9_2.toInt ≤ D 0 7) (v9_2 : x1.toInt < Lc D 60 → Fo (fun s => TapV D s) x1.toInt x9_2.toInt.toNat = -2), (6 - x9_2.toInt).toNat = mu → P g X 3 30 [(0, .ref a0), (1, .int x1), (2, .int x9_2)] [] 0 0 (K, len, I9, J, R) := by
        intro mu; induction mu using Nat.strongRecOn with | ind mu ih => ?_
        intro x9_2 I9 hs9 hF9 v9_0 v9_1 v9_2 hmu
        have ih9 := ih
        clear ih
        have hmu9 := hmu
        clear hmu
        refine r_iload_n hC dX10_fooled_30 2 rfl ?_
        refine r_aload_n hC dX10_fooled_31 0 rfl ?_
        refine r_getr hC 3 (ci := 10) rfl u10_in (by decide) mT_4_238 dX10_fooled_32 ka0 rfl rfl hbm ?_
        refine r_getiN hC 7 (ci := 9) rfl u9_in (by decide) nF_7 dX10_fooled_35 khm rfl rfl (fun x10_ e10 => ?_)
        have r10 := hs9.rng khm rfl e10
        have f10 : x10_.toInt = (I9 hm 7).toInt := by rw [e10]
        have w10 : x10_ = S0 := by rw [e10]; exact (Eq.trans (hF9.get khm rfl) eS0.symm)
        have wt10 : x10_.toInt = S0.toInt := by rw [w10]
        have sc10 : x10_.toInt = D 0 7 := by rw [e10]; exact (mc.mv hs ka0 khm hF9 rfl).2.2.1.2.2.2.2.2.1
        refine r_icmp_ge hC (tgt := 70) dX10_fooled_38 (by decide) (fun c11 => ?_) (fun c11 => ?_)
        · refine r_aload_n hC dX10_fooled_70 0 rfl ?_
          refine r_bipush hC (v := (-2)) dX10_fooled_71 (by decide) (by decide) (fun x12_ e12 t12 => ?_)
          refine r_callV hC (As := [.int x12_]) (rest := []) (ci := 10) (c_X10_done g (xL X) K len I9 J R hs9 a0 ka0 x12_) mT_6_79 mT_1_10 mT_6_76 mT_6_78 mP_67 okX10_done ⟨by decide, by decide⟩ rfl (by show kO (K a0) = _; rw [ka0]; rfl) rfl rfl (Nat.le_of_ble_eq_true rfl) ⟨by decide, by decide⟩ dX10_fooled_73 (aI1 (F := fun st M => P g X 3 76 [(0, .ref a0), (1, .int x1), (2, .int x9_2)] st _ _ M) (M := (K, len, I9, J, R)) fun x13_ I13 h13 => ?_)
          obtain ⟨hs13, hf13, k13_0, k13_1, k13_2⟩ := h13
          show P g X 3 76 [(0, .ref a0), (1, .int x1), (2, .int x9_2)] [.int x13_] _ _ (K, len, I13, J, R)
          have hF13 : Fr K [(11, 0), (11, 1), (11, 2), (11, 19), (85, 999), (86, 999), (87, 999), (88, 999)] I I13 := hF9.trans hf13 rfl rfl
          exact r_iret hC hQ hlk hr rfl (by decide) (by decide) dX10_fooled_76 ⟨_, _, rfl, rfl, ⟨hs13, hF13, (by first | exact Or.inl ⟨hz, by omega⟩ | exact Or.inr ⟨hm, hbm, Or.inr ⟨by omega, by omega⟩⟩ | exact Or.inr ⟨hm, hbm, Or.inl ⟨by omega, (congrArg Int32.toInt k13_0).trans (by first | (rw [if_neg (by omega), Fo_hit (k := x9_2.toInt.toNat) (v9_2 (by omega)) (show TapV D _ = _ by omega) (by omega)]; omega) | (by_cases h8 : Lc D 60 ≤ x1.toInt; (rw [if_pos h8]; omega); (rw [if_neg h8, show (D 0 7).toNat = x9_2.toInt.toNat by omega, v9_2 (by omega)]; omega)))⟩⟩), (by omega)⟩⟩
        · refine r_aload_n hC dX10_fooled_41 0 rfl ?_
          refine r_iload_n hC dX10_fooled_42 2 rfl ?_
          have hv14 : I9 hm 7 = x10_ := e10.symm
          refine r_callV hC (As := [.int x9_2]) (rest := []) (ci := 10) (f_X10_tapOf g (xL X) K len I9 J R hs9 a0 ka0 x9_2 hm hbm khm (by rw [hv14]; omega) lr hlr klr llr sr hsr ksr lsr ir hir kir lir wr hwr kwr lwr D E (mc.mv hs ka0 khm hF9 rfl) (by omega) (by omega)) mT_6_228 mT_1_10 mT_6_225 mT_6_227 mP_88 okX10_tapOf ⟨by decide, by decide⟩ rfl (by show kO (K a0) = _; rw [ka0]; rfl) rfl rfl (Nat.le_of_ble_eq_true rfl) ⟨by decide, by decide⟩ dX10_fooled_43 (aI1 (F := fun st M => P g X 3 46 [(0, .ref a0), (1, .int x1), (2, .int x9_2)] st _ _ M) (M := (K, len, I9, J, R)) fun x15_ I15 h15 => ?_)
          obtain ⟨hs15, hf15, k15_0, k15_1, k15_2⟩ := h15
          show P g X 3 46 [(0, .ref a0), (1, .int x1), (2, .int x9_2)] [.int x15_] _ _ (K, len, I15, J, R)
          have hF15 : Fr K [(11, 0), (11, 1), (11, 2), (11, 19), (85, 999), (86, 999), (87, 999), (88, 999)] I I15 := hF9.trans hf15 rfl rfl
          refine r_iload_n hC dX10_fooled_46 1 rfl ?_
          refine r_icmp_ne hC (tgt := 64) dX10_fooled_47 (by decide) (fun c16 => ?_) (fun c16 => ?_)
          · obtain ⟨x17_, e17⟩ : ∃ z : Int32, z = x9_2 + Int32.ofInt (1) := ⟨_, rfl⟩
            refine r_iinc hC (j := 2) (v := x17_) (lv' := [(2, .int x17_), (0, .ref a0), (1, .int x1)]) dX10_fooled_64 rfl (by rw [e17]) (by decide) rfl ?_
            try have t17 : x17_.toInt = x9_2.toInt + (1) := by rw [e17]; exact (ti_add (b := Int32.ofInt (1)) (by show _ ≤ _ + (1 : Int); omega) (by show _ + (1 : Int) ≤ _; omega))
            refine r_goto hC (tgt := 30) dX10_fooled_67 (by decide) ?_
            refine r_sub [1, 2, 0] rfl ?_
            exact ih9 ((6 - x17_.toInt).toNat) (by omega) x17_ I15 hs15 hF15 (by omega) (by omega) (by first | (intro h9; rw [show x17_.toInt.toNat = 0 by omega]; rfl) | (intro h9; rw [show x17_.toInt.toNat = x9_2.toInt.toNat + 1 by omega]; exact Fo_n (v9_2 h9) (show TapV D _ ≠ _ by omega))) rfl
          · refine r_aload_n hC dX10_fooled_50 0 rfl ?_
            refine r_callV hC (As := []) (rest := []) (ci := 10) (f_X10_lettingsOf g (xL X) K len I15 J R hs15 a0 ka0 hm hbm khm lr hlr klr llr sr hsr ksr lsr ir hir kir lir wr hwr kwr lwr D E (mc.mv hs ka0 khm hF15 rfl) k15_2.1) mT_6_212 mT_1_10 mT_6_209 mT_6_211 mP_85 okX10_lettingsOf ⟨by decide, by decide⟩ rfl (by show kO (K a0) = _; rw [ka0]; rfl) rfl rfl (Nat.le_of_ble_eq_true rfl) ⟨by decide, by decide⟩ dX10_fooled_51 (aI0 (F := fun st M => P g X 3 54 [(0, .ref a0), (1, .int x1), (2, .int x9_2)] st _ _ M) (M := (K, len, I15, J, R)) fun x18_ h18 => ?_)
            obtain ⟨k18_0, k18_1⟩ := h18
            show P g X 3 54 [(0, .ref a0), (1, .int x1), (2, .int x9_2)] [.int x18_] _ _ (K, len, I15, J, R)
            refine r_iload_n hC dX10_fooled_54 1 rfl ?_
            refine r_icmp_le hC (tgt := 64) dX10_fooled_55 (by decide) (fun c19 => ?_) (fun c19 => ?_)
            · obtain ⟨x20_, e20⟩ : ∃ z : Int32, z = x9_2 + Int32.ofInt (1) := ⟨_, rfl⟩
              refine r_iinc hC (j := 2) (v := x20_) (lv' := [(2, .int x20_), (0, .ref a0), (1, .int x1)]) dX10_fooled_64 rfl (by rw [e20]) (by decide) rfl ?_
              try have t20 : x20_.toInt = x9_2.toInt + (1) := by rw [e20]; exact (ti_add (b := Int32.ofInt (1)) (by show _ ≤ _ + (1 : Int); omega) (by show _ + (1 : Int) ≤ _; omega))
              refine r_goto hC (tgt := 30) dX10_fooled_67 (by decide) ?_
              refine r_sub [1, 2, 0] rfl ?_
              exact ih9 ((6 - x20_.toInt).toNat) (by omega) x20_ I15 hs15 hF15 (by omega) (by omega) (by first | (intro h9; rw [show x20_.toInt.toNat = 0 by omega]; rfl) | (intro h9; rw [show x20_.toInt.toNat = x9_2.toInt.toNat + 1 by omega]; exact Fo_n (v9_2 h9) (show TapV D _ ≠ _ by omega))) rfl
            · refine r_aload_n hC dX10_fooled_58 0 rfl ?_
              refine r_iload_n hC dX10_fooled_59 2 rfl ?_
              refine r_callV hC (As := [.int x9_2]) (rest := []) (ci := 10) (c_X10_done g (xL X) K len I15 J R hs15 a0 ka0 x9_2) mT_6_79 mT_1_10 mT_6_76 mT_6_78 mP_67 okX10_done ⟨by decide, by decide⟩ rfl (by show kO (K a0) = _; rw [ka0]; rfl) rfl rfl (Nat.le_of_ble_eq_true rfl) ⟨by decide, by decide⟩ dX10_fooled_60 (aI1 (F := fun st M => P g X 3 63 [(0, .ref a0), (1, .int x1), (2, .int x9_2)] st _ _ M) (M := (K, len, I15, J, R)) fun x21_ I21 h21 => ?_)
              obtain ⟨hs21, hf21, k21_0, k21_1, k21_2⟩ := h21
              show P g X 3 63 [(0, .ref a0), (1, .int x1), (2, .int x9_2)] [.int x21_] _ _ (K, len, I21, J, R)
              have hF21 : Fr K [(11, 0), (11, 1), (11, 2), (11, 19), (85, 999), (86, 999), (87, 999), (88, 999)] I I21 := hF15.trans hf21 rfl rfl
              have mo21 := k15_2.mv ka0 klr ksr kir kwr hf21 rfl
              exact r_iret hC hQ hlk hr rfl (by decide) (by decide) dX10_fooled_63 ⟨_, _, rfl, rfl, ⟨hs21, hF21, (by first | exact Or.inl ⟨hz, by omega⟩ | exact Or.inr ⟨hm, hbm, Or.inr ⟨by omega, by omega⟩⟩ | exact Or.inr ⟨hm, hbm, Or.inl ⟨by omega, (congrArg Int32.toInt k21_0).trans (by first | (rw [if_neg (by omega), Fo_hit (k := x9_2.toInt.toNat) (v9_2 (by omega)) (show TapV D _ = _ by omega) (by omega)]; omega) | (by_cases h8 : Lc D 60 ≤ x1.toInt; (rw [if_pos h8]; omega); (rw [if_neg h8, show (D 0 7).toNat = x9_2.toInt.toNat by omega, v9_2 (by omega)]; omega)))⟩⟩), (by omega)⟩⟩
      refine r_sub [1, 2, 0] rfl ?_
      exact LP9 _ x8_ I6 hs6 hF6 (by omega) (by omega) (by first | (intro h9; rw [show x8_.toInt.toNat = 0 by omega]; rfl) | (intro h9; rw [show x8_.toInt.toNat = x9_2.toInt.toNat + 1 by omega]; exact Fo_n (v9_2 h9) (show TapV D _ ≠ _ by omega))) rfl
    · refine r_aload_n hC dX10_fooled_22 0 rfl ?_
      refine r_iconst hC (v := (2)) dX10_fooled_23 (by decide) (by decide) (fun x22_ e22 t22 => ?_)
      refine r_callV hC (As := [.int x22_]) (rest := []) (ci := 10) (c_X10_refused g (xL X) K len I6 J R hs6 a0 ka0 x22_) mT_5_85 mT_1_10 mT_5_82 mT_5_84 mP_48 okX10_refused ⟨by decide, by decide⟩ rfl (by show kO (K a0) = _; rw [ka0]; rfl) rfl rfl (Nat.le_of_ble_eq_true rfl) ⟨by decide, by decide⟩ dX10_fooled_24 (aI1 (F := fun st M => P g X 3 27 [(0, .ref a0), (1, .int x1)] st _ _ M) (M := (K, len, I6, J, R)) fun x23_ I23 h23 => ?_)
      obtain ⟨hs23, hf23, k23_0, k23_1, k23_2⟩ := h23
      show P g X 3 27 [(0, .ref a0), (1, .int x1)] [.int x23_] _ _ (K, len, I23, J, R)
      have hF23 : Fr K [(11, 0), (11, 1), (11, 2), (11, 19), (85, 999), (86, 999), (87, 999), (88, 999)] I I23 := hF6.trans hf23 rfl rfl
      exact r_iret hC hQ hlk hr rfl (by decide) (by decide) dX10_fooled_27 ⟨_, _, rfl, rfl, ⟨hs23, hF23, (by first | exact Or.inl ⟨hz, by omega⟩ | exact Or.inr ⟨hm, hbm, Or.inr ⟨by omega, by omega⟩⟩ | exact Or.inr ⟨hm, hbm, Or.inl ⟨by omega, (congrArg Int32.toInt k23_0).trans (by first | (rw [if_neg (by omega), Fo_hit (k := NOx_l2.toInt.toNat) (NOx_v30_2 (by omega)) (show TapV D _ = _ by omega) (by omega)]; omega) | (by_cases h8 : Lc D 60 ≤ x1.toInt; (rw [if_pos h8]; omega); (rw [if_neg h8, show (D 0 7).toNat = NOx_l2.toInt.toNat by omega, NOx_v30_2 (by omega)]; omega)))⟩⟩), (by omega)⟩⟩

