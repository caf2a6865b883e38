set_option maxHeartbeats 4000000 in
set_option maxRecDepth 100000 in
theorem f_X10_weighs (g : GG) (l : Launch) (K len : Nat → Nat) (I : Nat → Nat → Int32) (J : Nat → Nat → Int64) (R : Nat → Nat → Option Nat) (hs : Sf K len I R) (a0 : Nat) (ka0 : K a0 = 11) (hm : Nat) (hbm : R a0 3 = some hm) (khm : K hm = 10) (lr : Nat) (hlr : R a0 15 = some lr) (klr : K lr = 85) (llr : len lr = 60) (sr : Nat) (hsr : R a0 16 = some sr) (ksr : K sr = 86) (lsr : len sr = 300) (ir : Nat) (hir : R a0 17 = some ir) (kir : K ir = 87) (lir : len ir = 300) (wr : Nat) (hwr : R a0 18 = some wr) (kwr : K wr = 88) (lwr : len wr = 300) (D : DD) (E : Nat → Nat → Int) (mc : MC D E a0 hm I R) (N : Nat) (hN : (I a0 20).toInt = N) (ft : Nat) (hft : R a0 25 = some ft) (kft : K ft = 93) (lft : len ft = 6) : Ct g l yX10_weighs cX10_weighs 3 (Option.some Jvm.ClassFile.FieldType.int) rmX10_weighs [.ref a0] (K, len, I, J, R) (pI1 (K, len, I, J, R) (fun r I' => Sf K len I' R ∧ Fr K [(11, 19), (85, 999), (86, 999), (87, 999), (88, 999), (93, 999)] I I' ∧ (r.toInt = Wf D E N (D 0 7).toNat) ∧ (0 ≤ r.toInt ∧ r.toInt ≤ 600) ∧ (∀ j : Nat, (j : Int) < D 0 7 → (I' ft j).toInt = Fb D E N j))) := by
  refine Ct_intro (by decide +kernel) (Nat.le_of_ble_eq_true rfl) (fun X hC hL hKK hNm hr hlk hQ => ?_)
  subst hL
  have hC : Cx g X cX10_weighs "HillTapModel" 3 rmX10_weighs := hC
  show P g X 3 0 [(0, .ref a0)] [] 0 0 (K, len, I, J, R)
  have hF : Fr K [(11, 19), (85, 999), (86, 999), (87, 999), (88, 999), (93, 999)] I I := Fr.refl
  obtain ⟨⟨hJ, hR6, hD7⟩, rwm, ⟨hd1, hd2, hd3, hd4, hd5, hd7, hd8, hd9⟩, -⟩ := id mc
  have hcx := CM_x hs khm
  have b5 := hs.rng khm (k := 3) rfl (x := I hm 3) rfl
  have b7 := hs.rng khm (k := 7) rfl (x := I hm 7) rfl
  have b8 := hs.rng khm (k := 8) rfl (x := I hm 8) rfl
  have b20 := hs.rng ka0 (k := 20) rfl (x := I a0 20) rfl
  obtain ⟨C20, eC20⟩ : ∃ z : Int32, z = I a0 20 := ⟨_, rfl⟩
  have fC20 : C20.toInt = (I a0 20).toInt := by rw [eC20]
  have rC20 := hs.rng ka0 rfl eC20
  obtain ⟨S0, eS0⟩ : ∃ z : Int32, z = I hm 7 := ⟨_, rfl⟩
  have fS0 : S0.toInt = (I hm 7).toInt := by rw [eS0]
  have rS0 := hs.rng khm rfl eS0
  refine r_iconst hC (v := (0)) dX10_weighs_0 (by decide) (by decide) (fun x1_ e1 t1 => ?_)
  refine r_istore_n hC (lv' := [(1, .int x1_), (0, .ref a0)]) dX10_weighs_1 (by decide) rfl ?_
  refine r_iconst hC (v := (0)) dX10_weighs_2 (by decide) (by decide) (fun x2_ e2 t2 => ?_)
  refine r_istore_n hC (lv' := [(2, .int x2_), (1, .int x1_), (0, .ref a0)]) dX10_weighs_3 (by decide) rfl ?_
  have LP3 : ∀ (mu : Nat) (x3_2 : Int32) (x3_1 : Int32) (I3 : Nat → Nat → Int32) (hs3 : Sf K len I3 R) (hF3 : Fr K [(11, 19), (85, 999), (86, 999), (87, 999), (88, 999), (93, 999)] I I3) (v3_0 : 0 ≤ x3_2.toInt) (v3_1 : x3_2.toInt ≤ D 0 7) (v3_2 : x3_1.toInt = Wf D E N x3_2.toInt.toNat) (v3_3 : 0 ≤ x3_1.toInt ∧ x3_1.toInt ≤ 99 * x3_2.toInt) (v3_4 : ∀ j : Nat, 0 ≤ j → (j : Int) < x3_2.toInt → (I3 ft j).toInt = Fb D E N j), (6 - x3_2.toInt).toNat = mu → P g X 3 4 [(0, .ref a0), (1, .int x3_1), (2, .int x3_2)] [] 0 0 (K, len, I3, J, R) := by
    intro mu; induction mu using Nat.strongRecOn with | ind mu ih => ?_
    intro x3_2 x3_1 I3 hs3 hF3 v3_0 v3_1 v3_2 v3_3 v3_4 hmu
    have ih3 := ih
    clear ih
    have hmu3 := hmu
    clear hmu
    refine r_iload_n hC dX10_weighs_4 2 rfl ?_
    refine r_aload_n hC dX10_weighs_5 0 rfl ?_
    refine r_getr hC 3 (ci := 10) rfl u10_in (by decide) mT_4_238 dX10_weighs_6 ka0 rfl rfl hbm ?_
    refine r_getiN hC 7 (ci := 9) rfl u9_in (by decide) nF_7 dX10_weighs_9 khm rfl rfl (fun x4_ e4 => ?_)
    have r4 := hs3.rng khm rfl e4
    have f4 : x4_.toInt = (I3 hm 7).toInt := by rw [e4]
    have w4 : x4_ = S0 := by rw [e4]; exact (Eq.trans (hF3.get khm rfl) eS0.symm)
    have wt4 : x4_.toInt = S0.toInt := by rw [w4]
    have sc4 : x4_.toInt = D 0 7 := by rw [e4]; exact (mc.mv hs ka0 khm hF3 rfl).2.2.1.2.2.2.2.2.1
    refine r_icmp_ge hC (tgt := 59) dX10_weighs_12 (by decide) (fun c5 => ?_) (fun c5 => ?_)
    · refine r_iload_n hC dX10_weighs_59 1 rfl ?_
      exact r_iret hC hQ hlk hr rfl (by decide) (by decide) dX10_weighs_60 ⟨_, _, rfl, rfl, ⟨hs3, hF3, (by rw [show (D 0 7).toNat = x3_2.toInt.toNat by omega]; exact v3_2), (by omega), (by exact fun j hj => v3_4 j (Nat.zero_le j) (by omega))⟩⟩
    · refine r_aload_n hC dX10_weighs_15 0 rfl ?_
      refine r_getr hC 25 (ci := 10) rfl u10_in (by decide) mT_5_20 dX10_weighs_16 ka0 rfl rfl hft ?_
      refine r_iload_n hC dX10_weighs_19 2 rfl ?_
      refine r_aload_n hC dX10_weighs_20 0 rfl ?_
      refine r_iload_n hC dX10_weighs_21 2 rfl ?_
      refine r_bipush hC (v := (59)) dX10_weighs_22 (by decide) (by decide) (fun x6_ e6 t6 => ?_)
      have hv7 : I3 hm 7 = x4_ := e4.symm
      refine r_callV hC (As := [.int x3_2, .int x6_]) (rest := [.int x3_2, .ref ft]) (ci := 10) (f_X10_agrees g (xL X) K len I3 J R hs3 a0 ka0 x3_2 x6_ hm hbm khm (by rw [hv7]; omega) lr hlr klr llr sr hsr ksr lsr ir hir kir lir wr hwr kwr lwr D E (mc.mv hs ka0 khm hF3 rfl) N (by rw [hF3.get ka0 rfl]; exact hN) (by omega) (by omega) (by omega)) mT_6_188 mT_1_10 mT_6_185 mT_6_187 mP_83 okX10_agrees ⟨by decide, by decide⟩ rfl (by show kO (K a0) = _; rw [ka0]; rfl) rfl rfl (Nat.le_of_ble_eq_true rfl) ⟨by decide, by decide⟩ dX10_weighs_24 (aI1 (F := fun st M => P g X 3 27 [(0, .ref a0), (1, .int x3_1), (2, .int x3_2)] st _ _ M) (M := (K, len, I3, J, R)) fun x8_ I8 h8 => ?_)
      obtain ⟨hs8, hf8, k8_0⟩ := h8
      show P g X 3 27 [(0, .ref a0), (1, .int x3_1), (2, .int x3_2)] [.int x8_, .int x3_2, .ref ft] _ _ (K, len, I8, J, R)
      have hF8 : Fr K [(11, 19), (85, 999), (86, 999), (87, 999), (88, 999), (93, 999)] I I8 := hF3.trans hf8 rfl rfl
      have kf : x8_.toInt = 1 ∧ (59 < Mf D E x3_2.toInt.toNat N) ∨ x8_.toInt = 0 ∧ ¬ (59 < Mf D E x3_2.toInt.toNat N) := by have h9 := k8_0; rw [show x6_.toInt = 59 by omega] at h9; exact h9
      clear k8_0
      refine x_zastore hC kft lft (by decide) rfl rfl dX10_weighs_27 (by omega) (by omega) (fun I9 eI9 => ?_)
      have hs9 := hs8.put0 eI9 kft (rng_arr (by decide) _) rfl (xF_arr (by decide) _) (by decide)
      have hF9 := hF8.put eI9 kft (inS_arr rfl _)
      refine r_iload_n hC dX10_weighs_28 1 rfl ?_
      refine r_aload_n hC dX10_weighs_29 0 rfl ?_
      refine r_getr hC 25 (ci := 10) rfl u10_in (by decide) mT_5_20 dX10_weighs_30 ka0 rfl rfl hft ?_
      refine r_iload_n hC dX10_weighs_33 2 rfl ?_
      refine x_zaload hC kft lft (by decide) rfl rfl dX10_weighs_34 (by omega) (by omega) (fun x10_ e10 => ?_)
      have qf : x10_.toInt = x8_.toInt := by rw [e10, eI9, up2_self, vnz (by omega) (by omega)]
      refine r_if_eq hC (tgt := 50) dX10_weighs_35 (by decide) (fun c11 => ?_) (fun c11 => ?_)
      · refine r_iconst hC (v := (0)) dX10_weighs_50 (by decide) (by decide) (fun x12_ e12 t12 => ?_)
        refine r_iadd hC dX10_weighs_51 (fun x13_ e13 => ?_)
        try have t13 : x13_.toInt = x3_1.toInt + x12_.toInt := by rw [e13]; exact ti_add (by omega) (by omega)
        refine r_istore_n hC (lv' := [(1, .int x13_), (0, .ref a0), (2, .int x3_2)]) dX10_weighs_52 (by decide) rfl ?_
        obtain ⟨x14_, e14⟩ : ∃ z : Int32, z = x3_2 + Int32.ofInt (1) := ⟨_, rfl⟩
        refine r_iinc hC (j := 2) (v := x14_) (lv' := [(2, .int x14_), (1, .int x13_), (0, .ref a0)]) dX10_weighs_53 rfl (by rw [e14]) (by decide) rfl ?_
        try have t14 : x14_.toInt = x3_2.toInt + (1) := by rw [e14]; exact (ti_add (b := Int32.ofInt (1)) (by show _ ≤ _ + (1 : Int); omega) (by show _ + (1 : Int) ≤ _; omega))
        refine r_goto hC (tgt := 4) dX10_weighs_56 (by decide) ?_
        refine r_sub [2, 1, 0] rfl ?_
        exact ih3 ((6 - x14_.toInt).toNat) (by omega) x14_ x13_ I9 hs9 hF9 (by omega) (by omega) (by first | (rw [show x14_.toInt.toNat = 0 by omega]; show _ = (0 : Int); omega) | (rw [show x14_.toInt.toNat = x3_2.toInt.toNat + 1 by omega, Wf_t (by omega)]; omega) | (rw [show x14_.toInt.toNat = x3_2.toInt.toNat + 1 by omega, Wf_n (by omega)]; omega)) (by omega) (by first | exact all_0 (P := fun j => (I ft j).toInt = Fb D E N j) (q := 0) (by omega) | exact fillf_s (f := Fb D E N) (k := x3_2.toNatClampNeg) (fun j h0 hj => by rw [hf8.get kft rfl]; exact v3_4 j h0 hj) eI9 (by have h9 := clampI (i := x3_2) (by omega); omega) (by rw [vnz (by omega) (by omega), clx (i := x3_2) rfl (by omega)]; first | (rw [Fb_t (by omega)]; omega) | (rw [Fb_n (by omega)]; omega)) (by omega)) rfl
      · refine r_aload_n hC dX10_weighs_38 0 rfl ?_
        refine r_getr hC 3 (ci := 10) rfl u10_in (by decide) mT_4_238 dX10_weighs_39 ka0 rfl rfl hbm ?_
        obtain ⟨a15_, hb15, hk15, hn15⟩ := hs9.row khm 16 75 6 (by decide) (by decide)
        refine r_getrN hC 16 (ci := 9) rfl u9_in (by decide) nF_16 dX10_weighs_42 khm rfl rfl hb15 ?_
        refine r_iload_n hC dX10_weighs_45 2 rfl ?_
        refine x_iaload hC hk15 hn15 (by decide) rfl rfl dX10_weighs_46 (by omega) (by omega) (fun x16_ e16 => ?_)
        have q16 : x16_.toInt = D 6 x3_2.toInt.toNat := by rw [e16, clx (i := x3_2) rfl (by omega)]; exact (mc.mv hs ka0 khm hF9 rfl).hrw (r := 6) (by decide) (by decide) hb15 (by rw [cnt_6]; omega) (fun h9 => absurd h9 (by decide))
        have jb16 : 0 ≤ D 6 x3_2.toInt.toNat ∧ D 6 x3_2.toInt.toNat ≤ 99 := hJ.2.2.2.1 6 _ (by decide) (by decide) (by decide)
        refine r_goto hC (tgt := 51) dX10_weighs_47 (by decide) ?_
        refine r_iadd hC dX10_weighs_51 (fun x17_ e17 => ?_)
        try have t17 : x17_.toInt = x3_1.toInt + x16_.toInt := by rw [e17]; exact ti_add (by omega) (by omega)
        refine r_istore_n hC (lv' := [(1, .int x17_), (0, .ref a0), (2, .int x3_2)]) dX10_weighs_52 (by decide) rfl ?_
        obtain ⟨x18_, e18⟩ : ∃ z : Int32, z = x3_2 + Int32.ofInt (1) := ⟨_, rfl⟩
        refine r_iinc hC (j := 2) (v := x18_) (lv' := [(2, .int x18_), (1, .int x17_), (0, .ref a0)]) dX10_weighs_53 rfl (by rw [e18]) (by decide) rfl ?_
        try have t18 : x18_.toInt = x3_2.toInt + (1) := by rw [e18]; exact (ti_add (b := Int32.ofInt (1)) (by show _ ≤ _ + (1 : Int); omega) (by show _ + (1 : Int) ≤ _; omega))
        refine r_goto hC (tgt := 4) dX10_weighs_56 (by decide) ?_
        refine r_sub [2, 1, 0] rfl ?_
        exact ih3 ((6 - x18_.toInt).toNat) (by omega) x18_ x17_ I9 hs9 hF9 (by omega) (by omega) (by first | (rw [show x18_.toInt.toNat = 0 by omega]; show _ = (0 : Int); omega) | (rw [show x18_.toInt.toNat = x3_2.toInt.toNat + 1 by omega, Wf_t (by omega)]; omega) | (rw [show x18_.toInt.toNat = x3_2.toInt.toNat + 1 by omega, Wf_n (by omega)]; omega)) (by omega) (by first | exact all_0 (P := fun j => (I ft j).toInt = Fb D E N j) (q := 0) (by omega) | exact fillf_s (f := Fb D E N) (k := x3_2.toNatClampNeg) (fun j h0 hj => by rw [hf8.get kft rfl]; exact v3_4 j h0 hj) eI9 (by have h9 := clampI (i := x3_2) (by omega); omega) (by rw [vnz (by omega) (by omega), clx (i := x3_2) rfl (by omega)]; first | (rw [Fb_t (by omega)]; omega) | (rw [Fb_n (by omega)]; omega)) (by omega)) rfl
  refine r_sub [2, 1, 0] rfl ?_
  exact LP3 _ x2_ x1_ I hs hF (by omega) (by omega) (by first | (rw [show x2_.toInt.toNat = 0 by omega]; show _ = (0 : Int); omega) | (rw [show x2_.toInt.toNat = x3_2.toInt.toNat + 1 by omega, Wf_t (by omega)]; omega) | (rw [show x2_.toInt.toNat = x3_2.toInt.toNat + 1 by omega, Wf_n (by omega)]; omega)) (by omega) (by first | exact all_0 (P := fun j => (I ft j).toInt = Fb D E N j) (q := 0) (by omega) | exact fillf_s (f := Fb D E N) (k := x3_2.toNatClampNeg) (fun j h0 hj => by rw [hfNOagk.get kft rfl]; exact v3_4 j h0 hj) eI (by have h9 := clampI (i := x3_2) (by omega); omega) (by rw [vnz (by omega) (by omega), clx (i := x3_2) rfl (by omega)]; first | (rw [Fb_t (by omega)]; omega) | (rw [Fb_n (by omega)]; omega)) (by omega)) rfl
set_option maxHeartbeats 4000000 in
set_option maxRecDepth 100000 in
theorem f_X10_alikeAt (g : GG) (l : Launch) (K len : Nat → Nat) (I : Nat → Nat → Int32) (J : Nat → Nat → Int64) (R : Nat → Nat → Option Nat) (hs : Sf K len I R) (a0 : Nat) (ka0 : K a0 = 11) (x1 : Int32) (hm : Nat) (hbm : R a0 3 = some hm) (khm : K hm = 10) (lr : Nat) (hlr : R a0 15 = some lr) (klr : K lr = 85) (llr : len lr = 60) (sr : Nat) (hsr : R a0 16 = some sr) (ksr : K sr = 86) (lsr : len sr = 300) (ir : Nat) (hir : R a0 17 = some ir) (kir : K ir = 87) (lir : len ir = 300) (wr : Nat) (hwr : R a0 18 = some wr) (kwr : K wr = 88) (lwr : len wr = 300) (D : DD) (E : Nat → Nat → Int) (mc : MC D E a0 hm I R) (N : Nat) (hN : (I a0 20).toInt = N) (ft : Nat) (hft : R a0 25 = some ft) (kft : K ft = 93) (lft : len ft = 6) (ftf : ∀ j : Nat, (j : Int) < D 0 7 → (I ft j).toInt = Fb D E N j) (p0 : 0 ≤ x1.toInt ∧ x1.toInt ≤ 99) : Ct g l yX10_alikeAt cX10_alikeAt 6 (Option.some Jvm.ClassFile.FieldType.int) rmX10_alikeAt [.ref a0, .int x1] (K, len, I, J, R) (pI0 (K, len, I, J, R) (fun r => (r.toInt = Gx D E N x1.toInt))) := by
  refine Ct_intro (by decide +kernel) (Nat.le_of_ble_eq_true rfl) (fun X hC hL hKK hNm hr hlk hQ => ?_)
  subst hL
  have hC : Cx g X cX10_alikeAt "HillTapModel" 6 rmX10_alikeAt := hC
  show P g X 6 0 [(0, .ref a0), (1, .int x1)] [] 0 0 (K, len, I, J, R)
  have hF : Fr K [] I I := Fr.refl
  obtain ⟨⟨hJ, hR6, hD7⟩, rwm, ⟨hd1, hd2, hd3, hd4, hd5, hd7, hd8, hd9⟩, -⟩ := id mc
  have hcx := CM_x hs khm
  have b5 := hs.rng khm (k := 3) rfl (x := I hm 3) rfl
  have b7 := hs.rng khm (k := 7) rfl (x := I hm 7) rfl
  have b8 := hs.rng khm (k := 8) rfl (x := I hm 8) rfl
  have b20 := hs.rng ka0 (k := 20) rfl (x := I a0 20) rfl
  have b_x1 := ti_rng x1
  obtain ⟨C20, eC20⟩ : ∃ z : Int32, z = I a0 20 := ⟨_, rfl⟩
  have fC20 : C20.toInt = (I a0 20).toInt := by rw [eC20]
  have rC20 := hs.rng ka0 rfl eC20
  refine r_iconst hC (v := (0)) dX10_alikeAt_0 (by decide) (by decide) (fun x1_ e1 t1 => ?_)
  refine r_istore_n hC (lv' := [(2, .int x1_), (0, .ref a0), (1, .int x1)]) dX10_alikeAt_1 (by decide) rfl ?_
  refine r_iconst hC (v := (0)) dX10_alikeAt_2 (by decide) (by decide) (fun x2_ e2 t2 => ?_)
  refine r_istore_n hC (lv' := [(3, .int x2_), (2, .int x1_), (0, .ref a0), (1, .int x1)]) dX10_alikeAt_3 (by decide) rfl ?_
  have LP3 : ∀ (mu : Nat) (x3_3 : Int32) (x3_2 : Int32) (v3_0 : 0 ≤ x3_3.toInt) (v3_1 : x3_3.toInt ≤ D 0 7) (v3_2 : x3_2.toInt = Gr D E N x1.toInt x3_3.toInt.toNat) (v3_3 : 0 ≤ x3_2.toInt), (6 - x3_3.toInt).toNat = mu → P g X 6 4 [(0, .ref a0), (1, .int x1), (2, .int x3_2), (3, .int x3_3)] [] 0 0 (K, len, I, J, R) := by
    intro mu; induction mu using Nat.strongRecOn with | ind mu ih => ?_
    intro x3_3 x3_2 v3_0 v3_1 v3_2 v3_3 hmu
    have ih3 := ih
    clear ih
    have hmu3 := hmu
    clear hmu
    refine r_iload_n hC dX10_alikeAt_4 3 rfl ?_
    refine r_aload_n hC dX10_alikeAt_5 0 rfl ?_
    refine r_getr hC 3 (ci := 10) rfl u10_in (by decide) mT_4_238 dX10_alikeAt_6 ka0 rfl rfl hbm ?_
    refine r_getiN hC 7 (ci := 9) rfl u9_in (by decide) nF_7 dX10_alikeAt_9 khm rfl rfl (fun x4_ e4 => ?_)
    have r4 := hs.rng khm rfl e4
    have f4 : x4_.toInt = (I hm 7).toInt := by rw [e4]
    have sc4 : x4_.toInt = D 0 7 := by rw [e4]; exact mc.2.2.1.2.2.2.2.2.1
    refine r_icmp_ge hC (tgt := 112) dX10_alikeAt_12 (by decide) (fun c5 => ?_) (fun c5 => ?_)
    · refine r_iload_n hC dX10_alikeAt_112 2 rfl ?_
      exact r_iret hC hQ hlk hr rfl (by decide) (by decide) dX10_alikeAt_113 ⟨_, rfl, rfl, (by show _ = Gr D E N x1.toInt (D 0 7).toNat; rw [show (D 0 7).toNat = x3_3.toInt.toNat by omega]; exact v3_2)⟩
    · have alz := Al_b (D := D) (E := E) (N := N) (dep := x1.toInt) (s := x3_3.toInt.toNat) hJ 0
      refine r_iconst hC (v := (0)) dX10_alikeAt_15 (by decide) (by decide) (fun x6_ e6 t6 => ?_)
      refine r_istore hC (lv' := [(4, .int x6_), (0, .ref a0), (1, .int x1), (2, .int x3_2), (3, .int x3_3)]) dX10_alikeAt_16 (by decide) rfl ?_
      refine r_iconst hC (v := (0)) dX10_alikeAt_18 (by decide) (by decide) (fun x7_ e7 t7 => ?_)
      refine r_istore hC (lv' := [(5, .int x7_), (4, .int x6_), (0, .ref a0), (1, .int x1), (2, .int x3_2), (3, .int x3_3)]) dX10_alikeAt_19 (by decide) rfl ?_
      have LP8 : ∀ (mu : Nat) (x8_5 : Int32) (x8_4 : Int32) (v8_0 : 0 ≤ x8_5.toInt) (v8_1 : x8_5.toInt ≤ D 0 7) (v8_2 : (x8_4.toInt = Al D E N x1.toInt x3_3.toInt.toNat x8_5.toInt.toNat ∧ 59 < Mf D E x3_3.toInt.toNat N) ∨ (x8_4.toInt = 0 ∧ ¬ 59 < Mf D E x3_3.toInt.toNat N)) (v8_3 : 0 ≤ x8_4.toInt ∧ x8_4.toInt ≤ 99 * x8_5.toInt), (6 - x8_5.toInt).toNat = mu → P g X 6 21 [(0, .ref a0), (1, .int x1), (2, .int x3_2), (3, .int x3_3), (4, .int x8_4), (5, .int x8_5)] [] 0 0 (K, len, I, J, R) := by
        intro mu; induction mu using Nat.strongRecOn with | ind mu ih => ?_
        intro x8_5 x8_4 v8_0 v8_1 v8_2 v8_3 hmu
        have ih8 := ih
        clear ih
        have hmu8 := hmu
        clear hmu
        refine r_iload hC dX10_alikeAt_21 5 rfl ?_
        refine r_aload_n hC dX10_alikeAt_23 0 rfl ?_
        refine r_getr hC 3 (ci := 10) rfl u10_in (by decide) mT_4_238 dX10_alikeAt_24 ka0 rfl rfl hbm ?_
        refine r_getiN hC 7 (ci := 9) rfl u9_in (by decide) nF_7 dX10_alikeAt_27 khm rfl rfl (fun x9_ e9 => ?_)
        have r9 := hs.rng khm rfl e9
        have f9 : x9_.toInt = (I hm 7).toInt := by rw [e9]
        have w9 : x9_ = x4_ := by rw [e9]; exact e4.symm
        have wt9 : x9_.toInt = x4_.toInt := by rw [w9]
        have sc9 : x9_.toInt = D 0 7 := by rw [e9]; exact mc.2.2.1.2.2.2.2.2.1
        refine r_icmp_ge hC (tgt := 93) dX10_alikeAt_30 (by decide) (fun c10 => ?_) (fun c10 => ?_)
        · have grz := Gr_0 (D := D) (E := E) (N := N) (dep := x1.toInt) hJ x3_3.toInt.toNat
          refine r_iload hC dX10_alikeAt_93 4 rfl ?_
          refine r_iload_n hC dX10_alikeAt_95 2 rfl ?_
          refine r_icmp_le hC (tgt := 104) dX10_alikeAt_96 (by decide) (fun c11 => ?_) (fun c11 => ?_)
          · refine r_iload_n hC dX10_alikeAt_104 2 rfl ?_
            refine r_istore_n hC (lv' := [(2, .int x3_2), (0, .ref a0), (1, .int x1), (3, .int x3_3), (4, .int x8_4), (5, .int x8_5)]) dX10_alikeAt_105 (by decide) rfl ?_
            obtain ⟨x12_, e12⟩ : ∃ z : Int32, z = x3_3 + Int32.ofInt (1) := ⟨_, rfl⟩
            refine r_iinc hC (j := 3) (v := x12_) (lv' := [(3, .int x12_), (2, .int x3_2), (0, .ref a0), (1, .int x1), (4, .int x8_4), (5, .int x8_5)]) dX10_alikeAt_106 rfl (by rw [e12]) (by decide) rfl ?_
            try have t12 : x12_.toInt = x3_3.toInt + (1) := by rw [e12]; exact (ti_add (b := Int32.ofInt (1)) (by show _ ≤ _ + (1 : Int); omega) (by show _ + (1 : Int) ≤ _; omega))
            refine r_goto hC (tgt := 4) dX10_alikeAt_109 (by decide) ?_
            refine r_sub [2, 3, 1, 0] rfl ?_
            exact ih3 ((6 - x12_.toInt).toNat) (by omega) x12_ x3_2 (by omega) (by omega) (by first | (rw [show x12_.toInt.toNat = 0 by omega]; show _ = (0 : Int); omega) | (rw [show x12_.toInt.toNat = x3_3.toInt.toNat + 1 by omega]; rcases v8_2 with z | z; (rw [Gr_t z.2, show (D 0 7).toNat = x8_5.toInt.toNat by omega]; omega); (rw [Gr_n z.2]; omega))) (by omega) rfl
          · refine r_iload hC dX10_alikeAt_99 4 rfl ?_
            refine r_goto hC (tgt := 105) dX10_alikeAt_101 (by decide) ?_
            refine r_istore_n hC (lv' := [(2, .int x8_4), (0, .ref a0), (1, .int x1), (3, .int x3_3), (4, .int x8_4), (5, .int x8_5)]) dX10_alikeAt_105 (by decide) rfl ?_
            obtain ⟨x13_, e13⟩ : ∃ z : Int32, z = x3_3 + Int32.ofInt (1) := ⟨_, rfl⟩
            refine r_iinc hC (j := 3) (v := x13_) (lv' := [(3, .int x13_), (2, .int x8_4), (0, .ref a0), (1, .int x1), (4, .int x8_4), (5, .int x8_5)]) dX10_alikeAt_106 rfl (by rw [e13]) (by decide) rfl ?_
            try have t13 : x13_.toInt = x3_3.toInt + (1) := by rw [e13]; exact (ti_add (b := Int32.ofInt (1)) (by show _ ≤ _ + (1 : Int); omega) (by show _ + (1 : Int) ≤ _; omega))
            refine r_goto hC (tgt := 4) dX10_alikeAt_109 (by decide) ?_
            refine r_sub [2, 3, 1, 0] rfl ?_
            exact ih3 ((6 - x13_.toInt).toNat) (by omega) x13_ x8_4 (by omega) (by omega) (by first | (rw [show x13_.toInt.toNat = 0 by omega]; show _ = (0 : Int); omega) | (rw [show x13_.toInt.toNat = x3_3.toInt.toNat + 1 by omega]; rcases v8_2 with z | z; (rw [Gr_t z.2, show (D 0 7).toNat = x8_5.toInt.toNat by omega]; omega); (rw [Gr_n z.2]; omega))) (by omega) rfl
        · refine r_iload hC dX10_alikeAt_33 4 rfl ?_
          refine r_aload_n hC dX10_alikeAt_35 0 rfl ?_
          refine r_getr hC 25 (ci := 10) rfl u10_in (by decide) mT_5_20 dX10_alikeAt_36 ka0 rfl rfl hft ?_
          refine r_iload_n hC dX10_alikeAt_39 3 rfl ?_
          refine x_zaload hC kft lft (by decide) rfl rfl dX10_alikeAt_40 (by omega) (by omega) (fun x14_ e14 => ?_)
          have q14 : x14_.toInt = Fb D E N x3_3.toInt.toNat := by rw [e14, clx (i := x3_3) rfl (by omega)]; exact ftf _ (by omega)
          have jb14 : (59 < Mf D E x3_3.toInt.toNat N ∧ Fb D E N x3_3.toInt.toNat = 1) ∨ (¬ 59 < Mf D E x3_3.toInt.toNat N ∧ Fb D E N x3_3.toInt.toNat = 0) := by by_cases h9 : 59 < Mf D E x3_3.toInt.toNat N; exact Or.inl ⟨h9, Fb_t h9⟩; exact Or.inr ⟨h9, Fb_n h9⟩
          refine r_if_eq hC (tgt := 83) dX10_alikeAt_41 (by decide) (fun c15 => ?_) (fun c15 => ?_)
          · refine r_iconst hC (v := (0)) dX10_alikeAt_83 (by decide) (by decide) (fun x16_ e16 t16 => ?_)
            refine r_iadd hC dX10_alikeAt_84 (fun x17_ e17 => ?_)
            try have t17 : x17_.toInt = x8_4.toInt + x16_.toInt := by rw [e17]; exact ti_add (by omega) (by omega)
            refine r_istore hC (lv' := [(4, .int x17_), (0, .ref a0), (1, .int x1), (2, .int x3_2), (3, .int x3_3), (5, .int x8_5)]) dX10_alikeAt_85 (by decide) rfl ?_
            obtain ⟨x18_, e18⟩ : ∃ z : Int32, z = x8_5 + Int32.ofInt (1) := ⟨_, rfl⟩
            refine r_iinc hC (j := 5) (v := x18_) (lv' := [(5, .int x18_), (4, .int x17_), (0, .ref a0), (1, .int x1), (2, .int x3_2), (3, .int x3_3)]) dX10_alikeAt_87 rfl (by rw [e18]) (by decide) rfl ?_
            try have t18 : x18_.toInt = x8_5.toInt + (1) := by rw [e18]; exact (ti_add (b := Int32.ofInt (1)) (by show _ ≤ _ + (1 : Int); omega) (by show _ + (1 : Int) ≤ _; omega))
            refine r_goto hC (tgt := 21) dX10_alikeAt_90 (by decide) ?_
            refine r_sub [2, 3, 4, 5, 1, 0] rfl ?_
            exact ih8 ((6 - x18_.toInt).toNat) (by omega) x18_ x17_ (by omega) (by omega) (by first | (rw [show x18_.toInt.toNat = 0 by omega]; by_cases h9 : 59 < Mf D E x3_3.toInt.toNat N; exact Or.inl ⟨by show _ = (0 : Int); omega, h9⟩; exact Or.inr ⟨by omega, h9⟩) | exact Or.inr ⟨by omega, by omega⟩ | (rw [show x18_.toInt.toNat = x8_5.toInt.toNat + 1 by omega, Al_t (by omega)]; omega) | (rw [show x18_.toInt.toNat = x8_5.toInt.toNat + 1 by omega, Al_n (by omega)]; omega)) (by omega) rfl
          · refine r_aload_n hC dX10_alikeAt_44 0 rfl ?_
            refine r_getr hC 25 (ci := 10) rfl u10_in (by decide) mT_5_20 dX10_alikeAt_45 ka0 rfl rfl hft ?_
            refine r_iload hC dX10_alikeAt_48 5 rfl ?_
            refine x_zaload hC kft lft (by decide) rfl rfl dX10_alikeAt_50 (by omega) (by omega) (fun x19_ e19 => ?_)
            have q19 : x19_.toInt = Fb D E N x8_5.toInt.toNat := by rw [e19, clx (i := x8_5) rfl (by omega)]; exact ftf _ (by omega)
            have jb19 : (59 < Mf D E x8_5.toInt.toNat N ∧ Fb D E N x8_5.toInt.toNat = 1) ∨ (¬ 59 < Mf D E x8_5.toInt.toNat N ∧ Fb D E N x8_5.toInt.toNat = 0) := by by_cases h9 : 59 < Mf D E x8_5.toInt.toNat N; exact Or.inl ⟨h9, Fb_t h9⟩; exact Or.inr ⟨h9, Fb_n h9⟩
            refine r_if_eq hC (tgt := 83) dX10_alikeAt_51 (by decide) (fun c20 => ?_) (fun c20 => ?_)
            · refine r_iconst hC (v := (0)) dX10_alikeAt_83 (by decide) (by decide) (fun x21_ e21 t21 => ?_)
              refine r_iadd hC dX10_alikeAt_84 (fun x22_ e22 => ?_)
              try have t22 : x22_.toInt = x8_4.toInt + x21_.toInt := by rw [e22]; exact ti_add (by omega) (by omega)
              refine r_istore hC (lv' := [(4, .int x22_), (0, .ref a0), (1, .int x1), (2, .int x3_2), (3, .int x3_3), (5, .int x8_5)]) dX10_alikeAt_85 (by decide) rfl ?_
              obtain ⟨x23_, e23⟩ : ∃ z : Int32, z = x8_5 + Int32.ofInt (1) := ⟨_, rfl⟩
              refine r_iinc hC (j := 5) (v := x23_) (lv' := [(5, .int x23_), (4, .int x22_), (0, .ref a0), (1, .int x1), (2, .int x3_2), (3, .int x3_3)]) dX10_alikeAt_87 rfl (by rw [e23]) (by decide) rfl ?_
              try have t23 : x23_.toInt = x8_5.toInt + (1) := by rw [e23]; exact (ti_add (b := Int32.ofInt (1)) (by show _ ≤ _ + (1 : Int); omega) (by show _ + (1 : Int) ≤ _; omega))
              refine r_goto hC (tgt := 21) dX10_alikeAt_90 (by decide) ?_
              refine r_sub [2, 3, 4, 5, 1, 0] rfl ?_
              exact ih8 ((6 - x23_.toInt).toNat) (by omega) x23_ x22_ (by omega) (by omega) (by first | (rw [show x23_.toInt.toNat = 0 by omega]; by_cases h9 : 59 < Mf D E x3_3.toInt.toNat N; exact Or.inl ⟨by show _ = (0 : Int); omega, h9⟩; exact Or.inr ⟨by omega, h9⟩) | exact Or.inr ⟨by omega, by omega⟩ | (rw [show x23_.toInt.toNat = x8_5.toInt.toNat + 1 by omega, Al_t (by omega)]; omega) | (rw [show x23_.toInt.toNat = x8_5.toInt.toNat + 1 by omega, Al_n (by omega)]; omega)) (by omega) rfl
            · refine r_aload_n hC dX10_alikeAt_54 0 rfl ?_
              refine r_iload_n hC dX10_alikeAt_55 3 rfl ?_
              refine r_iload_n hC dX10_alikeAt_56 1 rfl ?_
              refine r_callV hC (As := [.int x3_3, .int x1]) (rest := [.int x8_4]) (ci := 10) (f_X10_foundBy g (xL X) K len I J R hs a0 ka0 x3_3 x1 hm hbm khm D (rwm.mv hcx qM_big hF rfl) (by rw [hF.get khm rfl]; exact hd7) (by omega) (by omega)) mT_7_35 mT_1_10 mT_7_32 mT_7_34 mP_92 okX10_foundBy ⟨by decide, by decide⟩ rfl (by show kO (K a0) = _; rw [ka0]; rfl) rfl rfl (Nat.le_of_ble_eq_true rfl) ⟨by decide, by decide⟩ dX10_alikeAt_57 (aI0 (F := fun st M => P g X 6 60 [(0, .ref a0), (1, .int x1), (2, .int x3_2), (3, .int x3_3), (4, .int x8_4), (5, .int x8_5)] st _ _ M) (M := (K, len, I, J, R)) fun x24_ h24 => ?_)
              have k24_0 := h24
              clear h24
              show P g X 6 60 [(0, .ref a0), (1, .int x1), (2, .int x3_2), (3, .int x3_3), (4, .int x8_4), (5, .int x8_5)] [.int x24_, .int x8_4] _ _ (K, len, I, J, R)
              refine r_aload_n hC dX10_alikeAt_60 0 rfl ?_
              refine r_iload hC dX10_alikeAt_61 5 rfl ?_
              refine r_iload_n hC dX10_alikeAt_63 1 rfl ?_
              refine r_callV hC (As := [.int x8_5, .int x1]) (rest := [.int x24_, .int x8_4]) (ci := 10) (f_X10_foundBy g (xL X) K len I J R hs a0 ka0 x8_5 x1 hm hbm khm D (rwm.mv hcx qM_big hF rfl) (by rw [hF.get khm rfl]; exact hd7) (by omega) (by omega)) mT_7_35 mT_1_10 mT_7_32 mT_7_34 mP_92 okX10_foundBy ⟨by decide, by decide⟩ rfl (by show kO (K a0) = _; rw [ka0]; rfl) rfl rfl (Nat.le_of_ble_eq_true rfl) ⟨by decide, by decide⟩ dX10_alikeAt_64 (aI0 (F := fun st M => P g X 6 67 [(0, .ref a0), (1, .int x1), (2, .int x3_2), (3, .int x3_3), (4, .int x8_4), (5, .int x8_5)] st _ _ M) (M := (K, len, I, J, R)) fun x25_ h25 => ?_)
              have k25_0 := h25
              clear h25
              show P g X 6 67 [(0, .ref a0), (1, .int x1), (2, .int x3_2), (3, .int x3_3), (4, .int x8_4), (5, .int x8_5)] [.int x25_, .int x24_, .int x8_4] _ _ (K, len, I, J, R)
              refine r_icmp_ne hC (tgt := 83) dX10_alikeAt_67 (by decide) (fun c26 => ?_) (fun c26 => ?_)
              · refine r_iconst hC (v := (0)) dX10_alikeAt_83 (by decide) (by decide) (fun x27_ e27 t27 => ?_)
                refine r_iadd hC dX10_alikeAt_84 (fun x28_ e28 => ?_)
                try have t28 : x28_.toInt = x8_4.toInt + x27_.toInt := by rw [e28]; exact ti_add (by omega) (by omega)
                refine r_istore hC (lv' := [(4, .int x28_), (0, .ref a0), (1, .int x1), (2, .int x3_2), (3, .int x3_3), (5, .int x8_5)]) dX10_alikeAt_85 (by decide) rfl ?_
                obtain ⟨x29_, e29⟩ : ∃ z : Int32, z = x8_5 + Int32.ofInt (1) := ⟨_, rfl⟩
                refine r_iinc hC (j := 5) (v := x29_) (lv' := [(5, .int x29_), (4, .int x28_), (0, .ref a0), (1, .int x1), (2, .int x3_2), (3, .int x3_3)]) dX10_alikeAt_87 rfl (by rw [e29]) (by decide) rfl ?_
                try have t29 : x29_.toInt = x8_5.toInt + (1) := by rw [e29]; exact (ti_add (b := Int32.ofInt (1)) (by show _ ≤ _ + (1 : Int); omega) (by show _ + (1 : Int) ≤ _; omega))
                refine r_goto hC (tgt := 21) dX10_alikeAt_90 (by decide) ?_
                refine r_sub [2, 3, 4, 5, 1, 0] rfl ?_
                exact ih8 ((6 - x29_.toInt).toNat) (by omega) x29_ x28_ (by omega) (by omega) (by first | (rw [show x29_.toInt.toNat = 0 by omega]; by_cases h9 : 59 < Mf D E x3_3.toInt.toNat N; exact Or.inl ⟨by show _ = (0 : Int); omega, h9⟩; exact Or.inr ⟨by omega, h9⟩) | exact Or.inr ⟨by omega, by omega⟩ | (rw [show x29_.toInt.toNat = x8_5.toInt.toNat + 1 by omega, Al_t (by omega)]; omega) | (rw [show x29_.toInt.toNat = x8_5.toInt.toNat + 1 by omega, Al_n (by omega)]; omega)) (by omega) rfl
              · refine r_aload_n hC dX10_alikeAt_70 0 rfl ?_
                refine r_getr hC 3 (ci := 10) rfl u10_in (by decide) mT_4_238 dX10_alikeAt_71 ka0 rfl rfl hbm ?_
                obtain ⟨a30_, hb30, hk30, hn30⟩ := hs.row khm 16 75 6 (by decide) (by decide)
                refine r_getrN hC 16 (ci := 9) rfl u9_in (by decide) nF_16 dX10_alikeAt_74 khm rfl rfl hb30 ?_
                refine r_iload hC dX10_alikeAt_77 5 rfl ?_
                refine x_iaload hC hk30 hn30 (by decide) rfl rfl dX10_alikeAt_79 (by omega) (by omega) (fun x31_ e31 => ?_)
                have q31 : x31_.toInt = D 6 x8_5.toInt.toNat := by rw [e31, clx (i := x8_5) rfl (by omega)]; exact mc.hrw (r := 6) (by decide) (by decide) hb30 (by rw [cnt_6]; omega) (fun h9 => absurd h9 (by decide))
                have jb31 : 0 ≤ D 6 x8_5.toInt.toNat ∧ D 6 x8_5.toInt.toNat ≤ 99 := hJ.2.2.2.1 6 _ (by decide) (by decide) (by decide)
                refine r_goto hC (tgt := 84) dX10_alikeAt_80 (by decide) ?_
                refine r_iadd hC dX10_alikeAt_84 (fun x32_ e32 => ?_)
                try have t32 : x32_.toInt = x8_4.toInt + x31_.toInt := by rw [e32]; exact ti_add (by omega) (by omega)
                refine r_istore hC (lv' := [(4, .int x32_), (0, .ref a0), (1, .int x1), (2, .int x3_2), (3, .int x3_3), (5, .int x8_5)]) dX10_alikeAt_85 (by decide) rfl ?_
                obtain ⟨x33_, e33⟩ : ∃ z : Int32, z = x8_5 + Int32.ofInt (1) := ⟨_, rfl⟩
                refine r_iinc hC (j := 5) (v := x33_) (lv' := [(5, .int x33_), (4, .int x32_), (0, .ref a0), (1, .int x1), (2, .int x3_2), (3, .int x3_3)]) dX10_alikeAt_87 rfl (by rw [e33]) (by decide) rfl ?_
                try have t33 : x33_.toInt = x8_5.toInt + (1) := by rw [e33]; exact (ti_add (b := Int32.ofInt (1)) (by show _ ≤ _ + (1 : Int); omega) (by show _ + (1 : Int) ≤ _; omega))
                refine r_goto hC (tgt := 21) dX10_alikeAt_90 (by decide) ?_
                refine r_sub [2, 3, 4, 5, 1, 0] rfl ?_
                exact ih8 ((6 - x33_.toInt).toNat) (by omega) x33_ x32_ (by omega) (by omega) (by first | (rw [show x33_.toInt.toNat = 0 by omega]; by_cases h9 : 59 < Mf D E x3_3.toInt.toNat N; exact Or.inl ⟨by show _ = (0 : Int); omega, h9⟩; exact Or.inr ⟨by omega, h9⟩) | exact Or.inr ⟨by omega, by omega⟩ | (rw [show x33_.toInt.toNat = x8_5.toInt.toNat + 1 by omega, Al_t (by omega)]; omega) | (rw [show x33_.toInt.toNat = x8_5.toInt.toNat + 1 by omega, Al_n (by omega)]; omega)) (by omega) rfl
      refine r_sub [2, 3, 4, 5, 1, 0] rfl ?_
      exact LP8 _ x7_ x6_ (by omega) (by omega) (by first | (rw [show x7_.toInt.toNat = 0 by omega]; by_cases h9 : 59 < Mf D E x3_3.toInt.toNat N; exact Or.inl ⟨by show _ = (0 : Int); omega, h9⟩; exact Or.inr ⟨by omega, h9⟩) | exact Or.inr ⟨by omega, by omega⟩ | (rw [show x7_.toInt.toNat = x8_5.toInt.toNat + 1 by omega, Al_t (by omega)]; omega) | (rw [show x7_.toInt.toNat = x8_5.toInt.toNat + 1 by omega, Al_n (by omega)]; omega)) (by omega) rfl
  refine r_sub [2, 3, 1, 0] rfl ?_
  exact LP3 _ x2_ x1_ (by omega) (by omega) (by first | (rw [show x2_.toInt.toNat = 0 by omega]; show _ = (0 : Int); omega) | (rw [show x2_.toInt.toNat = x3_3.toInt.toNat + 1 by omega]; rcases NOx_v21_2 with z | z; (rw [Gr_t z.2, show (D 0 7).toNat = NOx_l5.toInt.toNat by omega]; omega); (rw [Gr_n z.2]; omega))) (by omega) rfl
set_option maxHeartbeats 4000000 in
set_option maxRecDepth 100000 in
theorem f_X10_bore (g : GG) (l : Launch) (K len : Nat → Nat) (I : Nat → Nat → Int32) (J : Nat → Nat → Int64) (R : Nat → Nat → Option Nat) (hs : Sf K len I R) (a0 : Nat) (ka0 : K a0 = 11) (D : DD) (E : Nat → Nat → Int) (hmx : ∀ hm, R a0 3 = some hm → MC D E a0 hm I R) (N : Nat) (hN : (I a0 20).toInt = N) : Ct g l yX10_bore cX10_bore 3 (Option.some Jvm.ClassFile.FieldType.int) rmX10_bore [.ref a0] (K, len, I, J, R) (pI1 (K, len, I, J, R) (fun r I' => Sf K len I' R ∧ Fr K [(11, 0), (11, 1), (11, 2), (11, 19), (85, 999), (86, 999), (87, 999), (88, 999), (93, 999)] I I' ∧ ((R a0 3 = none ∧ r.toInt = -1) ∨ (∃ hm, R a0 3 = some hm ∧ ((1 ≤ D 0 7 ∧ Wf D E N (D 0 7).toNat ≠ 0) ∧ r.toInt = Bs D E N 99 ∨ ¬ (1 ≤ D 0 7 ∧ Wf D E N (D 0 7).toNat ≠ 0) ∧ r.toInt = -1))) ∧ ((I' a0 2).toInt = -1))) := by
  refine Ct_intro (by decide +kernel) (Nat.le_of_ble_eq_true rfl) (fun X hC hL hKK hNm hr hlk hQ => ?_)
  subst hL
  have hC : Cx g X cX10_bore "HillTapModel" 3 rmX10_bore := hC
  show P g X 3 0 [(0, .ref a0)] [] 0 0 (K, len, I, J, R)
  have hF : Fr K [(11, 0), (11, 1), (11, 2), (11, 19), (85, 999), (86, 999), (87, 999), (88, 999), (93, 999)] I I := Fr.refl
  obtain ⟨lr, hlr, klr, llr⟩ := hs.row ka0 15 85 60 (by decide) (by decide)
  obtain ⟨sr, hsr, ksr, lsr⟩ := hs.row ka0 16 86 300 (by decide) (by decide)
  obtain ⟨ir, hir, kir, lir⟩ := hs.row ka0 17 87 300 (by decide) (by decide)
  obtain ⟨wr, hwr, kwr, lwr⟩ := hs.row ka0 18 88 300 (by decide) (by decide)
  obtain ⟨ft, hft, kft, lft⟩ := hs.row ka0 25 93 6 (by decide) (by decide)
  obtain ⟨C20, eC20⟩ : ∃ z : Int32, z = I a0 20 := ⟨_, rfl⟩
  have fC20 : C20.toInt = (I a0 20).toInt := by rw [eC20]
  have rC20 := hs.rng ka0 rfl eC20
  rcases hs.2.1.2.2.1 a0 ka0 with hz | ⟨hm, hbm, khm⟩
  · refine r_aload_n hC dX10_bore_0 0 rfl ?_
    refine r_iconst hC (v := (0)) dX10_bore_1 (by decide) (by decide) (fun x1_ e1 t1 => ?_)
    refine r_puti hC 0 (ci := 10) rfl u10_in tyX10_ok nmX10 (by decide) mT_4_235 rfl rfl rfl dX10_bore_2 ka0 rfl rfl (fun I2 eI2 => ?_)
    have hs2 := hs.put0 eI2 ka0 rfl rfl rfl (by decide)
    have hF2 := hF.put eI2 ka0 rfl
    refine r_aload_n hC dX10_bore_5 0 rfl ?_
    refine r_getz hC 3 (ci := 10) rfl u10_in (by decide) mT_4_238 dX10_bore_6 ka0 rfl rfl hz ?_
    refine r_ifnonnullN hC dX10_bore_9 ?_
    refine r_aload_n hC dX10_bore_12 0 rfl ?_
    refine r_iconst hC (v := (1)) dX10_bore_13 (by decide) (by decide) (fun x3_ e3 t3 => ?_)
    refine r_callV hC (As := [.int x3_]) (rest := []) (ci := 10) (c_X10_refused g (xL X) K len I2 J R hs2 a0 ka0 x3_) mT_5_85 mT_1_10 mT_5_82 mT_5_84 mP_48 okX10_refused ⟨by decide, by decide⟩ rfl (by show kO (K a0) = _; rw [ka0]; rfl) rfl rfl (Nat.le_of_ble_eq_true rfl) ⟨by decide, by decide⟩ dX10_bore_14 (aI1 (F := fun st M => P g X 3 17 [(0, .ref a0)] st _ _ M) (M := (K, len, I2, J, R)) fun x4_ I4 h4 => ?_)
    obtain ⟨hs4, hf4, k4_0, k4_1, k4_2⟩ := h4
    show P g X 3 17 [(0, .ref a0)] [.int x4_] _ _ (K, len, I4, J, R)
    have hF4 : Fr K [(11, 0), (11, 1), (11, 2), (11, 19), (85, 999), (86, 999), (87, 999), (88, 999), (93, 999)] I I4 := hF2.trans hf4 rfl rfl
    exact r_iret hC hQ hlk hr rfl (by decide) (by decide) dX10_bore_17 ⟨_, _, rfl, rfl, ⟨hs4, hF4, (by first | exact Or.inl ⟨hz, by omega⟩ | exact Or.inr ⟨hm, hbm, Or.inr ⟨by omega, by omega⟩⟩ | exact Or.inr ⟨hm, hbm, Or.inl ⟨by omega, (congrArg Int32.toInt k4_0).trans (by rw [show 99 = (NOx_l2.toInt - 1).toNat by omega]; exact NOx_v36_2)⟩⟩), (by omega)⟩⟩
  · obtain ⟨S0, eS0⟩ : ∃ z : Int32, z = I hm 7 := ⟨_, rfl⟩
    have fS0 : S0.toInt = (I hm 7).toInt := by rw [eS0]
    have rS0 := hs.rng khm rfl eS0
    have mc := hmx hm hbm
    obtain ⟨⟨hJ, hR6, hD7⟩, rwm, ⟨hd1, hd2, hd3, hd4, hd5, hd7, hd8, hd9⟩, -⟩ := id mc
    have hcx := CM_x hs khm
    have b5 := hs.rng khm (k := 3) rfl (x := I hm 3) rfl
    have b7 := hs.rng khm (k := 7) rfl (x := I hm 7) rfl
    have b8 := hs.rng khm (k := 8) rfl (x := I hm 8) rfl
    have b20 := hs.rng ka0 (k := 20) rfl (x := I a0 20) rfl
    refine r_aload_n hC dX10_bore_0 0 rfl ?_
    refine r_iconst hC (v := (0)) dX10_bore_1 (by decide) (by decide) (fun x5_ e5 t5 => ?_)
    refine r_puti hC 0 (ci := 10) rfl u10_in tyX10_ok nmX10 (by decide) mT_4_235 rfl rfl rfl dX10_bore_2 ka0 rfl rfl (fun I6 eI6 => ?_)
    have hs6 := hs.put0 eI6 ka0 rfl rfl rfl (by decide)
    have hF6 := hF.put eI6 ka0 rfl
    refine r_aload_n hC dX10_bore_5 0 rfl ?_
    refine r_getr hC 3 (ci := 10) rfl u10_in (by decide) mT_4_238 dX10_bore_6 ka0 rfl rfl hbm ?_
    refine r_ifnonnull hC (tgt := 18) dX10_bore_9 (by decide) ?_
    refine r_aload_n hC dX10_bore_18 0 rfl ?_
    refine r_callV hC (As := []) (rest := []) (ci := 10) (f_X10_weighs g (xL X) K len I6 J R hs6 a0 ka0 hm hbm khm lr hlr klr llr sr hsr ksr lsr ir hir kir lir wr hwr kwr lwr D E (mc.mv hs ka0 khm hF6 rfl) N (by rw [hF6.get ka0 rfl]; exact hN) ft hft kft lft) mT_6_200 mT_1_10 mT_6_197 mT_6_199 mP_84 okX10_weighs ⟨by decide, by decide⟩ rfl (by show kO (K a0) = _; rw [ka0]; rfl) rfl rfl (Nat.le_of_ble_eq_true rfl) ⟨by decide, by decide⟩ dX10_bore_19 (aI1 (F := fun st M => P g X 3 22 [(0, .ref a0)] st _ _ M) (M := (K, len, I6, J, R)) fun x7_ I7 h7 => ?_)
    obtain ⟨hs7, hf7, k7_0, k7_1, k7_2⟩ := h7
    show P g X 3 22 [(0, .ref a0)] [.int x7_] _ _ (K, len, I7, J, R)
    have hF7 : Fr K [(11, 0), (11, 1), (11, 2), (11, 19), (85, 999), (86, 999), (87, 999), (88, 999), (93, 999)] I I7 := hF6.trans hf7 rfl rfl
    refine r_if_ne hC (tgt := 32) dX10_bore_22 (by decide) (fun c8 => ?_) (fun c8 => ?_)
    · refine r_iconst hC (v := (0)) dX10_bore_32 (by decide) (by decide) (fun x9_ e9 t9 => ?_)
      refine r_istore_n hC (lv' := [(1, .int x9_), (0, .ref a0)]) dX10_bore_33 (by decide) rfl ?_
      refine r_iconst hC (v := (1)) dX10_bore_34 (by decide) (by decide) (fun x10_ e10 t10 => ?_)
      refine r_istore_n hC (lv' := [(2, .int x10_), (1, .int x9_), (0, .ref a0)]) dX10_bore_35 (by decide) rfl ?_
      have LP11 : ∀ (mu : Nat) (x11_2 : Int32) (x11_1 : Int32) (v11_0 : 1 ≤ x11_2.toInt) (v11_1 : x11_2.toInt ≤ 100) (v11_2 : x11_1.toInt = Bs D E N (x11_2.toInt - 1).toNat) (v11_3 : 0 ≤ x11_1.toInt ∧ x11_1.toInt ≤ 99), (100 - x11_2.toInt).toNat = mu → P g X 3 36 [(0, .ref a0), (1, .int x11_1), (2, .int x11_2)] [] 0 0 (K, len, I7, J, R) := by
        intro mu; induction mu using Nat.strongRecOn with | ind mu ih => ?_
        intro x11_2 x11_1 v11_0 v11_1 v11_2 v11_3 hmu
        have ih11 := ih
        clear ih
        have hmu11 := hmu
        clear hmu
        refine r_iload_n hC dX10_bore_36 2 rfl ?_
        refine r_bipush hC (v := (100)) dX10_bore_37 (by decide) (by decide) (fun x12_ e12 t12 => ?_)
        refine r_icmp_ge hC (tgt := 63) dX10_bore_39 (by decide) (fun c13 => ?_) (fun c13 => ?_)
        · refine r_aload_n hC dX10_bore_63 0 rfl ?_
          refine r_iload_n hC dX10_bore_64 1 rfl ?_
          refine r_callV hC (As := [.int x11_1]) (rest := []) (ci := 10) (c_X10_done g (xL X) K len I7 J R hs7 a0 ka0 x11_1) mT_6_79 mT_1_10 mT_6_76 mT_6_78 mP_67 okX10_done ⟨by decide, by decide⟩ rfl (by show kO (K a0) = _; rw [ka0]; rfl) rfl rfl (Nat.le_of_ble_eq_true rfl) ⟨by decide, by decide⟩ dX10_bore_65 (aI1 (F := fun st M => P g X 3 68 [(0, .ref a0), (1, .int x11_1), (2, .int x11_2)] st _ _ M) (M := (K, len, I7, J, R)) fun x14_ I14 h14 => ?_)
          obtain ⟨hs14, hf14, k14_0, k14_1, k14_2⟩ := h14
          show P g X 3 68 [(0, .ref a0), (1, .int x11_1), (2, .int x11_2)] [.int x14_] _ _ (K, len, I14, J, R)
          have hF14 : Fr K [(11, 0), (11, 1), (11, 2), (11, 19), (85, 999), (86, 999), (87, 999), (88, 999), (93, 999)] I I14 := hF7.trans hf14 rfl rfl
          have ftf14 : ∀ j : Nat, (j : Int) < D 0 7 → (I14 ft j).toInt = Fb D E N j := fun j hj => by rw [hf14.get kft rfl]; exact k7_2 j hj
          exact r_iret hC hQ hlk hr rfl (by decide) (by decide) dX10_bore_68 ⟨_, _, rfl, rfl, ⟨hs14, hF14, (by first | exact Or.inl ⟨hz, by omega⟩ | exact Or.inr ⟨hm, hbm, Or.inr ⟨by omega, by omega⟩⟩ | exact Or.inr ⟨hm, hbm, Or.inl ⟨by omega, (congrArg Int32.toInt k14_0).trans (by rw [show 99 = (x11_2.toInt - 1).toNat by omega]; exact v11_2)⟩⟩), (by omega)⟩⟩
        · refine r_aload_n hC dX10_bore_42 0 rfl ?_
          refine r_iload_n hC dX10_bore_43 2 rfl ?_
          refine r_callV hC (As := [.int x11_2]) (rest := []) (ci := 10) (f_X10_alikeAt g (xL X) K len I7 J R hs7 a0 ka0 x11_2 hm hbm khm lr hlr klr llr sr hsr ksr lsr ir hir kir lir wr hwr kwr lwr D E (mc.mv hs ka0 khm hF7 rfl) N (by rw [hF7.get ka0 rfl]; exact hN) ft hft kft lft k7_2 (by omega)) mT_7_43 mT_1_10 mT_7_40 mT_7_42 mP_93 okX10_alikeAt ⟨by decide, by decide⟩ rfl (by show kO (K a0) = _; rw [ka0]; rfl) rfl rfl (Nat.le_of_ble_eq_true rfl) ⟨by decide, by decide⟩ dX10_bore_44 (aI0 (F := fun st M => P g X 3 47 [(0, .ref a0), (1, .int x11_1), (2, .int x11_2)] st _ _ M) (M := (K, len, I7, J, R)) fun x15_ h15 => ?_)
          have k15_0 := h15
          clear h15
          show P g X 3 47 [(0, .ref a0), (1, .int x11_1), (2, .int x11_2)] [.int x15_] _ _ (K, len, I7, J, R)
          have ga : x15_.toInt = Gx D E N x11_2.toInt := k15_0
          refine r_aload_n hC dX10_bore_47 0 rfl ?_
          refine r_iload_n hC dX10_bore_48 1 rfl ?_
          refine r_callV hC (As := [.int x11_1]) (rest := [.int x15_]) (ci := 10) (f_X10_alikeAt g (xL X) K len I7 J R hs7 a0 ka0 x11_1 hm hbm khm lr hlr klr llr sr hsr ksr lsr ir hir kir lir wr hwr kwr lwr D E (mc.mv hs ka0 khm hF7 rfl) N (by rw [hF7.get ka0 rfl]; exact hN) ft hft kft lft k7_2 (by omega)) mT_7_43 mT_1_10 mT_7_40 mT_7_42 mP_93 okX10_alikeAt ⟨by decide, by decide⟩ rfl (by show kO (K a0) = _; rw [ka0]; rfl) rfl rfl (Nat.le_of_ble_eq_true rfl) ⟨by decide, by decide⟩ dX10_bore_49 (aI0 (F := fun st M => P g X 3 52 [(0, .ref a0), (1, .int x11_1), (2, .int x11_2)] st _ _ M) (M := (K, len, I7, J, R)) fun x16_ h16 => ?_)
          have k16_0 := h16
          clear h16
          show P g X 3 52 [(0, .ref a0), (1, .int x11_1), (2, .int x11_2)] [.int x16_, .int x15_] _ _ (K, len, I7, J, R)
          have gb : x16_.toInt = Gx D E N x11_1.toInt := k16_0
          refine r_icmp_ge hC (tgt := 57) dX10_bore_52 (by decide) (fun c17 => ?_) (fun c17 => ?_)
          · obtain ⟨x18_, e18⟩ : ∃ z : Int32, z = x11_2 + Int32.ofInt (1) := ⟨_, rfl⟩
            refine r_iinc hC (j := 2) (v := x18_) (lv' := [(2, .int x18_), (0, .ref a0), (1, .int x11_1)]) dX10_bore_57 rfl (by rw [e18]) (by decide) rfl ?_
            try have t18 : x18_.toInt = x11_2.toInt + (1) := by rw [e18]; exact (ti_add (b := Int32.ofInt (1)) (by show _ ≤ _ + (1 : Int); omega) (by show _ + (1 : Int) ≤ _; omega))
            refine r_goto hC (tgt := 36) dX10_bore_60 (by decide) ?_
            refine r_sub [1, 2, 0] rfl ?_
            exact ih11 ((100 - x18_.toInt).toNat) (by omega) x18_ x11_1 (by omega) (by omega) (by first | (rw [show (x18_.toInt - 1).toNat = 0 by omega]; show _ = (0 : Int); omega) | (rw [show (x18_.toInt - 1).toNat = (x11_2.toInt - 1).toNat + 1 by omega, Bs_t (i := x11_2.toInt) (by omega) (by rw [← v11_2]; omega)]) | (rw [show (x18_.toInt - 1).toNat = (x11_2.toInt - 1).toNat + 1 by omega, Bs_n (i := x11_2.toInt) (by omega) (by rw [← v11_2]; omega)]; omega)) (by omega) rfl
          · refine r_iload_n hC dX10_bore_55 2 rfl ?_
            refine r_istore_n hC (lv' := [(1, .int x11_2), (0, .ref a0), (2, .int x11_2)]) dX10_bore_56 (by decide) rfl ?_
            obtain ⟨x19_, e19⟩ : ∃ z : Int32, z = x11_2 + Int32.ofInt (1) := ⟨_, rfl⟩
            refine r_iinc hC (j := 2) (v := x19_) (lv' := [(2, .int x19_), (1, .int x11_2), (0, .ref a0)]) dX10_bore_57 rfl (by rw [e19]) (by decide) rfl ?_
            try have t19 : x19_.toInt = x11_2.toInt + (1) := by rw [e19]; exact (ti_add (b := Int32.ofInt (1)) (by show _ ≤ _ + (1 : Int); omega) (by show _ + (1 : Int) ≤ _; omega))
            refine r_goto hC (tgt := 36) dX10_bore_60 (by decide) ?_
            refine r_sub [2, 1, 0] rfl ?_
            exact ih11 ((100 - x19_.toInt).toNat) (by omega) x19_ x11_2 (by omega) (by omega) (by first | (rw [show (x19_.toInt - 1).toNat = 0 by omega]; show _ = (0 : Int); omega) | (rw [show (x19_.toInt - 1).toNat = (x11_2.toInt - 1).toNat + 1 by omega, Bs_t (i := x11_2.toInt) (by omega) (by rw [← v11_2]; omega)]) | (rw [show (x19_.toInt - 1).toNat = (x11_2.toInt - 1).toNat + 1 by omega, Bs_n (i := x11_2.toInt) (by omega) (by rw [← v11_2]; omega)]; omega)) (by omega) rfl
      refine r_sub [2, 1, 0] rfl ?_
      exact LP11 _ x10_ x9_ (by omega) (by omega) (by first | (rw [show (x10_.toInt - 1).toNat = 0 by omega]; show _ = (0 : Int); omega) | (rw [show (x10_.toInt - 1).toNat = (x11_2.toInt - 1).toNat + 1 by omega, Bs_t (i := x11_2.toInt) (by omega) (by rw [← v11_2]; omega)]) | (rw [show (x10_.toInt - 1).toNat = (x11_2.toInt - 1).toNat + 1 by omega, Bs_n (i := x11_2.toInt) (by omega) (by rw [← v11_2]; omega)]; omega)) (by omega) rfl
    · refine r_aload_n hC dX10_bore_25 0 rfl ?_
      refine r_bipush hC (v := (6)) dX10_bore_26 (by decide) (by decide) (fun x20_ e20 t20 => ?_)
      refine r_callV hC (As := [.int x20_]) (rest := []) (ci := 10) (c_X10_refused g (xL X) K len I7 J R hs7 a0 ka0 x20_) mT_5_85 mT_1_10 mT_5_82 mT_5_84 mP_48 okX10_refused ⟨by decide, by decide⟩ rfl (by show kO (K a0) = _; rw [ka0]; rfl) rfl rfl (Nat.le_of_ble_eq_true rfl) ⟨by decide, by decide⟩ dX10_bore_28 (aI1 (F := fun st M => P g X 3 31 [(0, .ref a0)] st _ _ M) (M := (K, len, I7, J, R)) fun x21_ I21 h21 => ?_)
      obtain ⟨hs21, hf21, k21_0, k21_1, k21_2⟩ := h21
      show P g X 3 31 [(0, .ref a0)] [.int x21_] _ _ (K, len, I21, J, R)
      have hF21 : Fr K [(11, 0), (11, 1), (11, 2), (11, 19), (85, 999), (86, 999), (87, 999), (88, 999), (93, 999)] I I21 := hF7.trans hf21 rfl rfl
      have ftf21 : ∀ j : Nat, (j : Int) < D 0 7 → (I21 ft j).toInt = Fb D E N j := fun j hj => by rw [hf21.get kft rfl]; exact k7_2 j hj
      exact r_iret hC hQ hlk hr rfl (by decide) (by decide) dX10_bore_31 ⟨_, _, rfl, rfl, ⟨hs21, hF21, (by first | exact Or.inl ⟨hz, by omega⟩ | exact Or.inr ⟨hm, hbm, Or.inr ⟨by omega, by omega⟩⟩ | exact Or.inr ⟨hm, hbm, Or.inl ⟨by omega, (congrArg Int32.toInt k21_0).trans (by rw [show 99 = (NOx_l2.toInt - 1).toNat by omega]; exact NOx_v36_2)⟩⟩), (by omega)⟩⟩

