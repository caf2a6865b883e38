set_option maxHeartbeats 4000000 in
set_option maxRecDepth 100000 in
theorem f_X10_weighs (g : GG) (l : Launch) (K len : Nat → Nat) (I : Nat → Nat → Int32) (J : Nat → Nat → Int64) (R : Nat → Nat → Option Nat) (hs : Sf K len I R) (a0 : Nat) (ka0 : K a0 = 11) (hm : Nat) (hbm : R a0 3 = some hm) (khm : K hm = 10) (lr : Nat) (hlr : R a0 15 = some lr) (klr : K lr = 85) (llr : len lr = 60) (sr : Nat) (hsr : R a0 16 = some sr) (ksr : K sr = 86) (lsr : len sr = 300) (ir : Nat) (hir : R a0 17 = some ir) (kir : K ir = 87) (lir : len ir = 300) (wr : Nat) (hwr : R a0 18 = some wr) (kwr : K wr = 88) (lwr : len wr = 300) (D : DD) (E : Nat → Nat → Int) (mc : MC D E a0 hm I R) (N : Nat) (hN : (I a0 20).toInt = N) (ft : Nat) (hft : R a0 25 = some ft) (kft : K ft = 93) (lft : len ft = 6) : Ct g l yX10_weighs cX10_weighs 3 (Option.some Jvm.ClassFile.FieldType.int) rmX10_weighs [.ref a0] (K, len, I, J, R) (pI1 (K, len, I, J, R) (fun r I' => Sf K len I' R ∧ Fr K [(11, 19), (85, 999), (86, 999), (87, 999), (88, 999), (93, 999)] I I' ∧ (r.toInt = Wf D E N (D 0 7).toNat) ∧ (0 ≤ r.toInt ∧ r.toInt ≤ 600) ∧ (∀ j : Nat, (j : Int) < D 0 7 → (I' ft j).toInt = Fb D E N j))) := by
  refine Ct_intro (by decide +kernel) (Nat.le_of_ble_eq_true rfl) (fun X hC hL hKK hNm hr hlk hQ => ?_)
  subst hL
  have hC : Cx g X cX10_weighs "HillTapModel" 3 rmX10_weighs := hC
  show P g X 3 0 [(0, .ref a0)] [] 0 0 (K, len, I, J, R)
  have hF : Fr K [(11, 19), (85, 999), (86, 999), (87, 999), (88, 999), (93, 999)] I I := Fr.refl
  obtain ⟨⟨hJ, hR6, hD7⟩, rwm, ⟨hd1, hd2, hd3, hd4, hd5, hd7, hd8, hd9⟩, -⟩ := id mc
  have hcx := CM_x hs khm
  have b5 := hs.rng khm (k := 3) rfl (x := I hm 3) rfl
  have b7 := hs.rng khm (k := 7) rfl (x := I hm 7) rfl
  have b8 := hs.rng khm (k := 8) rfl (x := I hm 8) rfl
  have b20 := hs.rng ka0 (k := 20) rfl (x := I a0 20) rfl
  obtain ⟨C20, eC20⟩ : ∃ z : Int32, z = I a0 20 := ⟨_, rfl⟩
  have fC20 : C20.toInt = (I a0 20).toInt := by rw [eC20]
  have rC20 := hs.rng ka0 rfl eC20
  obtain ⟨S0, eS0⟩ : ∃ z : Int32, z = I hm 7 := ⟨_, rfl⟩
  have fS0 : S0.toInt = (I hm 7).toInt := by rw [eS0]
  have rS0 := hs.rng khm rfl eS0
  refine r_iconst hC (v := (0)) dX10_weighs_0 (by decide) (by decide) (fun x1_ e1 t1 => ?_)
  refine r_istore_n hC (lv' := [(1, .int x1_), (0, .ref a0)]) dX10_weighs_1 (by decide) rfl ?_
  refine r_iconst hC (v := (0)) dX10_weighs_2 (by decide) (by decide) (fun x2_ e2 t2 => ?_)
  refine r_istore_n hC (lv' := [(2, .int x2_), (1, .int x1_), (0, .ref a0)]) dX10_weighs_3 (by decide) rfl ?_
  have LP3 : ∀ (mu : Nat) (x3_2 : Int32) (x3_1 : Int32) (I3 : Nat → Nat → Int32) (hs3 : Sf K len I3 R) (hF3 : Fr K [(11, 19), (85, 999), (86, 999), (87, 999), (88, 999), (93, 999)] I I3) (v3_0 : 0 ≤ x3_2.toInt) (v3_1 : x3_2.toInt ≤ D 0 7) (v3_2 : x3_1.toInt = Wf D E N x3_2.toInt.toNat) (v3_3 : 0 ≤ x3_1.toInt ∧ x3_1.toInt ≤ 99 * x3_2.toInt) (v3_4 : ∀ j : Nat, 0 ≤ j → (j : Int) < x3_2.toInt → (I3 ft j).toInt = Fb D E N j), (6 - x3_2.toInt).toNat = mu → P g X 3 4 [(0, .ref a0), (1, .int x3_1), (2, .int x3_2)] [] 0 0 (K, len, I3, J, R) := by
    intro mu; induction mu using Nat.strongRecOn with | ind mu ih => ?_
    intro x3_2 x3_1 I3 hs3 hF3 v3_0 v3_1 v3_2 v3_3 v3_4 hmu
    have ih3 := ih
    clear ih
    have hmu3 := hmu
    clear hmu
    refine r_iload_n hC dX10_weighs_4 2 rfl ?_
    refine r_aload_n hC dX10_weighs_5 0 rfl ?_
    refine r_getr hC 3 (ci := 10) rfl u10_in (by decide) mT_4_238 dX10_weighs_6 ka0 rfl rfl hbm ?_
    refine r_getiN hC 7 (ci := 9) rfl u9_in (by decide) nF_7 dX10_weighs_9 khm rfl rfl (fun x4_ e4 => ?_)
    have r4 := hs3.rng khm rfl e4
    have f4 : x4_.toInt = (I3 hm 7).toInt := by rw [e4]
    have w4 : x4_ = S0 := by rw [e4]; exact (Eq.trans (hF3.get khm rfl) eS0.symm)
    have wt4 : x4_.toInt = S0.toInt := by rw [w4]
    have sc4 : x4_.toInt = D 0 7 := by rw [e4]; exact (mc.mv hs ka0 khm hF3 rfl).2.2.1.2.2.2.2.2.1
    refine r_icmp_ge hC (tgt := 59) dX10_weighs_12 (by decide) (fun c5 => ?_) (fun c5 => ?_)
    · refine r_iload_n hC dX10_weighs_59 1 rfl ?_
      exact r_iret hC hQ hlk hr rfl (by decide) (by decide) dX10_weighs_60 ⟨_, _, rfl, rfl, ⟨hs3, hF3, (by rw [show (D 0 7).toNat = x3_2.toInt.toNat by omega]; exact v3_2), (by omega), (by exact fun j hj => v3_4 j (Nat.zero_le j) (by omega))⟩⟩
    · refine r_aload_n hC dX10_weighs_15 0 rfl ?_
      refine r_getr hC 25 (ci := 10) rfl u10_in (by decide) mT_5_20 dX10_weighs_16 ka0 rfl rfl hft ?_
      refine r_iload_n hC dX10_weighs_19 2 rfl ?_
      refine r_aload_n hC dX10_weighs_20 0 rfl ?_
      refine r_iload_n hC dX10_weighs_21 2 rfl ?_
      refine r_bipush hC (v := (59)) dX10_weighs_22 (by decide) (by decide) (fun x6_ e6 t6 => ?_)
      have hv7 : I3 hm 7 = x4_ := e4.symm
      refine r_callV hC (As := [.int x3_2, .int x6_]) (rest := [.int x3_2, .ref ft]) (ci := 10) (f_X10_agrees g (xL X) K len I3 J R hs3 a0 ka0 x3_2 x6_ hm hbm khm (by rw [hv7]; omega) lr hlr klr llr sr hsr ksr lsr ir hir kir lir wr hwr kwr lwr D E (mc.mv hs ka0 khm hF3 rfl) N (by rw [hF3.get ka0 rfl]; exact hN) (by omega) (by omega) (by omega)) mT_6_188 mT_1_10 mT_6_185 mT_6_187 mP_83 okX10_agrees ⟨by decide, by decide⟩ rfl (by show kO (K a0) = _; rw [ka0]; rfl) rfl rfl (Nat.le_of_ble_eq_true rfl) ⟨by decide, by decide⟩ dX10_weighs_24 (aI1 (F := fun st M => P g X 3 27 [(0, .ref a0), (1, .int x3_1), (2, .int x3_2)] st _ _ M) (M := (K, len, I3, J, R)) fun x8_ I8 h8 => ?_)
      obtain ⟨hs8, hf8, k8_0⟩ := h8
      show P g X 3 27 [(0, .ref a0), (1, .int x3_1), (2, .int x3_2)] [.int x8_, .int x3_2, .ref ft] _ _ (K, len, I8, J, R)
      have hF8 : Fr K [(11, 19), (85, 999), (86, 999), (87, 999), (88, 999), (93, 999)] I I8 := hF3.trans hf8 rfl rfl
      have kf : x8_.toInt = 1 ∧ (59 < Mf D E x3_2.toInt.toNat N) ∨ x8_.toInt = 0 ∧ ¬ (59 < Mf D E x3_2.toInt.toNat N) := by have h9 := k8_0; rw [show x6_.toInt = 59 by omega] at h9; exact h9
      clear k8_0
      refine x_zastore hC kft lft (by decide) rfl rfl dX10_weighs_27 (by omega) (by omega) (fun I9 eI9 => ?_)
      have hs9 := hs8.put0 eI9 kft (rng_arr (by decide) _) rfl (xF_arr (by decide) _) (by decide)
      have hF9 := hF8.put eI9 kft (inS_arr rfl _)
      refine r_iload_n hC dX10_weighs_28 1 rfl ?_
      refine r_aload_n hC dX10_weighs_29 0 rfl ?_
      refine r_getr hC 25 (ci := 10) rfl u10_in (by decide) mT_5_20 dX10_weighs_30 ka0 rfl rfl hft ?_
      refine r_iload_n hC dX10_weighs_33 2 rfl ?_
      refine x_zaload hC kft lft (by decide) rfl rfl dX10_weighs_34 (by omega) (by omega) (fun x10_ e10 => ?_)
      have qf : x10_.toInt = x8_.toInt := by rw [e10, eI9, up2_self, vnz (by omega) (by omega)]
      refine r_if_eq hC (tgt := 50) dX10_weighs_35 (by decide) (fun c11 => ?_) (fun c11 => ?_)
      · refine r_iconst hC (v := (0)) dX10_weighs_50 (by decide) (by decide) (fun x12_ e12 t12 => ?_)
        refine r_iadd hC dX10_weighs_51 (fun x13_ e13 => ?_)
        try have t13 : x13_.toInt = x3_1.toInt + x12_.toInt := by rw [e13]; exact ti_add (by omega) (by omega)
        refine r_istore_n hC (lv' := [(1, .int x13_), (0, .ref a0), (2, .int x3_2)]) dX10_weighs_52 (by decide) rfl ?_
        obtain ⟨x14_, e14⟩ : ∃ z : Int32, z = x3_2 + Int32.ofInt (1) := ⟨_, rfl⟩
        refine r_iinc hC (j := 2) (v := x14_) (lv' := [(2, .int x14_), (1, .int x13_), (0, .ref a0)]) dX10_weighs_53 rfl (by rw [e14]) (by decide) rfl ?_
        try have t14 : x14_.toInt = x3_2.toInt + (1) := by rw [e14]; exact (ti_add (b := Int32.ofInt (1)) (by show _ ≤ _ + (1 : Int); omega) (by show _ + (1 : Int) ≤ _; omega))
        refine r_goto hC (tgt := 4) dX10_weighs_56 (by decide) ?_
        refine r_sub [2, 1, 0] rfl ?_
        exact ih3 ((6 - x14_.toInt).toNat) (by omega) x14_ x13_ I9 hs9 hF9 (by omega) (by omega) (by first | (rw [show x14_.toInt.toNat = 0 by omega]; show _ = (0 : Int); omega) | (rw [show x14_.toInt.toNat = x3_2.toInt.toNat + 1 by omega, Wf_t (by omega)]; omega) | (rw [show x14_.toInt.toNat = x3_2.toInt.toNat + 1 by omega, Wf_n (by omega)]; omega)) (by omega) (by first | exact all_0 (P := fun j => (I ft j).toInt = Fb D E N j) (q := 0) (by omega) | exact fillf_s (f := Fb D E N) (k := x3_2.toNatClampNeg) (fun j h0 hj => by rw [hf8.get kft rfl]; exact v3_4 j h0 hj) eI9 (by have h9 := clampI (i := x3_2) (by omega); omega) (by rw [vnz (by omega) (by omega), clx (i := x3_2) rfl (by omega)]; first | (rw [Fb_t (by omega)]; omega) | (rw [Fb_n (by omega)]; omega)) (by omega)) rfl
      · refine r_aload_n hC dX10_weighs_38 0 rfl ?_
        refine r_getr hC 3 (ci := 10) rfl u10_in (by decide) mT_4_238 dX10_weighs_39 ka0 rfl rfl hbm ?_
        obtain ⟨a15_, hb15, hk15, hn15⟩ := hs9.row khm 16 75 6 (by decide) (by decide)
        refine r_getrN hC 16 (ci := 9) rfl u9_in (by decide) nF_16 dX10_weighs_42 khm rfl rfl hb15 ?_
        refine r_iload_n hC dX10_weighs_45 2 rfl ?_
        refine x_iaload hC hk15 hn15 (by decide) rfl rfl dX10_weighs_46 (by omega) (by omega) (fun x16_ e16 => ?_)
        have q16 : x16_.toInt = D 6 x3_2.toInt.toNat := by rw [e16, clx (i := x3_2) rfl (by omega)]; exact (mc.mv hs ka0 khm hF9 rfl).hrw (r := 6) (by decide) (by decide) hb15 (by rw [cnt_6]; omega) (fun h9 => absurd h9 (by decide))
        have jb16 : 0 ≤ D 6 x3_2.toInt.toNat ∧ D 6 x3_2.toInt.toNat ≤ 99 := hJ.2.2.2.1 6 _ (by decide) (by decide) (by decide)
        refine r_goto hC (tgt := 51) dX10_weighs_47 (by decide) ?_
        refine r_iadd hC dX10_weighs_51 (fun x17_ e17 => ?_)
        try have t17 : x17_.toInt = x3_1.toInt + x16_.toInt := by rw [e17]; exact ti_add (by omega) (by omega)
        refine r_istore_n hC (lv' := [(1, .int x17_), (0, .ref a0), (2, .int x3_2)]) dX10_weighs_52 (by decide) rfl ?_
        obtain ⟨x18_, e18⟩ : ∃ z : Int32, z = x3_2 + Int32.ofInt (1) := ⟨_, rfl⟩
        refine r_iinc hC (j := 2) (v := x18_) (lv' := [(2, .int x18_), (1, .int x17_), (0, .ref a0)]) dX10_weighs_53 rfl (by rw [e18]) (by decide) rfl ?_
        try have t18 : x18_.toInt = x3_2.toInt + (1) := by rw [e18]; exact (ti_add (b := Int32.ofInt (1)) (by show _ ≤ _ + (1 : Int); omega) (by show _ + (1 : Int) ≤ _; omega))
        refine r_goto hC (tgt := 4) dX10_weighs_56 (by decide) ?_
        refine r_sub [2, 1, 0] rfl ?_
        exact ih3 ((6 - x18_.toInt).toNat) (by omega) x18_ x17_ I9 hs9 hF9 (by omega) (by omega) (by first | (rw [show x18_.toInt.toNat = 0 by omega]; show _ = (0 : Int); omega) | (rw [show x18_.toInt.toNat = x3_2.toInt.toNat + 1 by omega, Wf_t (by omega)]; omega) | (rw [show x18_.toInt.toNat = x3_2.toInt.toNat + 1 by omega, Wf_n (by omega)]; omega)) (by omega) (by first | exact all_0 (P := fun j => (I ft j).toInt = Fb D E N j) (q := 0) (by omega) | exact fillf_s (f := Fb D E N) (k := x3_2.toNatClampNeg) (fun j h0 hj => by rw [hf8.get kft rfl]; exact v3_4 j h0 hj) eI9 (by have h9 := clampI (i := x3_2) (by omega); omega) (by rw [vnz (by omega) (by omega), clx (i := x3_2) rfl (by omega)]; first | (rw [Fb_t (by omega)]; omega) | (rw [Fb_n (by omega)]; omega)) (by omega)) rfl
  refine r_sub [2, 1, 0] rfl ?_
  exact LP3 _ x2_ x1_ I hs hF (by omega) (by omega) (by first | (rw [show x2_.toInt.toNat = 0 by omega]; show _ = (0 : Int); omega) | (rw [show x2_.toInt.toNat = x3_2.toInt.toNat + 1 by omega, Wf_t (by omega)]; omega) | (rw [show x2_.toInt.toNat = x3_2.toInt.toNat + 1 by omega, Wf_n (by omega)]; omega)) (by omega) (by first | exact all_0 (P := fun j => (I ft j).toInt = Fb D E N j) (q := 0) (by omega) | exact fillf_s (f := Fb D E N) (k := x3_2.toNatClampNeg) (fun j h0 hj => by rw [hfNOagk.get kft rfl]; exact v3_4 j h0 hj) eI (by have h9 := clampI (i := x3_2) (by omega); omega) (by rw [vnz (by omega) (by omega), clx (i := x3_2) rfl (by omega)]; first | (rw [Fb_t (by omega)]; omega) | (rw [Fb_n (by omega)]; omega)) (by omega)) rfl
