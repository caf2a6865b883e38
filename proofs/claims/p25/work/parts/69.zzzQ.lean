set_option maxHeartbeats 4000000 in
set_option maxRecDepth 100000 in
theorem f_X10_safe (g : GG) (l : Launch) (K len : Nat → Nat) (I : Nat → Nat → Int32) (J : Nat → Nat → Int64) (R : Nat → Nat → Option Nat) (hs : Sf K len I R) (a0 : Nat) (ka0 : K a0 = 11) (x1 : Int32) (D : DD) (E : Nat → Nat → Int) (hmx : ∀ hm, R a0 3 = some hm → MC D E a0 hm I R) : Ct g l yX10_safe cX10_safe 3 (Option.some Jvm.ClassFile.FieldType.int) rmX10_safe [.ref a0, .int x1] (K, len, I, J, R) (pI1 (K, len, I, J, R) (fun r I' => Sf K len I' R ∧ Fr K [(11, 0), (11, 1), (11, 2), (11, 19), (85, 999), (86, 999), (87, 999), (88, 999)] I I' ∧ ((R a0 3 = none ∧ r.toInt = -1) ∨ (∃ hm, R a0 3 = some hm ∧ ((0 ≤ x1.toInt ∧ x1.toInt < D 0 7) ∧ r.toInt = Lst (fun n => Hq D x1.toInt.toNat n) (D 0 3 + 1).toNat ∨ ¬ (0 ≤ x1.toInt ∧ x1.toInt < D 0 7) ∧ r.toInt = -1))) ∧ ((I' a0 2).toInt = -1))) := by
  refine Ct_intro (by decide +kernel) (Nat.le_of_ble_eq_true rfl) (fun X hC hL hKK hNm hr hlk hQ => ?_)
  subst hL
  have hC : Cx g X cX10_safe "HillTapModel" 3 rmX10_safe := hC
  show P g X 3 0 [(0, .ref a0), (1, .int x1)] [] 0 0 (K, len, I, J, R)
  have hF : Fr K [(11, 0), (11, 1), (11, 2), (11, 19), (85, 999), (86, 999), (87, 999), (88, 999)] I I := Fr.refl
  obtain ⟨lr, hlr, klr, llr⟩ := hs.row ka0 15 85 60 (by decide) (by decide)
  obtain ⟨sr, hsr, ksr, lsr⟩ := hs.row ka0 16 86 300 (by decide) (by decide)
  obtain ⟨ir, hir, kir, lir⟩ := hs.row ka0 17 87 300 (by decide) (by decide)
  obtain ⟨wr, hwr, kwr, lwr⟩ := hs.row ka0 18 88 300 (by decide) (by decide)
  have b_x1 := ti_rng x1
  rcases hs.2.1.2.2.1 a0 ka0 with hz | ⟨hm, hbm, khm⟩
  · refine r_aload_n hC dX10_safe_0 0 rfl ?_
    refine r_iconst hC (v := (0)) dX10_safe_1 (by decide) (by decide) (fun x1_ e1 t1 => ?_)
    refine r_puti hC 0 (ci := 10) rfl u10_in tyX10_ok nmX10 (by decide) mT_4_235 rfl rfl rfl dX10_safe_2 ka0 rfl rfl (fun I2 eI2 => ?_)
    have hs2 := hs.put0 eI2 ka0 rfl rfl rfl (by decide)
    have hF2 := hF.put eI2 ka0 rfl
    refine r_aload_n hC dX10_safe_5 0 rfl ?_
    refine r_iload_n hC dX10_safe_6 1 rfl ?_
    refine r_callV hC (As := [.int x1]) (rest := []) (ci := 10) (f_X10_isStory g (xL X) K len I2 J R hs2 a0 ka0 x1) mT_6_119 mT_1_10 mT_6_116 mT_6_118 mP_71 okX10_isStory ⟨by decide, by decide⟩ rfl (by show kO (K a0) = _; rw [ka0]; rfl) rfl rfl (Nat.le_of_ble_eq_true rfl) ⟨by decide, by decide⟩ dX10_safe_7 (aI0 (F := fun st M => P g X 3 10 [(0, .ref a0), (1, .int x1)] st _ _ M) (M := (K, len, I2, J, R)) fun x3_ h3 => ?_)
    have k3_0 := h3
    clear h3
    show P g X 3 10 [(0, .ref a0), (1, .int x1)] [.int x3_] _ _ (K, len, I2, J, R)
    have kq3 : x3_.toInt = 0 := by rcases k3_0 with ⟨z, y⟩ | ⟨hm9, z, y⟩; exact y; rw [hz] at z; cases z
    clear k3_0
    refine r_if_ne hC (tgt := 19) dX10_safe_10 (by decide) (fun c4 => ?_) (fun c4 => ?_)
    · exfalso; omega
    refine r_aload_n hC dX10_safe_13 0 rfl ?_
    refine r_iconst hC (v := (1)) dX10_safe_14 (by decide) (by decide) (fun x5_ e5 t5 => ?_)
    refine r_callV hC (As := [.int x5_]) (rest := []) (ci := 10) (c_X10_refused g (xL X) K len I2 J R hs2 a0 ka0 x5_) mT_5_85 mT_1_10 mT_5_82 mT_5_84 mP_48 okX10_refused ⟨by decide, by decide⟩ rfl (by show kO (K a0) = _; rw [ka0]; rfl) rfl rfl (Nat.le_of_ble_eq_true rfl) ⟨by decide, by decide⟩ dX10_safe_15 (aI1 (F := fun st M => P g X 3 18 [(0, .ref a0), (1, .int x1)] st _ _ M) (M := (K, len, I2, J, R)) fun x6_ I6 h6 => ?_)
    obtain ⟨hs6, hf6, k6_0, k6_1, k6_2⟩ := h6
    show P g X 3 18 [(0, .ref a0), (1, .int x1)] [.int x6_] _ _ (K, len, I6, J, R)
    have hF6 : Fr K [(11, 0), (11, 1), (11, 2), (11, 19), (85, 999), (86, 999), (87, 999), (88, 999)] I I6 := hF2.trans hf6 rfl rfl
    exact r_iret hC hQ hlk hr rfl (by decide) (by decide) dX10_safe_18 ⟨_, _, rfl, rfl, ⟨hs6, hF6, (by first | exact Or.inl ⟨hz, by omega⟩ | exact Or.inr ⟨hm, hbm, Or.inr ⟨by omega, by omega⟩⟩ | exact Or.inr ⟨hm, hbm, Or.inl ⟨by omega, (congrArg Int32.toInt k6_0).trans (by first | (rw [NOx_v27_2, show (NOx_l2.toInt + 1).toNat = NOx_l2.toInt.toNat + 1 by omega, Ls_t (f := fun n => Hq D x1.toInt.toNat n) (n := NOx_l2.toInt.toNat) (show Hq D x1.toInt.toNat ((NOx_l2.toInt.toNat : Nat) : Int) = -2 from by rw [Int.toNat_of_nonneg (by omega)]; show GV D x1.toInt.toNat (Ad D x1.toInt.toNat (fun j => Lp D (fun _ => NOx_l2.toInt) (j + 1)) 1) 60 = -2; omega)]; omega) | (rw [NOx_v27_2, show (NOx_l2.toInt + 1).toNat = 0 by omega]; show _ = (-2 : Int); omega))⟩⟩), (by omega)⟩⟩
  · obtain ⟨S0, eS0⟩ : ∃ z : Int32, z = I hm 7 := ⟨_, rfl⟩
    have fS0 : S0.toInt = (I hm 7).toInt := by rw [eS0]
    have rS0 := hs.rng khm rfl eS0
    have mc := hmx hm hbm
    obtain ⟨⟨hJ, hR6, hD7⟩, rwm, ⟨hd1, hd2, hd3, hd4, hd5, hd7, hd8, hd9⟩, -⟩ := id mc
    have hcx := CM_x hs khm
    have b5 := hs.rng khm (k := 3) rfl (x := I hm 3) rfl
    have b7 := hs.rng khm (k := 7) rfl (x := I hm 7) rfl
    have b8 := hs.rng khm (k := 8) rfl (x := I hm 8) rfl
    have b20 := hs.rng ka0 (k := 20) rfl (x := I a0 20) rfl
    refine r_aload_n hC dX10_safe_0 0 rfl ?_
    refine r_iconst hC (v := (0)) dX10_safe_1 (by decide) (by decide) (fun x7_ e7 t7 => ?_)
    refine r_puti hC 0 (ci := 10) rfl u10_in tyX10_ok nmX10 (by decide) mT_4_235 rfl rfl rfl dX10_safe_2 ka0 rfl rfl (fun I8 eI8 => ?_)
    have hs8 := hs.put0 eI8 ka0 rfl rfl rfl (by decide)
    have hF8 := hF.put eI8 ka0 rfl
    refine r_aload_n hC dX10_safe_5 0 rfl ?_
    refine r_iload_n hC dX10_safe_6 1 rfl ?_
    refine r_callV hC (As := [.int x1]) (rest := []) (ci := 10) (f_X10_isStory g (xL X) K len I8 J R hs8 a0 ka0 x1) mT_6_119 mT_1_10 mT_6_116 mT_6_118 mP_71 okX10_isStory ⟨by decide, by decide⟩ rfl (by show kO (K a0) = _; rw [ka0]; rfl) rfl rfl (Nat.le_of_ble_eq_true rfl) ⟨by decide, by decide⟩ dX10_safe_7 (aI0 (F := fun st M => P g X 3 10 [(0, .ref a0), (1, .int x1)] st _ _ M) (M := (K, len, I8, J, R)) fun x9_ h9 => ?_)
    have k9_0 := h9
    clear h9
    show P g X 3 10 [(0, .ref a0), (1, .int x1)] [.int x9_] _ _ (K, len, I8, J, R)
    have kq9 : x9_.toInt = 1 ∧ (0 ≤ x1.toInt ∧ x1.toInt < D 0 7) ∨ x9_.toInt = 0 ∧ ¬ (0 ≤ x1.toInt ∧ x1.toInt < D 0 7) := by rcases k9_0 with ⟨z, -⟩ | ⟨hm9, z, y⟩ <;> rw [hbm] at z <;> cases z; rw [show (I8 hm 7).toInt = _ from (mc.mv hs ka0 khm hF8 rfl).2.2.1.2.2.2.2.2.1] at y; exact y
    clear k9_0
    refine r_if_ne hC (tgt := 19) dX10_safe_10 (by decide) (fun c10 => ?_) (fun c10 => ?_)
    · have d3b := hJ.2.2.2.2.1
      refine r_aload_n hC dX10_safe_19 0 rfl ?_
      refine r_getr hC 3 (ci := 10) rfl u10_in (by decide) mT_4_238 dX10_safe_20 ka0 rfl rfl hbm ?_
      refine r_getiN hC 2 (ci := 9) rfl u9_in (by decide) nF_2 dX10_safe_23 khm rfl rfl (fun x11_ e11 => ?_)
      have f11 : x11_.toInt = (I8 hm 2).toInt := by rw [e11]
      have sc11 : x11_.toInt = D 0 3 := by rw [e11]; exact (mc.mv hs ka0 khm hF8 rfl).2.2.1.2.2.1
      refine r_istore_n hC (lv' := [(2, .int x11_), (0, .ref a0), (1, .int x1)]) dX10_safe_26 (by decide) rfl ?_
      have LP12 : ∀ (mu : Nat) (x12_2 : Int32) (I12 : Nat → Nat → Int32) (hs12 : Sf K len I12 R) (hF12 : Fr K [(11, 0), (11, 1), (11, 2), (11, 19), (85, 999), (86, 999), (87, 999), (88, 999)] I I12) (v12_0 : -1 ≤ x12_2.toInt) (v12_1 : x12_2.toInt ≤ D 0 3) (v12_2 : Lst (fun n => Hq D x1.toInt.toNat n) (D 0 3 + 1).toNat = Lst (fun n => Hq D x1.toInt.toNat n) (x12_2.toInt + 1).toNat), (x12_2.toInt + 1).toNat = mu → P g X 3 27 [(0, .ref a0), (1, .int x1), (2, .int x12_2)] [] 0 0 (K, len, I12, J, R) := by
        intro mu; induction mu using Nat.strongRecOn with | ind mu ih => ?_
        intro x12_2 I12 hs12 hF12 v12_0 v12_1 v12_2 hmu
        have ih12 := ih
        clear ih
        have hmu12 := hmu
        clear hmu
        refine r_iload_n hC dX10_safe_27 2 rfl ?_
        refine r_if_lt hC (tgt := 65) dX10_safe_28 (by decide) (fun c13 => ?_) (fun c13 => ?_)
        · refine r_aload_n hC dX10_safe_65 0 rfl ?_
          refine r_bipush hC (v := (-2)) dX10_safe_66 (by decide) (by decide) (fun x14_ e14 t14 => ?_)
          refine r_callV hC (As := [.int x14_]) (rest := []) (ci := 10) (c_X10_done g (xL X) K len I12 J R hs12 a0 ka0 x14_) mT_6_79 mT_1_10 mT_6_76 mT_6_78 mP_67 okX10_done ⟨by decide, by decide⟩ rfl (by show kO (K a0) = _; rw [ka0]; rfl) rfl rfl (Nat.le_of_ble_eq_true rfl) ⟨by decide, by decide⟩ dX10_safe_68 (aI1 (F := fun st M => P g X 3 71 [(0, .ref a0), (1, .int x1), (2, .int x12_2)] st _ _ M) (M := (K, len, I12, J, R)) fun x15_ I15 h15 => ?_)
          obtain ⟨hs15, hf15, k15_0, k15_1, k15_2⟩ := h15
          show P g X 3 71 [(0, .ref a0), (1, .int x1), (2, .int x12_2)] [.int x15_] _ _ (K, len, I15, J, R)
          have hF15 : Fr K [(11, 0), (11, 1), (11, 2), (11, 19), (85, 999), (86, 999), (87, 999), (88, 999)] I I15 := hF12.trans hf15 rfl rfl
          exact r_iret hC hQ hlk hr rfl (by decide) (by decide) dX10_safe_71 ⟨_, _, rfl, rfl, ⟨hs15, hF15, (by first | exact Or.inl ⟨hz, by omega⟩ | exact Or.inr ⟨hm, hbm, Or.inr ⟨by omega, by omega⟩⟩ | exact Or.inr ⟨hm, hbm, Or.inl ⟨by omega, (congrArg Int32.toInt k15_0).trans (by first | (rw [v12_2, show (x12_2.toInt + 1).toNat = x12_2.toInt.toNat + 1 by omega, Ls_t (f := fun n => Hq D x1.toInt.toNat n) (n := x12_2.toInt.toNat) (show Hq D x1.toInt.toNat ((x12_2.toInt.toNat : Nat) : Int) = -2 from by rw [Int.toNat_of_nonneg (by omega)]; show GV D x1.toInt.toNat (Ad D x1.toInt.toNat (fun j => Lp D (fun _ => x12_2.toInt) (j + 1)) 1) 60 = -2; omega)]; omega) | (rw [v12_2, show (x12_2.toInt + 1).toNat = 0 by omega]; show _ = (-2 : Int); omega))⟩⟩), (by omega)⟩⟩
        · refine r_aload_n hC dX10_safe_31 0 rfl ?_
          refine r_bipush hC (v := (60)) dX10_safe_32 (by decide) (by decide) (fun x16_ e16 t16 => ?_)
          refine r_iload_n hC dX10_safe_34 2 rfl ?_
          obtain ⟨rr, hrr, krr, lrr⟩ := hs.row khm 15 74 60 (by decide) (by decide)
          refine r_callV hC (As := [.int x16_, .int x12_2]) (rest := []) (ci := 10) (f_X10_fills g (xL X) K len I12 J R hs12 a0 ka0 x16_ x12_2 hm hbm khm D hJ (rwm.mv hcx qM_big hF12 rfl) (by rw [hF12.get khm rfl]; exact hd1) (by rw [hF12.get khm rfl]; exact hd2) (by rw [hF12.get khm rfl]; exact hd3) (by rw [hF12.get khm rfl]; exact hd4) lr hlr klr llr (by omega)) mT_6_99 mT_1_10 mT_6_96 mT_6_98 mP_69 okX10_fills ⟨by decide, by decide⟩ rfl (by show kO (K a0) = _; rw [ka0]; rfl) rfl rfl (Nat.le_of_ble_eq_true rfl) ⟨by decide, by decide⟩ dX10_safe_35 (aV1 (F := fun st M => P g X 3 38 [(0, .ref a0), (1, .int x1), (2, .int x12_2)] st _ _ M) (M := (K, len, I12, J, R)) fun I17 h17 => ?_)
          obtain ⟨hs17, hf17, k17_0⟩ := h17
          show P g X 3 38 [(0, .ref a0), (1, .int x1), (2, .int x12_2)] [] _ _ (K, len, I17, J, R)
          have hF17 : Fr K [(11, 0), (11, 1), (11, 2), (11, 19), (85, 999), (86, 999), (87, 999), (88, 999)] I I17 := hF12.trans hf17 rfl rfl
          have lvq : ∀ j : Nat, j < 60 → (I17 lr j).toInt = Lp D (fun _ => x12_2.toInt) (j + 1) := fun j hj => by rw [k17_0 j hj, show x16_.toInt = 60 by omega]; exact Lp_cg (fun d hd => by rw [Gm_2 (by omega) (by omega)]; omega)
          refine r_aload_n hC dX10_safe_38 0 rfl ?_
          refine r_iload_n hC dX10_safe_39 1 rfl ?_
          refine r_iconst hC (v := (1)) dX10_safe_40 (by decide) (by decide) (fun x18_ e18 t18 => ?_)
          have hv19 : I17 hm 7 = S0 := (Eq.trans (hf17.get khm rfl) (Eq.trans (hF12.get khm rfl) eS0.symm))
          refine r_callV hC (As := [.int x1, .int x18_]) (rest := []) (ci := 10) (f_X10_runs g (xL X) K len I17 J R hs17 a0 ka0 x1 x18_ hm hbm khm (by rw [hv19]; omega) sr hsr ksr lsr ir hir kir lir wr hwr kwr lwr lr hlr klr llr (fun j => Lp D (fun _ => x12_2.toInt) (j + 1)) (fun j hj => ⟨lvq j hj, (LPd_b hJ (G := fun _ => x12_2.toInt) (fun d => ⟨by omega, by omega⟩)) j⟩) (LPd_b hJ (G := fun _ => x12_2.toInt) (fun d => ⟨by omega, by omega⟩)) D hJ hR6 (rwm.mv hcx qM_big hF17 rfl) (by rw [hF17.get khm rfl]; exact hd1) (by rw [hF17.get khm rfl]; exact hd5) (by rw [hF17.get khm rfl]; exact hd7) rr hrr krr lrr (fun j hj => ⟨by rw [hF17.get krr rfl]; exact mc.hrw (r := 5) (by decide) (by decide) hrr (by show (j : Int) < 60; omega) (fun h9 => absurd h9 (by decide)), hJ.rn hR6 j⟩) (by omega) (by omega)) mT_6_131 mT_1_10 mT_6_128 mT_6_130 mP_74 okX10_runs ⟨by decide, by decide⟩ rfl (by show kO (K a0) = _; rw [ka0]; rfl) rfl rfl (Nat.le_of_ble_eq_true rfl) ⟨by decide, by decide⟩ dX10_safe_41 (aV1 (F := fun st M => P g X 3 44 [(0, .ref a0), (1, .int x1), (2, .int x12_2)] st _ _ M) (M := (K, len, I17, J, R)) fun I20 h20 => ?_)
          obtain ⟨hs20, hf20, k20_0, k20_1⟩ := h20
          show P g X 3 44 [(0, .ref a0), (1, .int x1), (2, .int x12_2)] [] _ _ (K, len, I20, J, R)
          have hF20 : Fr K [(11, 0), (11, 1), (11, 2), (11, 19), (85, 999), (86, 999), (87, 999), (88, 999)] I I20 := hF17.trans hf20 rfl rfl
          refine r_aload_n hC dX10_safe_44 0 rfl ?_
          refine r_geti hC 19 (ci := 10) rfl u10_in (by decide) mT_5_14 dX10_safe_45 ka0 rfl rfl (fun x21_ e21 => ?_)
          have r21 := hs20.rng ka0 rfl e21
          have q21 := hs20.gone ka0 e21
          have f21 : x21_.toInt = (I20 a0 19).toInt := by rw [e21]
          have j1 := k20_1
          rw [show x18_.toInt = 1 by omega] at j1
          have gq : x21_.toInt = GV D x1.toInt.toNat (Ad D x1.toInt.toNat (fun j => Lp D (fun _ => x12_2.toInt) (j + 1)) 1) 60 := by rw [e21]; exact j1
          refine r_bipush hC (v := (-2)) dX10_safe_48 (by decide) (by decide) (fun x22_ e22 t22 => ?_)
          refine r_icmp_ne hC (tgt := 59) dX10_safe_50 (by decide) (fun c23 => ?_) (fun c23 => ?_)
          · obtain ⟨x24_, e24⟩ : ∃ z : Int32, z = x12_2 + Int32.ofInt (-1) := ⟨_, rfl⟩
            refine r_iinc hC (j := 2) (v := x24_) (lv' := [(2, .int x24_), (0, .ref a0), (1, .int x1)]) dX10_safe_59 rfl (by rw [e24]) (by decide) rfl ?_
            try have t24 : x24_.toInt = x12_2.toInt + (-1) := by rw [e24]; exact (ti_add (b := Int32.ofInt (-1)) (by show _ ≤ _ + (-1 : Int); omega) (by show _ + (-1 : Int) ≤ _; omega))
            refine r_goto hC (tgt := 27) dX10_safe_62 (by decide) ?_
            refine r_sub [1, 2, 0] rfl ?_
            exact ih12 ((x24_.toInt + 1).toNat) (by omega) x24_ I20 hs20 hF20 (by omega) (by omega) (by first | (rw [show (x24_.toInt + 1).toNat = (D 0 3 + 1).toNat by omega]) | (rw [v12_2, show (x12_2.toInt + 1).toNat = x12_2.toInt.toNat + 1 by omega, Ls_n (f := fun n => Hq D x1.toInt.toNat n) (n := x12_2.toInt.toNat) (show Hq D x1.toInt.toNat ((x12_2.toInt.toNat : Nat) : Int) ≠ -2 from by rw [Int.toNat_of_nonneg (by omega)]; show GV D x1.toInt.toNat (Ad D x1.toInt.toNat (fun j => Lp D (fun _ => x12_2.toInt) (j + 1)) 1) 60 ≠ -2; omega), show (x24_.toInt + 1).toNat = x12_2.toInt.toNat by omega])) rfl
          · refine r_aload_n hC dX10_safe_53 0 rfl ?_
            refine r_iload_n hC dX10_safe_54 2 rfl ?_
            refine r_callV hC (As := [.int x12_2]) (rest := []) (ci := 10) (c_X10_done g (xL X) K len I20 J R hs20 a0 ka0 x12_2) mT_6_79 mT_1_10 mT_6_76 mT_6_78 mP_67 okX10_done ⟨by decide, by decide⟩ rfl (by show kO (K a0) = _; rw [ka0]; rfl) rfl rfl (Nat.le_of_ble_eq_true rfl) ⟨by decide, by decide⟩ dX10_safe_55 (aI1 (F := fun st M => P g X 3 58 [(0, .ref a0), (1, .int x1), (2, .int x12_2)] st _ _ M) (M := (K, len, I20, J, R)) fun x25_ I25 h25 => ?_)
            obtain ⟨hs25, hf25, k25_0, k25_1, k25_2⟩ := h25
            show P g X 3 58 [(0, .ref a0), (1, .int x1), (2, .int x12_2)] [.int x25_] _ _ (K, len, I25, J, R)
            have hF25 : Fr K [(11, 0), (11, 1), (11, 2), (11, 19), (85, 999), (86, 999), (87, 999), (88, 999)] I I25 := hF20.trans hf25 rfl rfl
            exact r_iret hC hQ hlk hr rfl (by decide) (by decide) dX10_safe_58 ⟨_, _, rfl, rfl, ⟨hs25, hF25, (by first | exact Or.inl ⟨hz, by omega⟩ | exact Or.inr ⟨hm, hbm, Or.inr ⟨by omega, by omega⟩⟩ | exact Or.inr ⟨hm, hbm, Or.inl ⟨by omega, (congrArg Int32.toInt k25_0).trans (by first | (rw [v12_2, show (x12_2.toInt + 1).toNat = x12_2.toInt.toNat + 1 by omega, Ls_t (f := fun n => Hq D x1.toInt.toNat n) (n := x12_2.toInt.toNat) (show Hq D x1.toInt.toNat ((x12_2.toInt.toNat : Nat) : Int) = -2 from by rw [Int.toNat_of_nonneg (by omega)]; show GV D x1.toInt.toNat (Ad D x1.toInt.toNat (fun j => Lp D (fun _ => x12_2.toInt) (j + 1)) 1) 60 = -2; omega)]; omega) | (rw [v12_2, show (x12_2.toInt + 1).toNat = 0 by omega]; show _ = (-2 : Int); omega))⟩⟩), (by omega)⟩⟩
      refine r_sub [1, 2, 0] rfl ?_
      exact LP12 _ x11_ I8 hs8 hF8 (by omega) (by omega) (by first | (rw [show (x11_.toInt + 1).toNat = (D 0 3 + 1).toNat by omega]) | (rw [v12_2, show (x12_2.toInt + 1).toNat = x12_2.toInt.toNat + 1 by omega, Ls_n (f := fun n => Hq D x1.toInt.toNat n) (n := x12_2.toInt.toNat) (show Hq D x1.toInt.toNat ((x12_2.toInt.toNat : Nat) : Int) ≠ -2 from by rw [Int.toNat_of_nonneg (by omega)]; show GV D x1.toInt.toNat (Ad D x1.toInt.toNat (fun j => Lp D (fun _ => x12_2.toInt) (j + 1)) 1) 60 ≠ -2; omega), show (x11_.toInt + 1).toNat = x12_2.toInt.toNat by omega])) rfl
    · refine r_aload_n hC dX10_safe_13 0 rfl ?_
      refine r_iconst hC (v := (1)) dX10_safe_14 (by decide) (by decide) (fun x26_ e26 t26 => ?_)
      refine r_callV hC (As := [.int x26_]) (rest := []) (ci := 10) (c_X10_refused g (xL X) K len I8 J R hs8 a0 ka0 x26_) mT_5_85 mT_1_10 mT_5_82 mT_5_84 mP_48 okX10_refused ⟨by decide, by decide⟩ rfl (by show kO (K a0) = _; rw [ka0]; rfl) rfl rfl (Nat.le_of_ble_eq_true rfl) ⟨by decide, by decide⟩ dX10_safe_15 (aI1 (F := fun st M => P g X 3 18 [(0, .ref a0), (1, .int x1)] st _ _ M) (M := (K, len, I8, J, R)) fun x27_ I27 h27 => ?_)
      obtain ⟨hs27, hf27, k27_0, k27_1, k27_2⟩ := h27
      show P g X 3 18 [(0, .ref a0), (1, .int x1)] [.int x27_] _ _ (K, len, I27, J, R)
      have hF27 : Fr K [(11, 0), (11, 1), (11, 2), (11, 19), (85, 999), (86, 999), (87, 999), (88, 999)] I I27 := hF8.trans hf27 rfl rfl
      exact r_iret hC hQ hlk hr rfl (by decide) (by decide) dX10_safe_18 ⟨_, _, rfl, rfl, ⟨hs27, hF27, (by first | exact Or.inl ⟨hz, by omega⟩ | exact Or.inr ⟨hm, hbm, Or.inr ⟨by omega, by omega⟩⟩ | exact Or.inr ⟨hm, hbm, Or.inl ⟨by omega, (congrArg Int32.toInt k27_0).trans (by first | (rw [NOx_v27_2, show (NOx_l2.toInt + 1).toNat = NOx_l2.toInt.toNat + 1 by omega, Ls_t (f := fun n => Hq D x1.toInt.toNat n) (n := NOx_l2.toInt.toNat) (show Hq D x1.toInt.toNat ((NOx_l2.toInt.toNat : Nat) : Int) = -2 from by rw [Int.toNat_of_nonneg (by omega)]; show GV D x1.toInt.toNat (Ad D x1.toInt.toNat (fun j => Lp D (fun _ => NOx_l2.toInt) (j + 1)) 1) 60 = -2; omega)]; omega) | (rw [NOx_v27_2, show (NOx_l2.toInt + 1).toNat = 0 by omega]; show _ = (-2 : Int); omega))⟩⟩), (by omega)⟩⟩

