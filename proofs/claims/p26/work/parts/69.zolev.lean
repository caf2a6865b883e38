set_option maxHeartbeats 4000000 in
set_option maxRecDepth 100000 in
theorem o_X2_fillByPlan (g : GG) (l : Launch) (K len : Nat → Nat) (I : Nat → Nat → Int32) (J : Nat → Nat → Int64) (R : Nat → Nat → Option Nat) (hs : Sf K len I R) (a0 : Nat) (ka0 : K a0 = 3) (a1 : Nat) (ka1 : K a1 = 41) (na1 : len a1 = 60) (x2 : Int32) : Ct g l yX2_fillByPlan cX2_fillByPlan 5 (Option.none : Option Jvm.ClassFile.FieldType) rmX2_fillByPlan [.ref a0, .ref a1, .int x2] (K, len, I, J, R) (pV1 (K, len, I, J, R) (fun I' => Sf K len I' R ∧ Fr K [(41, 999)] I I' ∧ (∀ b k, b ≠ a1 → I' b k = I b k))) := by
  refine Ct_intro (by decide +kernel) (Nat.le_of_ble_eq_true rfl) (fun X hC hL hKK hNm hr hlk hQ => ?_)
  subst hL
  have hC : Cx g X cX2_fillByPlan "HillTap$Lake" 5 rmX2_fillByPlan := hC
  show P g X 5 0 [(0, .ref a0), (1, .ref a1), (2, .int x2)] [] 0 0 (K, len, I, J, R)
  have hF : Fr K [(41, 999)] I I := Fr.refl
  have b_x2 := ti_rng x2
  refine r_aload_n hC dX2_fillByPlan_0 0 rfl ?_
  refine r_geti hC 1 (ci := 2) rfl u2_in (by decide) mT_1_119 dX2_fillByPlan_1 ka0 rfl rfl (fun x1_ e1 => ?_)
  refine r_istore_n hC (lv' := [(3, .int x1_), (0, .ref a0), (1, .ref a1), (2, .int x2)]) dX2_fillByPlan_4 (by decide) rfl ?_
  refine r_iconst hC (v := (0)) dX2_fillByPlan_5 (by decide) (by decide) (fun x2_ e2 t2 => ?_)
  refine r_istore hC (lv' := [(4, .int x2_), (3, .int x1_), (0, .ref a0), (1, .ref a1), (2, .int x2)]) dX2_fillByPlan_6 (by decide) rfl ?_
  have LP3 : ∀ (mu : Nat) (x3_4 : Int32) (x3_3 : Int32) (I3 : Nat → Nat → Int32) (hs3 : Sf K len I3 R) (hF3 : Fr K [(41, 999)] I I3) (v3_0 : 0 ≤ x3_4.toInt) (v3_1 : x3_4.toInt ≤ 60) (v3_2 : ∀ b k, b ≠ a1 → I3 b k = I b k), (60 - x3_4.toInt).toNat = mu → P g X 5 8 [(0, .ref a0), (1, .ref a1), (2, .int x2), (3, .int x3_3), (4, .int x3_4)] [] 0 0 (K, len, I3, J, R) := by
    intro mu; induction mu using Nat.strongRecOn with | ind mu ih => ?_
    intro x3_4 x3_3 I3 hs3 hF3 v3_0 v3_1 v3_2 hmu
    have ih3 := ih
    clear ih
    have hmu3 := hmu
    clear hmu
    refine r_iload hC dX2_fillByPlan_8 4 rfl ?_
    refine r_bipush hC (v := (60)) dX2_fillByPlan_10 (by decide) (by decide) (fun x4_ e4 t4 => ?_)
    refine r_icmp_ge hC (tgt := 48) dX2_fillByPlan_12 (by decide) (fun c5 => ?_) (fun c5 => ?_)
    · exact r_vret hC hQ hlk hr (by decide) (by decide) dX2_fillByPlan_48 ⟨_, rfl, rfl, ⟨hs3, hF3, (by exact v3_2)⟩⟩
    · refine r_aload_n hC dX2_fillByPlan_15 0 rfl ?_
      refine r_iload hC dX2_fillByPlan_16 4 rfl ?_
      refine r_iload_n hC dX2_fillByPlan_18 2 rfl ?_
      refine r_icmp_ge hC (tgt := 31) dX2_fillByPlan_19 (by decide) (fun c6 => ?_) (fun c6 => ?_)
      · refine r_iconst hC (v := (0)) dX2_fillByPlan_31 (by decide) (by decide) (fun x7_ e7 t7 => ?_)
        refine r_iload_n hC dX2_fillByPlan_32 3 rfl ?_
        refine r_callV hC (As := [.int x7_, .int x3_3]) (rest := []) (ci := 2) (c_X2_towards g (xL X) K len I3 J R hs3 a0 ka0 x7_ x3_3) mT_3_110 mT_1_6 mT_3_107 mT_3_109 mP_20 okX2_towards ⟨by decide, by decide⟩ rfl (by show kO (K a0) = _; rw [ka0]; rfl) rfl rfl (Nat.le_of_ble_eq_true rfl) ⟨by decide, by decide⟩ dX2_fillByPlan_33 (aI0 (F := fun st M => P g X 5 36 [(0, .ref a0), (1, .ref a1), (2, .int x2), (3, .int x3_3), (4, .int x3_4)] st _ _ M) (M := (K, len, I3, J, R)) fun x8_ h8 => ?_)
        skip
        show P g X 5 36 [(0, .ref a0), (1, .ref a1), (2, .int x2), (3, .int x3_3), (4, .int x3_4)] [.int x8_] _ _ (K, len, I3, J, R)
        refine r_istore_n hC (lv' := [(3, .int x8_), (0, .ref a0), (1, .ref a1), (2, .int x2), (4, .int x3_4)]) dX2_fillByPlan_36 (by decide) rfl ?_
        refine r_aload_n hC dX2_fillByPlan_37 2 rfl ?_
        refine r_iload hC dX2_fillByPlan_38 4 rfl ?_
        refine r_iload_n hC dX2_fillByPlan_40 0 rfl ?_
        refine x_iastore hC ka1 na1 (by decide) rfl rfl dX2_fillByPlan_41 (by omega) (by omega) (fun I9 eI9 => ?_)
        have hs9 := hs3.put0 eI9 ka1 (rng_arr (by decide) _) rfl (xF_arr (by decide) _) (by decide)
        have hF9 := hF3.put eI9 ka1 (inS_arr rfl _)
        obtain ⟨x10_, e10⟩ : ∃ z : Int32, z = x3_4 + Int32.ofInt (1) := ⟨_, rfl⟩
        refine r_iinc hC (j := 4) (v := x10_) (lv' := [(4, .int x10_), (3, .int x8_), (0, .ref a0), (1, .ref a1), (2, .int x2)]) dX2_fillByPlan_42 rfl (by rw [e10]) (by decide) rfl ?_
        try have t10 : x10_.toInt = x3_4.toInt + (1) := by rw [e10]; exact (ti_add (b := Int32.ofInt (1)) (by show _ ≤ _ + (1 : Int); omega) (by show _ + (1 : Int) ≤ _; omega))
        refine r_goto hC (tgt := 8) dX2_fillByPlan_45 (by decide) ?_
        refine r_sub [2, 3, 4, 1, 0] rfl ?_
        exact ih3 ((60 - x10_.toInt).toNat) (by omega) x10_ x8_ I9 hs9 hF9 (by omega) (by omega) (by first | exact fun b k hb => rfl | exact fill_o v3_2 eI9) rfl
      · refine r_aload_n hC dX2_fillByPlan_22 0 rfl ?_
        refine r_iload hC dX2_fillByPlan_23 4 rfl ?_
        refine r_callV hC (As := [.int x3_4]) (rest := [.ref a0]) (ci := 2) (c_X2_goalOf g (xL X) K len I3 J R hs3 a0 ka0 x3_4) mT_3_105 mT_1_6 mT_3_102 mT_3_104 mP_19 okX2_goalOf ⟨by decide, by decide⟩ rfl (by show kO (K a0) = _; rw [ka0]; rfl) rfl rfl (Nat.le_of_ble_eq_true rfl) ⟨by decide, by decide⟩ dX2_fillByPlan_25 (aI0 (F := fun st M => P g X 5 28 [(0, .ref a0), (1, .ref a1), (2, .int x2), (3, .int x3_3), (4, .int x3_4)] st _ _ M) (M := (K, len, I3, J, R)) fun x11_ h11 => ?_)
        skip
        show P g X 5 28 [(0, .ref a0), (1, .ref a1), (2, .int x2), (3, .int x3_3), (4, .int x3_4)] [.int x11_, .ref a0] _ _ (K, len, I3, J, R)
        refine r_goto hC (tgt := 32) dX2_fillByPlan_28 (by decide) ?_
        refine r_iload_n hC dX2_fillByPlan_32 3 rfl ?_
        refine r_callV hC (As := [.int x11_, .int x3_3]) (rest := []) (ci := 2) (c_X2_towards g (xL X) K len I3 J R hs3 a0 ka0 x11_ x3_3) mT_3_110 mT_1_6 mT_3_107 mT_3_109 mP_20 okX2_towards ⟨by decide, by decide⟩ rfl (by show kO (K a0) = _; rw [ka0]; rfl) rfl rfl (Nat.le_of_ble_eq_true rfl) ⟨by decide, by decide⟩ dX2_fillByPlan_33 (aI0 (F := fun st M => P g X 5 36 [(0, .ref a0), (1, .ref a1), (2, .int x2), (3, .int x3_3), (4, .int x3_4)] st _ _ M) (M := (K, len, I3, J, R)) fun x12_ h12 => ?_)
        skip
        show P g X 5 36 [(0, .ref a0), (1, .ref a1), (2, .int x2), (3, .int x3_3), (4, .int x3_4)] [.int x12_] _ _ (K, len, I3, J, R)
        refine r_istore_n hC (lv' := [(3, .int x12_), (0, .ref a0), (1, .ref a1), (2, .int x2), (4, .int x3_4)]) dX2_fillByPlan_36 (by decide) rfl ?_
        refine r_aload_n hC dX2_fillByPlan_37 2 rfl ?_
        refine r_iload hC dX2_fillByPlan_38 4 rfl ?_
        refine r_iload_n hC dX2_fillByPlan_40 0 rfl ?_
        refine x_iastore hC ka1 na1 (by decide) rfl rfl dX2_fillByPlan_41 (by omega) (by omega) (fun I13 eI13 => ?_)
        have hs13 := hs3.put0 eI13 ka1 (rng_arr (by decide) _) rfl (xF_arr (by decide) _) (by decide)
        have hF13 := hF3.put eI13 ka1 (inS_arr rfl _)
        obtain ⟨x14_, e14⟩ : ∃ z : Int32, z = x3_4 + Int32.ofInt (1) := ⟨_, rfl⟩
        refine r_iinc hC (j := 4) (v := x14_) (lv' := [(4, .int x14_), (3, .int x12_), (0, .ref a0), (1, .ref a1), (2, .int x2)]) dX2_fillByPlan_42 rfl (by rw [e14]) (by decide) rfl ?_
        try have t14 : x14_.toInt = x3_4.toInt + (1) := by rw [e14]; exact (ti_add (b := Int32.ofInt (1)) (by show _ ≤ _ + (1 : Int); omega) (by show _ + (1 : Int) ≤ _; omega))
        refine r_goto hC (tgt := 8) dX2_fillByPlan_45 (by decide) ?_
        refine r_sub [2, 3, 4, 1, 0] rfl ?_
        exact ih3 ((60 - x14_.toInt).toNat) (by omega) x14_ x12_ I13 hs13 hF13 (by omega) (by omega) (by first | exact fun b k hb => rfl | exact fill_o v3_2 eI13) rfl
  refine r_sub [2, 3, 4, 1, 0] rfl ?_
  exact LP3 _ x2_ x1_ I hs hF (by omega) (by omega) (by first | exact fun b k hb => rfl | exact fill_o v3_2 eI) rfl
set_option maxHeartbeats 4000000 in
set_option maxRecDepth 100000 in
theorem o_X2_fillSteady (g : GG) (l : Launch) (K len : Nat → Nat) (I : Nat → Nat → Int32) (J : Nat → Nat → Int64) (R : Nat → Nat → Option Nat) (hs : Sf K len I R) (a0 : Nat) (ka0 : K a0 = 3) (a1 : Nat) (ka1 : K a1 = 41) (na1 : len a1 = 60) (x2 : Int32) : Ct g l yX2_fillSteady cX2_fillSteady 5 (Option.none : Option Jvm.ClassFile.FieldType) rmX2_fillSteady [.ref a0, .ref a1, .int x2] (K, len, I, J, R) (pV1 (K, len, I, J, R) (fun I' => Sf K len I' R ∧ Fr K [(41, 999)] I I' ∧ (∀ b k, b ≠ a1 → I' b k = I b k))) := by
  refine Ct_intro (by decide +kernel) (Nat.le_of_ble_eq_true rfl) (fun X hC hL hKK hNm hr hlk hQ => ?_)
  subst hL
  have hC : Cx g X cX2_fillSteady "HillTap$Lake" 5 rmX2_fillSteady := hC
  show P g X 5 0 [(0, .ref a0), (1, .ref a1), (2, .int x2)] [] 0 0 (K, len, I, J, R)
  have hF : Fr K [(41, 999)] I I := Fr.refl
  have b_x2 := ti_rng x2
  refine r_aload_n hC dX2_fillSteady_0 0 rfl ?_
  refine r_geti hC 1 (ci := 2) rfl u2_in (by decide) mT_1_119 dX2_fillSteady_1 ka0 rfl rfl (fun x1_ e1 => ?_)
  refine r_istore_n hC (lv' := [(3, .int x1_), (0, .ref a0), (1, .ref a1), (2, .int x2)]) dX2_fillSteady_4 (by decide) rfl ?_
  refine r_iconst hC (v := (0)) dX2_fillSteady_5 (by decide) (by decide) (fun x2_ e2 t2 => ?_)
  refine r_istore hC (lv' := [(4, .int x2_), (3, .int x1_), (0, .ref a0), (1, .ref a1), (2, .int x2)]) dX2_fillSteady_6 (by decide) rfl ?_
  have LP3 : ∀ (mu : Nat) (x3_4 : Int32) (x3_3 : Int32) (I3 : Nat → Nat → Int32) (hs3 : Sf K len I3 R) (hF3 : Fr K [(41, 999)] I I3) (v3_0 : 0 ≤ x3_4.toInt) (v3_1 : x3_4.toInt ≤ 60) (v3_2 : ∀ b k, b ≠ a1 → I3 b k = I b k), (60 - x3_4.toInt).toNat = mu → P g X 5 8 [(0, .ref a0), (1, .ref a1), (2, .int x2), (3, .int x3_3), (4, .int x3_4)] [] 0 0 (K, len, I3, J, R) := by
    intro mu; induction mu using Nat.strongRecOn with | ind mu ih => ?_
    intro x3_4 x3_3 I3 hs3 hF3 v3_0 v3_1 v3_2 hmu
    have ih3 := ih
    clear ih
    have hmu3 := hmu
    clear hmu
    refine r_iload hC dX2_fillSteady_8 4 rfl ?_
    refine r_bipush hC (v := (60)) dX2_fillSteady_10 (by decide) (by decide) (fun x4_ e4 t4 => ?_)
    refine r_icmp_ge hC (tgt := 33) dX2_fillSteady_12 (by decide) (fun c5 => ?_) (fun c5 => ?_)
    · exact r_vret hC hQ hlk hr (by decide) (by decide) dX2_fillSteady_33 ⟨_, rfl, rfl, ⟨hs3, hF3, (by exact v3_2)⟩⟩
    · refine r_aload_n hC dX2_fillSteady_15 0 rfl ?_
      refine r_iload_n hC dX2_fillSteady_16 2 rfl ?_
      refine r_iload_n hC dX2_fillSteady_17 3 rfl ?_
      refine r_callV hC (As := [.int x2, .int x3_3]) (rest := []) (ci := 2) (c_X2_towards g (xL X) K len I3 J R hs3 a0 ka0 x2 x3_3) mT_3_110 mT_1_6 mT_3_107 mT_3_109 mP_20 okX2_towards ⟨by decide, by decide⟩ rfl (by show kO (K a0) = _; rw [ka0]; rfl) rfl rfl (Nat.le_of_ble_eq_true rfl) ⟨by decide, by decide⟩ dX2_fillSteady_18 (aI0 (F := fun st M => P g X 5 21 [(0, .ref a0), (1, .ref a1), (2, .int x2), (3, .int x3_3), (4, .int x3_4)] st _ _ M) (M := (K, len, I3, J, R)) fun x6_ h6 => ?_)
      skip
      show P g X 5 21 [(0, .ref a0), (1, .ref a1), (2, .int x2), (3, .int x3_3), (4, .int x3_4)] [.int x6_] _ _ (K, len, I3, J, R)
      refine r_istore_n hC (lv' := [(3, .int x6_), (0, .ref a0), (1, .ref a1), (2, .int x2), (4, .int x3_4)]) dX2_fillSteady_21 (by decide) rfl ?_
      refine r_aload_n hC dX2_fillSteady_22 2 rfl ?_
      refine r_iload hC dX2_fillSteady_23 4 rfl ?_
      refine r_iload_n hC dX2_fillSteady_25 0 rfl ?_
      refine x_iastore hC ka1 na1 (by decide) rfl rfl dX2_fillSteady_26 (by omega) (by omega) (fun I7 eI7 => ?_)
      have hs7 := hs3.put0 eI7 ka1 (rng_arr (by decide) _) rfl (xF_arr (by decide) _) (by decide)
      have hF7 := hF3.put eI7 ka1 (inS_arr rfl _)
      obtain ⟨x8_, e8⟩ : ∃ z : Int32, z = x3_4 + Int32.ofInt (1) := ⟨_, rfl⟩
      refine r_iinc hC (j := 4) (v := x8_) (lv' := [(4, .int x8_), (3, .int x6_), (0, .ref a0), (1, .ref a1), (2, .int x2)]) dX2_fillSteady_27 rfl (by rw [e8]) (by decide) rfl ?_
      try have t8 : x8_.toInt = x3_4.toInt + (1) := by rw [e8]; exact (ti_add (b := Int32.ofInt (1)) (by show _ ≤ _ + (1 : Int); omega) (by show _ + (1 : Int) ≤ _; omega))
      refine r_goto hC (tgt := 8) dX2_fillSteady_30 (by decide) ?_
      refine r_sub [2, 3, 4, 1, 0] rfl ?_
      exact ih3 ((60 - x8_.toInt).toNat) (by omega) x8_ x6_ I7 hs7 hF7 (by omega) (by omega) (by first | exact fun b k hb => rfl | exact fill_o v3_2 eI7) rfl
  refine r_sub [2, 3, 4, 1, 0] rfl ?_
  exact LP3 _ x2_ x1_ I hs hF (by omega) (by omega) (by first | exact fun b k hb => rfl | exact fill_o v3_2 eI) rfl
set_option maxHeartbeats 4000000 in
set_option maxRecDepth 100000 in
theorem o_X8_staysIfDownFrom (g : GG) (l : Launch) (K len : Nat → Nat) (I : Nat → Nat → Int32) (J : Nat → Nat → Int64) (R : Nat → Nat → Option Nat) (hs : Sf K len I R) (a0 : Nat) (ka0 : K a0 = 9) (x1 : Int32) (x2 : Int32) (tl : Nat) (htl : R a0 7 = some tl) (ktl : K tl = 41) (ltl : len tl = 60) (p0 : 0 ≤ x1.toInt) (p1 : x1.toInt ≤ 5) : Ct g l yX8_staysIfDownFrom cX8_staysIfDownFrom 3 (Option.some Jvm.ClassFile.FieldType.boolean) rmX8_staysIfDownFrom [.ref a0, .int x1, .int x2] (K, len, I, J, R) (pI1 (K, len, I, J, R) (fun r I' => Sf K len I' R ∧ Fr K [(1, 5), (1, 6), (41, 999), (50, 999), (51, 999), (52, 999), (53, 999), (54, 999)] I I' ∧ (0 ≤ r.toInt) ∧ (r.toInt ≤ 1) ∧ (∀ b k, K b = 41 → b ≠ tl → I' b k = I b k))) := by
  refine Ct_intro (by decide +kernel) (Nat.le_of_ble_eq_true rfl) (fun X hC hL hKK hNm hr hlk hQ => ?_)
  subst hL
  have hC : Cx g X cX8_staysIfDownFrom "HillTap" 3 rmX8_staysIfDownFrom := hC
  show P g X 3 0 [(0, .ref a0), (1, .int x1), (2, .int x2)] [] 0 0 (K, len, I, J, R)
  have hF : Fr K [(1, 5), (1, 6), (41, 999), (50, 999), (51, 999), (52, 999), (53, 999), (54, 999)] I I := Fr.refl
  have b_x1 := ti_rng x1
  have b_x2 := ti_rng x2
  have lfz : ∀ b k, K b = 41 → b ≠ tl → I b k = I b k := fun _ _ _ _ => rfl
  refine r_aload_n hC dX8_staysIfDownFrom_0 0 rfl ?_
  obtain ⟨a1_, hb1, hk1⟩ := hs.obj ka0 2 2 (by decide)
  refine r_getr hC 2 (ci := 8) rfl u8_in (by decide) mT_2_80 dX8_staysIfDownFrom_1 ka0 rfl rfl hb1 ?_
  obtain ⟨a2_, hb2, hk2⟩ := hs.obj hk1 0 3 (by decide)
  refine r_getr hC 0 (ci := 1) rfl u1_in (by decide) mT_1_182 dX8_staysIfDownFrom_4 hk1 rfl rfl hb2 ?_
  refine r_aload_n hC dX8_staysIfDownFrom_7 0 rfl ?_
  refine r_getr hC 7 (ci := 8) rfl u8_in (by decide) mT_2_85 dX8_staysIfDownFrom_8 ka0 rfl rfl htl ?_
  refine r_iload_n hC dX8_staysIfDownFrom_11 2 rfl ?_
  refine r_callV hC (As := [.ref tl, .int x2]) (rest := []) (ci := 2) (o_X2_fillByPlan g (xL X) K len I J R hs a2_ hk2 tl ktl ltl x2) mT_3_101 mT_1_6 mT_3_98 mT_3_99 mT_3_100 okX2_fillByPlan ⟨by decide, by decide⟩ rfl (by show kO (K a2_) = _; rw [hk2]; rfl) rfl rfl (Nat.le_of_ble_eq_true rfl) ⟨by decide, by decide⟩ dX8_staysIfDownFrom_12 (aV1 (F := fun st M => P g X 3 15 [(0, .ref a0), (1, .int x1), (2, .int x2)] st _ _ M) (M := (K, len, I, J, R)) fun I3 h3 => ?_)
  obtain ⟨hs3, hf3, k3_0⟩ := h3
  show P g X 3 15 [(0, .ref a0), (1, .int x1), (2, .int x2)] [] _ _ (K, len, I3, J, R)
  have hF3 : Fr K [(1, 5), (1, 6), (41, 999), (50, 999), (51, 999), (52, 999), (53, 999), (54, 999)] I I3 := hF.trans hf3 rfl rfl
  have lf3 : ∀ b k, K b = 41 → b ≠ tl → I3 b k = I b k := fun b k z1 z2 => (k3_0 b k z2).trans (lfz b k z1 z2)
  refine r_aload_n hC dX8_staysIfDownFrom_15 0 rfl ?_
  obtain ⟨a4_, hb4, hk4⟩ := hs3.obj ka0 8 1 (by decide)
  refine r_getr hC 8 (ci := 8) rfl u8_in (by decide) mT_2_86 dX8_staysIfDownFrom_16 ka0 rfl rfl hb4 ?_
  refine r_aload_n hC dX8_staysIfDownFrom_19 0 rfl ?_
  refine r_getr hC 2 (ci := 8) rfl u8_in (by decide) mT_2_80 dX8_staysIfDownFrom_20 ka0 rfl rfl hb1 ?_
  refine r_aload_n hC dX8_staysIfDownFrom_23 0 rfl ?_
  refine r_getr hC 2 (ci := 8) rfl u8_in (by decide) mT_2_80 dX8_staysIfDownFrom_24 ka0 rfl rfl hb1 ?_
  obtain ⟨a5_, hb5, hk5, hn5⟩ := hs3.row hk1 7 45 6 (by decide) (by decide)
  refine r_getr hC 7 (ci := 1) rfl u1_in (by decide) mT_1_205 dX8_staysIfDownFrom_27 hk1 rfl rfl hb5 ?_
  refine r_iload_n hC dX8_staysIfDownFrom_30 1 rfl ?_
  obtain ⟨a6_, hb6, hk6⟩ := hs3.sto hk5 (i := x1) (by omega) (by omega)
  refine x_aaload (C := "HillTap$Story") hC hk5 hn5 (by decide) rfl (by decide) dX8_staysIfDownFrom_31 (by omega) (by omega) hb6 ?_
  refine r_aload_n hC dX8_staysIfDownFrom_32 0 rfl ?_
  refine r_getr hC 7 (ci := 8) rfl u8_in (by decide) mT_2_85 dX8_staysIfDownFrom_33 ka0 rfl rfl htl ?_
  refine r_iconst hC (v := (1)) dX8_staysIfDownFrom_36 (by decide) (by decide) (fun x7_ e7 t7 => ?_)
  refine r_callV hC (As := [.ref a1_, .ref a6_, .ref tl, .int x7_]) (rest := []) (ci := 0) (c_X0_follow g (xL X) K len I3 J R hs3 a4_ hk4 a1_ hk1 a6_ hk6 tl ktl ltl x7_) mT_3_167 mT_1_8 mT_3_164 mT_3_165 mT_3_166 okX0_follow ⟨by decide, by decide⟩ rfl (by show kO (K a4_) = _; rw [hk4]; rfl) rfl rfl (Nat.le_of_ble_eq_true rfl) ⟨by decide, by decide⟩ dX8_staysIfDownFrom_37 (aV1 (F := fun st M => P g X 3 40 [(0, .ref a0), (1, .int x1), (2, .int x2)] st _ _ M) (M := (K, len, I3, J, R)) fun I8 h8 => ?_)
  obtain ⟨hs8, hf8⟩ := h8
  show P g X 3 40 [(0, .ref a0), (1, .int x1), (2, .int x2)] [] _ _ (K, len, I8, J, R)
  have hF8 : Fr K [(1, 5), (1, 6), (41, 999), (50, 999), (51, 999), (52, 999), (53, 999), (54, 999)] I I8 := hF3.trans hf8 rfl rfl
  have lf8 : ∀ b k, K b = 41 → b ≠ tl → I8 b k = I b k := fun b k z1 z2 => (hf8.get z1 rfl).trans (lf3 b k z1 z2)
  refine r_aload_n hC dX8_staysIfDownFrom_40 0 rfl ?_
  refine r_getr hC 8 (ci := 8) rfl u8_in (by decide) mT_2_86 dX8_staysIfDownFrom_41 ka0 rfl rfl hb4 ?_
  refine r_geti hC 5 (ci := 0) rfl u0_in (by decide) mT_2_36 dX8_staysIfDownFrom_44 hk4 rfl rfl (fun x9_ e9 => ?_)
  refine r_bipush hC (v := (-2)) dX8_staysIfDownFrom_47 (by decide) (by decide) (fun x10_ e10 t10 => ?_)
  refine r_icmp_ne hC (tgt := 56) dX8_staysIfDownFrom_49 (by decide) (fun c11 => ?_) (fun c11 => ?_)
  · refine r_iconst hC (v := (0)) dX8_staysIfDownFrom_56 (by decide) (by decide) (fun x12_ e12 t12 => ?_)
    exact r_iret hC hQ hlk hr (by rw [e12]; rfl) (by decide) (by decide) dX8_staysIfDownFrom_57 ⟨_, _, rfl, rfl, ⟨hs8, hF8, (by omega), (by omega), (by exact lf8)⟩⟩
  · refine r_iconst hC (v := (1)) dX8_staysIfDownFrom_52 (by decide) (by decide) (fun x13_ e13 t13 => ?_)
    refine r_goto hC (tgt := 57) dX8_staysIfDownFrom_53 (by decide) ?_
    exact r_iret hC hQ hlk hr (by rw [e13]; rfl) (by decide) (by decide) dX8_staysIfDownFrom_57 ⟨_, _, rfl, rfl, ⟨hs8, hF8, (by omega), (by omega), (by exact lf8)⟩⟩
set_option maxHeartbeats 4000000 in
set_option maxRecDepth 100000 in
theorem o_X8_staysIfSteady (g : GG) (l : Launch) (K len : Nat → Nat) (I : Nat → Nat → Int32) (J : Nat → Nat → Int64) (R : Nat → Nat → Option Nat) (hs : Sf K len I R) (a0 : Nat) (ka0 : K a0 = 9) (x1 : Int32) (x2 : Int32) (tl : Nat) (htl : R a0 7 = some tl) (ktl : K tl = 41) (ltl : len tl = 60) (p0 : 0 ≤ x1.toInt) (p1 : x1.toInt ≤ 5) : Ct g l yX8_staysIfSteady cX8_staysIfSteady 3 (Option.some Jvm.ClassFile.FieldType.boolean) rmX8_staysIfSteady [.ref a0, .int x1, .int x2] (K, len, I, J, R) (pI1 (K, len, I, J, R) (fun r I' => Sf K len I' R ∧ Fr K [(1, 5), (1, 6), (41, 999), (50, 999), (51, 999), (52, 999), (53, 999), (54, 999)] I I' ∧ (0 ≤ r.toInt) ∧ (r.toInt ≤ 1) ∧ (∀ b k, K b = 41 → b ≠ tl → I' b k = I b k))) := by
  refine Ct_intro (by decide +kernel) (Nat.le_of_ble_eq_true rfl) (fun X hC hL hKK hNm hr hlk hQ => ?_)
  subst hL
  have hC : Cx g X cX8_staysIfSteady "HillTap" 3 rmX8_staysIfSteady := hC
  show P g X 3 0 [(0, .ref a0), (1, .int x1), (2, .int x2)] [] 0 0 (K, len, I, J, R)
  have hF : Fr K [(1, 5), (1, 6), (41, 999), (50, 999), (51, 999), (52, 999), (53, 999), (54, 999)] I I := Fr.refl
  have b_x1 := ti_rng x1
  have b_x2 := ti_rng x2
  have lfz : ∀ b k, K b = 41 → b ≠ tl → I b k = I b k := fun _ _ _ _ => rfl
  refine r_aload_n hC dX8_staysIfSteady_0 0 rfl ?_
  obtain ⟨a1_, hb1, hk1⟩ := hs.obj ka0 2 2 (by decide)
  refine r_getr hC 2 (ci := 8) rfl u8_in (by decide) mT_2_80 dX8_staysIfSteady_1 ka0 rfl rfl hb1 ?_
  obtain ⟨a2_, hb2, hk2⟩ := hs.obj hk1 0 3 (by decide)
  refine r_getr hC 0 (ci := 1) rfl u1_in (by decide) mT_1_182 dX8_staysIfSteady_4 hk1 rfl rfl hb2 ?_
  refine r_aload_n hC dX8_staysIfSteady_7 0 rfl ?_
  refine r_getr hC 7 (ci := 8) rfl u8_in (by decide) mT_2_85 dX8_staysIfSteady_8 ka0 rfl rfl htl ?_
  refine r_iload_n hC dX8_staysIfSteady_11 2 rfl ?_
  refine r_callV hC (As := [.ref tl, .int x2]) (rest := []) (ci := 2) (o_X2_fillSteady g (xL X) K len I J R hs a2_ hk2 tl ktl ltl x2) mT_4_90 mT_1_6 mT_4_87 mT_4_88 mT_4_89 okX2_fillSteady ⟨by decide, by decide⟩ rfl (by show kO (K a2_) = _; rw [hk2]; rfl) rfl rfl (Nat.le_of_ble_eq_true rfl) ⟨by decide, by decide⟩ dX8_staysIfSteady_12 (aV1 (F := fun st M => P g X 3 15 [(0, .ref a0), (1, .int x1), (2, .int x2)] st _ _ M) (M := (K, len, I, J, R)) fun I3 h3 => ?_)
  obtain ⟨hs3, hf3, k3_0⟩ := h3
  show P g X 3 15 [(0, .ref a0), (1, .int x1), (2, .int x2)] [] _ _ (K, len, I3, J, R)
  have hF3 : Fr K [(1, 5), (1, 6), (41, 999), (50, 999), (51, 999), (52, 999), (53, 999), (54, 999)] I I3 := hF.trans hf3 rfl rfl
  have lf3 : ∀ b k, K b = 41 → b ≠ tl → I3 b k = I b k := fun b k z1 z2 => (k3_0 b k z2).trans (lfz b k z1 z2)
  refine r_aload_n hC dX8_staysIfSteady_15 0 rfl ?_
  obtain ⟨a4_, hb4, hk4⟩ := hs3.obj ka0 8 1 (by decide)
  refine r_getr hC 8 (ci := 8) rfl u8_in (by decide) mT_2_86 dX8_staysIfSteady_16 ka0 rfl rfl hb4 ?_
  refine r_aload_n hC dX8_staysIfSteady_19 0 rfl ?_
  refine r_getr hC 2 (ci := 8) rfl u8_in (by decide) mT_2_80 dX8_staysIfSteady_20 ka0 rfl rfl hb1 ?_
  refine r_aload_n hC dX8_staysIfSteady_23 0 rfl ?_
  refine r_getr hC 2 (ci := 8) rfl u8_in (by decide) mT_2_80 dX8_staysIfSteady_24 ka0 rfl rfl hb1 ?_
  obtain ⟨a5_, hb5, hk5, hn5⟩ := hs3.row hk1 7 45 6 (by decide) (by decide)
  refine r_getr hC 7 (ci := 1) rfl u1_in (by decide) mT_1_205 dX8_staysIfSteady_27 hk1 rfl rfl hb5 ?_
  refine r_iload_n hC dX8_staysIfSteady_30 1 rfl ?_
  obtain ⟨a6_, hb6, hk6⟩ := hs3.sto hk5 (i := x1) (by omega) (by omega)
  refine x_aaload (C := "HillTap$Story") hC hk5 hn5 (by decide) rfl (by decide) dX8_staysIfSteady_31 (by omega) (by omega) hb6 ?_
  refine r_aload_n hC dX8_staysIfSteady_32 0 rfl ?_
  refine r_getr hC 7 (ci := 8) rfl u8_in (by decide) mT_2_85 dX8_staysIfSteady_33 ka0 rfl rfl htl ?_
  refine r_iconst hC (v := (1)) dX8_staysIfSteady_36 (by decide) (by decide) (fun x7_ e7 t7 => ?_)
  refine r_callV hC (As := [.ref a1_, .ref a6_, .ref tl, .int x7_]) (rest := []) (ci := 0) (c_X0_follow g (xL X) K len I3 J R hs3 a4_ hk4 a1_ hk1 a6_ hk6 tl ktl ltl x7_) mT_3_167 mT_1_8 mT_3_164 mT_3_165 mT_3_166 okX0_follow ⟨by decide, by decide⟩ rfl (by show kO (K a4_) = _; rw [hk4]; rfl) rfl rfl (Nat.le_of_ble_eq_true rfl) ⟨by decide, by decide⟩ dX8_staysIfSteady_37 (aV1 (F := fun st M => P g X 3 40 [(0, .ref a0), (1, .int x1), (2, .int x2)] st _ _ M) (M := (K, len, I3, J, R)) fun I8 h8 => ?_)
  obtain ⟨hs8, hf8⟩ := h8
  show P g X 3 40 [(0, .ref a0), (1, .int x1), (2, .int x2)] [] _ _ (K, len, I8, J, R)
  have hF8 : Fr K [(1, 5), (1, 6), (41, 999), (50, 999), (51, 999), (52, 999), (53, 999), (54, 999)] I I8 := hF3.trans hf8 rfl rfl
  have lf8 : ∀ b k, K b = 41 → b ≠ tl → I8 b k = I b k := fun b k z1 z2 => (hf8.get z1 rfl).trans (lf3 b k z1 z2)
  refine r_aload_n hC dX8_staysIfSteady_40 0 rfl ?_
  refine r_getr hC 8 (ci := 8) rfl u8_in (by decide) mT_2_86 dX8_staysIfSteady_41 ka0 rfl rfl hb4 ?_
  refine r_geti hC 5 (ci := 0) rfl u0_in (by decide) mT_2_36 dX8_staysIfSteady_44 hk4 rfl rfl (fun x9_ e9 => ?_)
  refine r_bipush hC (v := (-2)) dX8_staysIfSteady_47 (by decide) (by decide) (fun x10_ e10 t10 => ?_)
  refine r_icmp_ne hC (tgt := 56) dX8_staysIfSteady_49 (by decide) (fun c11 => ?_) (fun c11 => ?_)
  · refine r_iconst hC (v := (0)) dX8_staysIfSteady_56 (by decide) (by decide) (fun x12_ e12 t12 => ?_)
    exact r_iret hC hQ hlk hr (by rw [e12]; rfl) (by decide) (by decide) dX8_staysIfSteady_57 ⟨_, _, rfl, rfl, ⟨hs8, hF8, (by omega), (by omega), (by exact lf8)⟩⟩
  · refine r_iconst hC (v := (1)) dX8_staysIfSteady_52 (by decide) (by decide) (fun x13_ e13 t13 => ?_)
    refine r_goto hC (tgt := 57) dX8_staysIfSteady_53 (by decide) ?_
    exact r_iret hC hQ hlk hr (by rw [e13]; rfl) (by decide) (by decide) dX8_staysIfSteady_57 ⟨_, _, rfl, rfl, ⟨hs8, hF8, (by omega), (by omega), (by exact lf8)⟩⟩
set_option maxHeartbeats 4000000 in
set_option maxRecDepth 100000 in
theorem o_X8_helps (g : GG) (l : Launch) (K len : Nat → Nat) (I : Nat → Nat → Int32) (J : Nat → Nat → Int64) (R : Nat → Nat → Option Nat) (hs : Sf K len I R) (a0 : Nat) (ka0 : K a0 = 9) (x1 : Int32) (x2 : Int32) (tl : Nat) (htl : R a0 7 = some tl) (ktl : K tl = 41) (ltl : len tl = 60) : Ct g l yX8_helps cX8_helps 3 (Option.some Jvm.ClassFile.FieldType.int) rmX8_helps [.ref a0, .int x1, .int x2] (K, len, I, J, R) (pI1 (K, len, I, J, R) (fun r I' => Sf K len I' R ∧ Fr K [(1, 5), (1, 6), (9, 12), (41, 999), (50, 999), (51, 999), (52, 999), (53, 999), (54, 999)] I I' ∧ (∀ b k, K b = 41 → b ≠ tl → I' b k = I b k) ∧ ((I' a0 12).toInt ≠ 4))) := by
  refine Ct_intro (by decide +kernel) (Nat.le_of_ble_eq_true rfl) (fun X hC hL hKK hNm hr hlk hQ => ?_)
  subst hL
  have hC : Cx g X cX8_helps "HillTap" 3 rmX8_helps := hC
  show P g X 3 0 [(0, .ref a0), (1, .int x1), (2, .int x2)] [] 0 0 (K, len, I, J, R)
  have hF : Fr K [(1, 5), (1, 6), (9, 12), (41, 999), (50, 999), (51, 999), (52, 999), (53, 999), (54, 999)] I I := Fr.refl
  have b_x1 := ti_rng x1
  have b_x2 := ti_rng x2
  have lfz : ∀ b k, K b = 41 → b ≠ tl → I b k = I b k := fun _ _ _ _ => rfl
  refine r_aload_n hC dX8_helps_0 0 rfl ?_
  refine r_iload_n hC dX8_helps_1 1 rfl ?_
  refine r_callV hC (As := [.int x1]) (rest := []) (ci := 8) (c_X8_isStory g (xL X) K len I J R hs a0 ka0 x1) mT_3_155 mT_1_1 mT_3_152 mT_3_154 mP_24 okX8_isStory ⟨by decide, by decide⟩ rfl (by show kO (K a0) = _; rw [ka0]; rfl) rfl rfl (Nat.le_of_ble_eq_true rfl) ⟨by decide, by decide⟩ dX8_helps_2 (aI0 (F := fun st M => P g X 3 5 [(0, .ref a0), (1, .int x1), (2, .int x2)] st _ _ M) (M := (K, len, I, J, R)) fun x1_ h1 => ?_)
  obtain ⟨k1_0, k1_1, k1_2⟩ := h1
  show P g X 3 5 [(0, .ref a0), (1, .int x1), (2, .int x2)] [.int x1_] _ _ (K, len, I, J, R)
  refine r_if_eq hC (tgt := 15) dX8_helps_5 (by decide) (fun c2 => ?_) (fun c2 => ?_)
  · refine r_aload_n hC dX8_helps_15 0 rfl ?_
    refine r_iconst hC (v := (1)) dX8_helps_16 (by decide) (by decide) (fun x3_ e3 t3 => ?_)
    refine r_callV hC (As := [.int x3_]) (rest := []) (ci := 8) (c_X8_refuse g (xL X) K len I J R hs a0 ka0 x3_) mT_2_133 mT_1_1 mT_2_130 mT_2_132 mP_0 okX8_refuse ⟨by decide, by decide⟩ rfl (by show kO (K a0) = _; rw [ka0]; rfl) rfl rfl (Nat.le_of_ble_eq_true rfl) ⟨by decide, by decide⟩ dX8_helps_17 (aI1 (F := fun st M => P g X 3 20 [(0, .ref a0), (1, .int x1), (2, .int x2)] st _ _ M) (M := (K, len, I, J, R)) fun x4_ I4 h4 => ?_)
    obtain ⟨hs4, hf4, k4_0, k4_1⟩ := h4
    show P g X 3 20 [(0, .ref a0), (1, .int x1), (2, .int x2)] [.int x4_] _ _ (K, len, I4, J, R)
    have hF4 : Fr K [(1, 5), (1, 6), (9, 12), (41, 999), (50, 999), (51, 999), (52, 999), (53, 999), (54, 999)] I I4 := hF.trans hf4 rfl rfl
    have lf4 : ∀ b k, K b = 41 → b ≠ tl → I4 b k = I b k := fun b k z1 z2 => (hf4.get z1 rfl).trans (lfz b k z1 z2)
    exact r_iret hC hQ hlk hr rfl (by decide) (by decide) dX8_helps_20 ⟨_, _, rfl, rfl, ⟨hs4, hF4, (by exact lf4), (by omega)⟩⟩
  · refine r_iload_n hC dX8_helps_8 2 rfl ?_
    refine r_callS hC (As := [.int x2]) (rest := []) (c_X8_isDay g (xL X) K len I J R hs x2) mT_3_134 mT_1_1 mT_3_132 mT_3_133 okX8_isDay ⟨by decide, by decide⟩ rfl rfl (Nat.le_of_ble_eq_true rfl) ⟨by decide, by decide⟩ dX8_helps_9 (aI0 (F := fun st M => P g X 3 12 [(0, .ref a0), (1, .int x1), (2, .int x2)] st _ _ M) (M := (K, len, I, J, R)) fun x5_ h5 => ?_)
    obtain ⟨k5_0, k5_1, k5_2⟩ := h5
    show P g X 3 12 [(0, .ref a0), (1, .int x1), (2, .int x2)] [.int x5_] _ _ (K, len, I, J, R)
    refine r_if_ne hC (tgt := 21) dX8_helps_12 (by decide) (fun c6 => ?_) (fun c6 => ?_)
    · refine r_aload_n hC dX8_helps_21 0 rfl ?_
      refine r_aload_n hC dX8_helps_22 0 rfl ?_
      refine r_iload_n hC dX8_helps_23 1 rfl ?_
      refine r_iload_n hC dX8_helps_24 2 rfl ?_
      refine r_callV hC (As := [.int x1, .int x2]) (rest := [.ref a0]) (ci := 8) (o_X8_staysIfDownFrom g (xL X) K len I J R hs a0 ka0 x1 x2 tl htl ktl ltl (by omega) (by omega)) mT_4_74 mT_1_1 mT_4_71 mT_4_73 mP_41 okX8_staysIfDownFrom ⟨by decide, by decide⟩ rfl (by show kO (K a0) = _; rw [ka0]; rfl) rfl rfl (Nat.le_of_ble_eq_true rfl) ⟨by decide, by decide⟩ dX8_helps_25 (aI1 (F := fun st M => P g X 3 28 [(0, .ref a0), (1, .int x1), (2, .int x2)] st _ _ M) (M := (K, len, I, J, R)) fun x7_ I7 h7 => ?_)
      obtain ⟨hs7, hf7, k7_0, k7_1, k7_2⟩ := h7
      show P g X 3 28 [(0, .ref a0), (1, .int x1), (2, .int x2)] [.int x7_, .ref a0] _ _ (K, len, I7, J, R)
      have hF7 : Fr K [(1, 5), (1, 6), (9, 12), (41, 999), (50, 999), (51, 999), (52, 999), (53, 999), (54, 999)] I I7 := hF.trans hf7 rfl rfl
      have lf7 : ∀ b k, K b = 41 → b ≠ tl → I7 b k = I b k := fun b k z1 z2 => (k7_2 b k z1 z2).trans (lfz b k z1 z2)
      refine r_if_eq hC (tgt := 35) dX8_helps_28 (by decide) (fun c8 => ?_) (fun c8 => ?_)
      · refine r_iconst hC (v := (0)) dX8_helps_35 (by decide) (by decide) (fun x9_ e9 t9 => ?_)
        refine r_callV hC (As := [.int x9_]) (rest := []) (ci := 8) (c_X8_answer g (xL X) K len I7 J R hs7 a0 ka0 x9_) mT_3_115 mT_1_1 mT_3_112 mT_3_114 mP_21 okX8_answer ⟨by decide, by decide⟩ rfl (by show kO (K a0) = _; rw [ka0]; rfl) rfl rfl (Nat.le_of_ble_eq_true rfl) ⟨by decide, by decide⟩ dX8_helps_36 (aI1 (F := fun st M => P g X 3 39 [(0, .ref a0), (1, .int x1), (2, .int x2)] st _ _ M) (M := (K, len, I7, J, R)) fun x10_ I10 h10 => ?_)
        obtain ⟨hs10, hf10, k10_0, k10_1⟩ := h10
        show P g X 3 39 [(0, .ref a0), (1, .int x1), (2, .int x2)] [.int x10_] _ _ (K, len, I10, J, R)
        have hF10 : Fr K [(1, 5), (1, 6), (9, 12), (41, 999), (50, 999), (51, 999), (52, 999), (53, 999), (54, 999)] I I10 := hF7.trans hf10 rfl rfl
        have lf10 : ∀ b k, K b = 41 → b ≠ tl → I10 b k = I b k := fun b k z1 z2 => (hf10.get z1 rfl).trans (lf7 b k z1 z2)
        exact r_iret hC hQ hlk hr rfl (by decide) (by decide) dX8_helps_39 ⟨_, _, rfl, rfl, ⟨hs10, hF10, (by exact lf10), (by omega)⟩⟩
      · refine r_iconst hC (v := (1)) dX8_helps_31 (by decide) (by decide) (fun x11_ e11 t11 => ?_)
        refine r_goto hC (tgt := 36) dX8_helps_32 (by decide) ?_
        refine r_callV hC (As := [.int x11_]) (rest := []) (ci := 8) (c_X8_answer g (xL X) K len I7 J R hs7 a0 ka0 x11_) mT_3_115 mT_1_1 mT_3_112 mT_3_114 mP_21 okX8_answer ⟨by decide, by decide⟩ rfl (by show kO (K a0) = _; rw [ka0]; rfl) rfl rfl (Nat.le_of_ble_eq_true rfl) ⟨by decide, by decide⟩ dX8_helps_36 (aI1 (F := fun st M => P g X 3 39 [(0, .ref a0), (1, .int x1), (2, .int x2)] st _ _ M) (M := (K, len, I7, J, R)) fun x12_ I12 h12 => ?_)
        obtain ⟨hs12, hf12, k12_0, k12_1⟩ := h12
        show P g X 3 39 [(0, .ref a0), (1, .int x1), (2, .int x2)] [.int x12_] _ _ (K, len, I12, J, R)
        have hF12 : Fr K [(1, 5), (1, 6), (9, 12), (41, 999), (50, 999), (51, 999), (52, 999), (53, 999), (54, 999)] I I12 := hF7.trans hf12 rfl rfl
        have lf12 : ∀ b k, K b = 41 → b ≠ tl → I12 b k = I b k := fun b k z1 z2 => (hf12.get z1 rfl).trans (lf7 b k z1 z2)
        exact r_iret hC hQ hlk hr rfl (by decide) (by decide) dX8_helps_39 ⟨_, _, rfl, rfl, ⟨hs12, hF12, (by exact lf12), (by omega)⟩⟩
    · refine r_aload_n hC dX8_helps_15 0 rfl ?_
      refine r_iconst hC (v := (1)) dX8_helps_16 (by decide) (by decide) (fun x13_ e13 t13 => ?_)
      refine r_callV hC (As := [.int x13_]) (rest := []) (ci := 8) (c_X8_refuse g (xL X) K len I J R hs a0 ka0 x13_) mT_2_133 mT_1_1 mT_2_130 mT_2_132 mP_0 okX8_refuse ⟨by decide, by decide⟩ rfl (by show kO (K a0) = _; rw [ka0]; rfl) rfl rfl (Nat.le_of_ble_eq_true rfl) ⟨by decide, by decide⟩ dX8_helps_17 (aI1 (F := fun st M => P g X 3 20 [(0, .ref a0), (1, .int x1), (2, .int x2)] st _ _ M) (M := (K, len, I, J, R)) fun x14_ I14 h14 => ?_)
      obtain ⟨hs14, hf14, k14_0, k14_1⟩ := h14
      show P g X 3 20 [(0, .ref a0), (1, .int x1), (2, .int x2)] [.int x14_] _ _ (K, len, I14, J, R)
      have hF14 : Fr K [(1, 5), (1, 6), (9, 12), (41, 999), (50, 999), (51, 999), (52, 999), (53, 999), (54, 999)] I I14 := hF.trans hf14 rfl rfl
      have lf14 : ∀ b k, K b = 41 → b ≠ tl → I14 b k = I b k := fun b k z1 z2 => (hf14.get z1 rfl).trans (lfz b k z1 z2)
      exact r_iret hC hQ hlk hr rfl (by decide) (by decide) dX8_helps_20 ⟨_, _, rfl, rfl, ⟨hs14, hF14, (by exact lf14), (by omega)⟩⟩
set_option maxHeartbeats 4000000 in
set_option maxRecDepth 100000 in
theorem o_X8_last (g : GG) (l : Launch) (K len : Nat → Nat) (I : Nat → Nat → Int32) (J : Nat → Nat → Int64) (R : Nat → Nat → Option Nat) (hs : Sf K len I R) (a0 : Nat) (ka0 : K a0 = 9) (x1 : Int32) (tl : Nat) (htl : R a0 7 = some tl) (ktl : K tl = 41) (ltl : len tl = 60) : Ct g l yX8_last cX8_last 6 (Option.some Jvm.ClassFile.FieldType.int) rmX8_last [.ref a0, .int x1] (K, len, I, J, R) (pI1 (K, len, I, J, R) (fun r I' => Sf K len I' R ∧ Fr K [(1, 5), (1, 6), (9, 12), (41, 999), (50, 999), (51, 999), (52, 999), (53, 999), (54, 999)] I I' ∧ (∀ b k, K b = 41 → b ≠ tl → I' b k = I b k) ∧ ((I' a0 12).toInt ≠ 4))) := by
  refine Ct_intro (by decide +kernel) (Nat.le_of_ble_eq_true rfl) (fun X hC hL hKK hNm hr hlk hQ => ?_)
  subst hL
  have hC : Cx g X cX8_last "HillTap" 6 rmX8_last := hC
  show P g X 6 0 [(0, .ref a0), (1, .int x1)] [] 0 0 (K, len, I, J, R)
  have hF : Fr K [(1, 5), (1, 6), (9, 12), (41, 999), (50, 999), (51, 999), (52, 999), (53, 999), (54, 999)] I I := Fr.refl
  have b_x1 := ti_rng x1
  have lfz : ∀ b k, K b = 41 → b ≠ tl → I b k = I b k := fun _ _ _ _ => rfl
  refine r_aload_n hC dX8_last_0 0 rfl ?_
  refine r_iload_n hC dX8_last_1 1 rfl ?_
  refine r_callV hC (As := [.int x1]) (rest := []) (ci := 8) (c_X8_isStory g (xL X) K len I J R hs a0 ka0 x1) mT_3_155 mT_1_1 mT_3_152 mT_3_154 mP_24 okX8_isStory ⟨by decide, by decide⟩ rfl (by show kO (K a0) = _; rw [ka0]; rfl) rfl rfl (Nat.le_of_ble_eq_true rfl) ⟨by decide, by decide⟩ dX8_last_2 (aI0 (F := fun st M => P g X 6 5 [(0, .ref a0), (1, .int x1)] st _ _ M) (M := (K, len, I, J, R)) fun x1_ h1 => ?_)
  obtain ⟨k1_0, k1_1, k1_2⟩ := h1
  show P g X 6 5 [(0, .ref a0), (1, .int x1)] [.int x1_] _ _ (K, len, I, J, R)
  refine r_if_ne hC (tgt := 14) dX8_last_5 (by decide) (fun c2 => ?_) (fun c2 => ?_)
  · refine r_iconst hC (v := (-1)) dX8_last_14 (by decide) (by decide) (fun x3_ e3 t3 => ?_)
    refine r_istore_n hC (lv' := [(2, .int x3_), (0, .ref a0), (1, .int x1)]) dX8_last_15 (by decide) rfl ?_
    refine r_bipush hC (v := (59)) dX8_last_16 (by decide) (by decide) (fun x4_ e4 t4 => ?_)
    refine r_istore_n hC (lv' := [(3, .int x4_), (2, .int x3_), (0, .ref a0), (1, .int x1)]) dX8_last_18 (by decide) rfl ?_
    refine r_iconst hC (v := (0)) dX8_last_19 (by decide) (by decide) (fun x5_ e5 t5 => ?_)
    refine r_istore hC (lv' := [(4, .int x5_), (3, .int x4_), (2, .int x3_), (0, .ref a0), (1, .int x1)]) dX8_last_20 (by decide) rfl ?_
    have LP6 : ∀ (mu : Nat) (x6_4 : Int32) (x6_3 : Int32) (x6_2 : Int32) (I6 : Nat → Nat → Int32) (hs6 : Sf K len I6 R) (hF6 : Fr K [(1, 5), (1, 6), (9, 12), (41, 999), (50, 999), (51, 999), (52, 999), (53, 999), (54, 999)] I I6) (v6_0 : 0 ≤ x6_4.toInt) (v6_1 : x6_4.toInt ≤ 60) (v6_2 : ∀ b k, K b = 41 → b ≠ tl → I6 b k = I b k), (60 - x6_4.toInt).toNat = mu → P g X 6 22 [(0, .ref a0), (1, .int x1), (2, .int x6_2), (3, .int x6_3), (4, .int x6_4)] [] 0 0 (K, len, I6, J, R) := by
      intro mu; induction mu using Nat.strongRecOn with | ind mu ih => ?_
      intro x6_4 x6_3 x6_2 I6 hs6 hF6 v6_0 v6_1 v6_2 hmu
      have ih6 := ih
      clear ih
      have hmu6 := hmu
      clear hmu
      refine r_iload hC dX8_last_22 4 rfl ?_
      refine r_bipush hC (v := (60)) dX8_last_24 (by decide) (by decide) (fun x7_ e7 t7 => ?_)
      refine r_icmp_ge hC (tgt := 70) dX8_last_26 (by decide) (fun c8 => ?_) (fun c8 => ?_)
      · refine r_aload_n hC dX8_last_70 0 rfl ?_
        refine r_iload_n hC dX8_last_71 2 rfl ?_
        refine r_iconst hC (v := (-1)) dX8_last_72 (by decide) (by decide) (fun x9_ e9 t9 => ?_)
        refine r_icmp_ne hC (tgt := 81) dX8_last_73 (by decide) (fun c10 => ?_) (fun c10 => ?_)
        · refine r_iload_n hC dX8_last_81 2 rfl ?_
          refine r_callV hC (As := [.int x6_2]) (rest := []) (ci := 8) (c_X8_answer g (xL X) K len I6 J R hs6 a0 ka0 x6_2) mT_3_115 mT_1_1 mT_3_112 mT_3_114 mP_21 okX8_answer ⟨by decide, by decide⟩ rfl (by show kO (K a0) = _; rw [ka0]; rfl) rfl rfl (Nat.le_of_ble_eq_true rfl) ⟨by decide, by decide⟩ dX8_last_82 (aI1 (F := fun st M => P g X 6 85 [(0, .ref a0), (1, .int x1), (2, .int x6_2), (3, .int x6_3), (4, .int x6_4)] st _ _ M) (M := (K, len, I6, J, R)) fun x11_ I11 h11 => ?_)
          obtain ⟨hs11, hf11, k11_0, k11_1⟩ := h11
          show P g X 6 85 [(0, .ref a0), (1, .int x1), (2, .int x6_2), (3, .int x6_3), (4, .int x6_4)] [.int x11_] _ _ (K, len, I11, J, R)
          have hF11 : Fr K [(1, 5), (1, 6), (9, 12), (41, 999), (50, 999), (51, 999), (52, 999), (53, 999), (54, 999)] I I11 := hF6.trans hf11 rfl rfl
          have lf11 : ∀ b k, K b = 41 → b ≠ tl → I11 b k = I b k := fun b k z1 z2 => (hf11.get z1 rfl).trans (v6_2 b k z1 z2)
          exact r_iret hC hQ hlk hr rfl (by decide) (by decide) dX8_last_85 ⟨_, _, rfl, rfl, ⟨hs11, hF11, (by exact lf11), (by omega)⟩⟩
        · refine r_bipush hC (v := (-2)) dX8_last_76 (by decide) (by decide) (fun x12_ e12 t12 => ?_)
          refine r_goto hC (tgt := 82) dX8_last_78 (by decide) ?_
          refine r_callV hC (As := [.int x12_]) (rest := []) (ci := 8) (c_X8_answer g (xL X) K len I6 J R hs6 a0 ka0 x12_) mT_3_115 mT_1_1 mT_3_112 mT_3_114 mP_21 okX8_answer ⟨by decide, by decide⟩ rfl (by show kO (K a0) = _; rw [ka0]; rfl) rfl rfl (Nat.le_of_ble_eq_true rfl) ⟨by decide, by decide⟩ dX8_last_82 (aI1 (F := fun st M => P g X 6 85 [(0, .ref a0), (1, .int x1), (2, .int x6_2), (3, .int x6_3), (4, .int x6_4)] st _ _ M) (M := (K, len, I6, J, R)) fun x13_ I13 h13 => ?_)
          obtain ⟨hs13, hf13, k13_0, k13_1⟩ := h13
          show P g X 6 85 [(0, .ref a0), (1, .int x1), (2, .int x6_2), (3, .int x6_3), (4, .int x6_4)] [.int x13_] _ _ (K, len, I13, J, R)
          have hF13 : Fr K [(1, 5), (1, 6), (9, 12), (41, 999), (50, 999), (51, 999), (52, 999), (53, 999), (54, 999)] I I13 := hF6.trans hf13 rfl rfl
          have lf13 : ∀ b k, K b = 41 → b ≠ tl → I13 b k = I b k := fun b k z1 z2 => (hf13.get z1 rfl).trans (v6_2 b k z1 z2)
          exact r_iret hC hQ hlk hr rfl (by decide) (by decide) dX8_last_85 ⟨_, _, rfl, rfl, ⟨hs13, hF13, (by exact lf13), (by omega)⟩⟩
      · refine r_iload_n hC dX8_last_29 2 rfl ?_
        refine r_iload_n hC dX8_last_30 3 rfl ?_
        refine r_icmp_ge hC (tgt := 70) dX8_last_31 (by decide) (fun c14 => ?_) (fun c14 => ?_)
        · refine r_aload_n hC dX8_last_70 0 rfl ?_
          refine r_iload_n hC dX8_last_71 2 rfl ?_
          refine r_iconst hC (v := (-1)) dX8_last_72 (by decide) (by decide) (fun x15_ e15 t15 => ?_)
          refine r_icmp_ne hC (tgt := 81) dX8_last_73 (by decide) (fun c16 => ?_) (fun c16 => ?_)
          · refine r_iload_n hC dX8_last_81 2 rfl ?_
            refine r_callV hC (As := [.int x6_2]) (rest := []) (ci := 8) (c_X8_answer g (xL X) K len I6 J R hs6 a0 ka0 x6_2) mT_3_115 mT_1_1 mT_3_112 mT_3_114 mP_21 okX8_answer ⟨by decide, by decide⟩ rfl (by show kO (K a0) = _; rw [ka0]; rfl) rfl rfl (Nat.le_of_ble_eq_true rfl) ⟨by decide, by decide⟩ dX8_last_82 (aI1 (F := fun st M => P g X 6 85 [(0, .ref a0), (1, .int x1), (2, .int x6_2), (3, .int x6_3), (4, .int x6_4)] st _ _ M) (M := (K, len, I6, J, R)) fun x17_ I17 h17 => ?_)
            obtain ⟨hs17, hf17, k17_0, k17_1⟩ := h17
            show P g X 6 85 [(0, .ref a0), (1, .int x1), (2, .int x6_2), (3, .int x6_3), (4, .int x6_4)] [.int x17_] _ _ (K, len, I17, J, R)
            have hF17 : Fr K [(1, 5), (1, 6), (9, 12), (41, 999), (50, 999), (51, 999), (52, 999), (53, 999), (54, 999)] I I17 := hF6.trans hf17 rfl rfl
            have lf17 : ∀ b k, K b = 41 → b ≠ tl → I17 b k = I b k := fun b k z1 z2 => (hf17.get z1 rfl).trans (v6_2 b k z1 z2)
            exact r_iret hC hQ hlk hr rfl (by decide) (by decide) dX8_last_85 ⟨_, _, rfl, rfl, ⟨hs17, hF17, (by exact lf17), (by omega)⟩⟩
          · refine r_bipush hC (v := (-2)) dX8_last_76 (by decide) (by decide) (fun x18_ e18 t18 => ?_)
            refine r_goto hC (tgt := 82) dX8_last_78 (by decide) ?_
            refine r_callV hC (As := [.int x18_]) (rest := []) (ci := 8) (c_X8_answer g (xL X) K len I6 J R hs6 a0 ka0 x18_) mT_3_115 mT_1_1 mT_3_112 mT_3_114 mP_21 okX8_answer ⟨by decide, by decide⟩ rfl (by show kO (K a0) = _; rw [ka0]; rfl) rfl rfl (Nat.le_of_ble_eq_true rfl) ⟨by decide, by decide⟩ dX8_last_82 (aI1 (F := fun st M => P g X 6 85 [(0, .ref a0), (1, .int x1), (2, .int x6_2), (3, .int x6_3), (4, .int x6_4)] st _ _ M) (M := (K, len, I6, J, R)) fun x19_ I19 h19 => ?_)
            obtain ⟨hs19, hf19, k19_0, k19_1⟩ := h19
            show P g X 6 85 [(0, .ref a0), (1, .int x1), (2, .int x6_2), (3, .int x6_3), (4, .int x6_4)] [.int x19_] _ _ (K, len, I19, J, R)
            have hF19 : Fr K [(1, 5), (1, 6), (9, 12), (41, 999), (50, 999), (51, 999), (52, 999), (53, 999), (54, 999)] I I19 := hF6.trans hf19 rfl rfl
            have lf19 : ∀ b k, K b = 41 → b ≠ tl → I19 b k = I b k := fun b k z1 z2 => (hf19.get z1 rfl).trans (v6_2 b k z1 z2)
            exact r_iret hC hQ hlk hr rfl (by decide) (by decide) dX8_last_85 ⟨_, _, rfl, rfl, ⟨hs19, hF19, (by exact lf19), (by omega)⟩⟩
        · refine r_iload_n hC dX8_last_34 2 rfl ?_
          refine r_iload_n hC dX8_last_35 3 rfl ?_
          refine r_iadd hC dX8_last_36 (fun x20_ e20 => ?_)
          try have t20 : x20_.toInt = x6_2.toInt + x6_3.toInt := by rw [e20]; exact ti_add (by omega) (by omega)
          refine r_iconst hC (v := (1)) dX8_last_37 (by decide) (by decide) (fun x21_ e21 t21 => ?_)
          refine r_iadd hC dX8_last_38 (fun x22_ e22 => ?_)
          try have t22 : x22_.toInt = x20_.toInt + x21_.toInt := by rw [e22]; exact ti_add (by omega) (by omega)
          refine r_iconst hC (v := (2)) dX8_last_39 (by decide) (by decide) (fun x23_ e23 t23 => ?_)
          refine r_idiv hC dX8_last_40 (ne_0 (by omega)) (fun x24_ e24 => ?_)
          refine r_istore hC (lv' := [(5, .int x24_), (0, .ref a0), (1, .int x1), (2, .int x6_2), (3, .int x6_3), (4, .int x6_4)]) dX8_last_41 (by decide) rfl ?_
          refine r_aload_n hC dX8_last_43 1 rfl ?_
          refine r_iload_n hC dX8_last_44 2 rfl ?_
          refine r_iload hC dX8_last_45 0 rfl ?_
          refine r_callV hC (As := [.int x1, .int x24_]) (rest := []) (ci := 8) (o_X8_staysIfDownFrom g (xL X) K len I6 J R hs6 a0 ka0 x1 x24_ tl htl ktl ltl (by omega) (by omega)) mT_4_74 mT_1_1 mT_4_71 mT_4_73 mP_41 okX8_staysIfDownFrom ⟨by decide, by decide⟩ rfl (by show kO (K a0) = _; rw [ka0]; rfl) rfl rfl (Nat.le_of_ble_eq_true rfl) ⟨by decide, by decide⟩ dX8_last_47 (aI1 (F := fun st M => P g X 6 50 [(5, .int x24_), (0, .ref a0), (1, .int x1), (2, .int x6_2), (3, .int x6_3), (4, .int x6_4)] st _ _ M) (M := (K, len, I6, J, R)) fun x25_ I25 h25 => ?_)
          obtain ⟨hs25, hf25, k25_0, k25_1, k25_2⟩ := h25
          show P g X 6 50 [(5, .int x24_), (0, .ref a0), (1, .int x1), (2, .int x6_2), (3, .int x6_3), (4, .int x6_4)] [.int x25_] _ _ (K, len, I25, J, R)
          have hF25 : Fr K [(1, 5), (1, 6), (9, 12), (41, 999), (50, 999), (51, 999), (52, 999), (53, 999), (54, 999)] I I25 := hF6.trans hf25 rfl rfl
          have lf25 : ∀ b k, K b = 41 → b ≠ tl → I25 b k = I b k := fun b k z1 z2 => (k25_2 b k z1 z2).trans (v6_2 b k z1 z2)
          refine r_if_eq hC (tgt := 59) dX8_last_50 (by decide) (fun c26 => ?_) (fun c26 => ?_)
          · refine r_iload hC dX8_last_59 0 rfl ?_
            refine r_iconst hC (v := (1)) dX8_last_61 (by decide) (by decide) (fun x27_ e27 t27 => ?_)
            refine r_isub hC dX8_last_62 (fun x28_ e28 => ?_)
            try have t28 : x28_.toInt = x24_.toInt - x27_.toInt := by rw [e28]; exact ti_sub (by omega) (by omega)
            refine r_istore_n hC (lv' := [(3, .int x28_), (5, .int x24_), (0, .ref a0), (1, .int x1), (2, .int x6_2), (4, .int x6_4)]) dX8_last_63 (by decide) rfl ?_
            obtain ⟨x29_, e29⟩ : ∃ z : Int32, z = x6_4 + Int32.ofInt (1) := ⟨_, rfl⟩
            refine r_iinc hC (j := 5) (v := x29_) (lv' := [(4, .int x29_), (3, .int x28_), (5, .int x24_), (0, .ref a0), (1, .int x1), (2, .int x6_2)]) dX8_last_64 rfl (by rw [e29]) (by decide) rfl ?_
            try have t29 : x29_.toInt = x6_4.toInt + (1) := by rw [e29]; exact (ti_add (b := Int32.ofInt (1)) (by show _ ≤ _ + (1 : Int); omega) (by show _ + (1 : Int) ≤ _; omega))
            refine r_goto hC (tgt := 22) dX8_last_67 (by decide) ?_
            refine r_sub [3, 4, 5, 1, 0] rfl ?_
            exact ih6 ((60 - x29_.toInt).toNat) (by omega) x29_ x28_ x6_2 I25 hs25 hF25 (by omega) (by omega) (by exact lf25) rfl
          · refine r_iload hC dX8_last_53 0 rfl ?_
            refine r_istore_n hC (lv' := [(2, .int x24_), (5, .int x24_), (0, .ref a0), (1, .int x1), (3, .int x6_3), (4, .int x6_4)]) dX8_last_55 (by decide) rfl ?_
            refine r_goto hC (tgt := 64) dX8_last_56 (by decide) ?_
            obtain ⟨x30_, e30⟩ : ∃ z : Int32, z = x6_4 + Int32.ofInt (1) := ⟨_, rfl⟩
            refine r_iinc hC (j := 5) (v := x30_) (lv' := [(4, .int x30_), (2, .int x24_), (5, .int x24_), (0, .ref a0), (1, .int x1), (3, .int x6_3)]) dX8_last_64 rfl (by rw [e30]) (by decide) rfl ?_
            try have t30 : x30_.toInt = x6_4.toInt + (1) := by rw [e30]; exact (ti_add (b := Int32.ofInt (1)) (by show _ ≤ _ + (1 : Int); omega) (by show _ + (1 : Int) ≤ _; omega))
            refine r_goto hC (tgt := 22) dX8_last_67 (by decide) ?_
            refine r_sub [3, 4, 1, 5, 0] rfl ?_
            exact ih6 ((60 - x30_.toInt).toNat) (by omega) x30_ x6_3 x24_ I25 hs25 hF25 (by omega) (by omega) (by exact lf25) rfl
    refine r_sub [3, 4, 2, 1, 0] rfl ?_
    exact LP6 _ x5_ x4_ x3_ I hs hF (by omega) (by omega) (by exact lfz) rfl
  · refine r_aload_n hC dX8_last_8 0 rfl ?_
    refine r_iconst hC (v := (1)) dX8_last_9 (by decide) (by decide) (fun x31_ e31 t31 => ?_)
    refine r_callV hC (As := [.int x31_]) (rest := []) (ci := 8) (c_X8_refuse g (xL X) K len I J R hs a0 ka0 x31_) mT_2_133 mT_1_1 mT_2_130 mT_2_132 mP_0 okX8_refuse ⟨by decide, by decide⟩ rfl (by show kO (K a0) = _; rw [ka0]; rfl) rfl rfl (Nat.le_of_ble_eq_true rfl) ⟨by decide, by decide⟩ dX8_last_10 (aI1 (F := fun st M => P g X 6 13 [(0, .ref a0), (1, .int x1)] st _ _ M) (M := (K, len, I, J, R)) fun x32_ I32 h32 => ?_)
    obtain ⟨hs32, hf32, k32_0, k32_1⟩ := h32
    show P g X 6 13 [(0, .ref a0), (1, .int x1)] [.int x32_] _ _ (K, len, I32, J, R)
    have hF32 : Fr K [(1, 5), (1, 6), (9, 12), (41, 999), (50, 999), (51, 999), (52, 999), (53, 999), (54, 999)] I I32 := hF.trans hf32 rfl rfl
    have lf32 : ∀ b k, K b = 41 → b ≠ tl → I32 b k = I b k := fun b k z1 z2 => (hf32.get z1 rfl).trans (lfz b k z1 z2)
    exact r_iret hC hQ hlk hr rfl (by decide) (by decide) dX8_last_13 ⟨_, _, rfl, rfl, ⟨hs32, hF32, (by exact lf32), (by omega)⟩⟩
set_option maxHeartbeats 4000000 in
set_option maxRecDepth 100000 in
theorem o_X8_safe (g : GG) (l : Launch) (K len : Nat → Nat) (I : Nat → Nat → Int32) (J : Nat → Nat → Int64) (R : Nat → Nat → Option Nat) (hs : Sf K len I R) (a0 : Nat) (ka0 : K a0 = 9) (x1 : Int32) (tl : Nat) (htl : R a0 7 = some tl) (ktl : K tl = 41) (ltl : len tl = 60) : Ct g l yX8_safe cX8_safe 6 (Option.some Jvm.ClassFile.FieldType.int) rmX8_safe [.ref a0, .int x1] (K, len, I, J, R) (pI1 (K, len, I, J, R) (fun r I' => Sf K len I' R ∧ Fr K [(1, 5), (1, 6), (9, 12), (41, 999), (50, 999), (51, 999), (52, 999), (53, 999), (54, 999)] I I' ∧ (∀ b k, K b = 41 → b ≠ tl → I' b k = I b k) ∧ ((I' a0 12).toInt ≠ 4))) := by
  refine Ct_intro (by decide +kernel) (Nat.le_of_ble_eq_true rfl) (fun X hC hL hKK hNm hr hlk hQ => ?_)
  subst hL
  have hC : Cx g X cX8_safe "HillTap" 6 rmX8_safe := hC
  show P g X 6 0 [(0, .ref a0), (1, .int x1)] [] 0 0 (K, len, I, J, R)
  have hF : Fr K [(1, 5), (1, 6), (9, 12), (41, 999), (50, 999), (51, 999), (52, 999), (53, 999), (54, 999)] I I := Fr.refl
  have b_x1 := ti_rng x1
  have lfz : ∀ b k, K b = 41 → b ≠ tl → I b k = I b k := fun _ _ _ _ => rfl
  refine r_aload_n hC dX8_safe_0 0 rfl ?_
  refine r_iload_n hC dX8_safe_1 1 rfl ?_
  refine r_callV hC (As := [.int x1]) (rest := []) (ci := 8) (c_X8_isStory g (xL X) K len I J R hs a0 ka0 x1) mT_3_155 mT_1_1 mT_3_152 mT_3_154 mP_24 okX8_isStory ⟨by decide, by decide⟩ rfl (by show kO (K a0) = _; rw [ka0]; rfl) rfl rfl (Nat.le_of_ble_eq_true rfl) ⟨by decide, by decide⟩ dX8_safe_2 (aI0 (F := fun st M => P g X 6 5 [(0, .ref a0), (1, .int x1)] st _ _ M) (M := (K, len, I, J, R)) fun x1_ h1 => ?_)
  obtain ⟨k1_0, k1_1, k1_2⟩ := h1
  show P g X 6 5 [(0, .ref a0), (1, .int x1)] [.int x1_] _ _ (K, len, I, J, R)
  refine r_if_ne hC (tgt := 14) dX8_safe_5 (by decide) (fun c2 => ?_) (fun c2 => ?_)
  · refine r_iconst hC (v := (-1)) dX8_safe_14 (by decide) (by decide) (fun x3_ e3 t3 => ?_)
    refine r_istore_n hC (lv' := [(2, .int x3_), (0, .ref a0), (1, .int x1)]) dX8_safe_15 (by decide) rfl ?_
    refine r_aload_n hC dX8_safe_16 1 rfl ?_
    obtain ⟨a4_, hb4, hk4⟩ := hs.obj ka0 2 2 (by decide)
    refine r_getr hC 2 (ci := 8) rfl u8_in (by decide) mT_2_80 dX8_safe_17 ka0 rfl rfl hb4 ?_
    obtain ⟨a5_, hb5, hk5⟩ := hs.obj hk4 0 3 (by decide)
    refine r_getr hC 0 (ci := 1) rfl u1_in (by decide) mT_1_182 dX8_safe_20 hk4 rfl rfl hb5 ?_
    refine r_geti hC 3 (ci := 2) rfl u2_in (by decide) mT_1_127 dX8_safe_23 hk5 rfl rfl (fun x6_ e6 => ?_)
    refine r_istore_n hC (lv' := [(3, .int x6_), (2, .int x3_), (0, .ref a0), (1, .int x1)]) dX8_safe_26 (by decide) rfl ?_
    refine r_iconst hC (v := (0)) dX8_safe_27 (by decide) (by decide) (fun x7_ e7 t7 => ?_)
    refine r_istore hC (lv' := [(4, .int x7_), (3, .int x6_), (2, .int x3_), (0, .ref a0), (1, .int x1)]) dX8_safe_28 (by decide) rfl ?_
    have LP8 : ∀ (mu : Nat) (x8_4 : Int32) (x8_3 : Int32) (x8_2 : Int32) (I8 : Nat → Nat → Int32) (hs8 : Sf K len I8 R) (hF8 : Fr K [(1, 5), (1, 6), (9, 12), (41, 999), (50, 999), (51, 999), (52, 999), (53, 999), (54, 999)] I I8) (v8_0 : 0 ≤ x8_4.toInt) (v8_1 : x8_4.toInt ≤ 1000) (v8_2 : ∀ b k, K b = 41 → b ≠ tl → I8 b k = I b k), (1000 - x8_4.toInt).toNat = mu → P g X 6 30 [(0, .ref a0), (1, .int x1), (2, .int x8_2), (3, .int x8_3), (4, .int x8_4)] [] 0 0 (K, len, I8, J, R) := by
      intro mu; induction mu using Nat.strongRecOn with | ind mu ih => ?_
      intro x8_4 x8_3 x8_2 I8 hs8 hF8 v8_0 v8_1 v8_2 hmu
      have ih8 := ih
      clear ih
      have hmu8 := hmu
      clear hmu
      refine r_iload hC dX8_safe_30 4 rfl ?_
      refine r_sipush hC (v := (1000)) dX8_safe_32 (by decide) (by decide) (fun x9_ e9 t9 => ?_)
      refine r_icmp_ge hC (tgt := 79) dX8_safe_35 (by decide) (fun c10 => ?_) (fun c10 => ?_)
      · refine r_aload_n hC dX8_safe_79 0 rfl ?_
        refine r_iload_n hC dX8_safe_80 2 rfl ?_
        refine r_iconst hC (v := (-1)) dX8_safe_81 (by decide) (by decide) (fun x11_ e11 t11 => ?_)
        refine r_icmp_ne hC (tgt := 90) dX8_safe_82 (by decide) (fun c12 => ?_) (fun c12 => ?_)
        · refine r_iload_n hC dX8_safe_90 2 rfl ?_
          refine r_callV hC (As := [.int x8_2]) (rest := []) (ci := 8) (c_X8_answer g (xL X) K len I8 J R hs8 a0 ka0 x8_2) mT_3_115 mT_1_1 mT_3_112 mT_3_114 mP_21 okX8_answer ⟨by decide, by decide⟩ rfl (by show kO (K a0) = _; rw [ka0]; rfl) rfl rfl (Nat.le_of_ble_eq_true rfl) ⟨by decide, by decide⟩ dX8_safe_91 (aI1 (F := fun st M => P g X 6 94 [(0, .ref a0), (1, .int x1), (2, .int x8_2), (3, .int x8_3), (4, .int x8_4)] st _ _ M) (M := (K, len, I8, J, R)) fun x13_ I13 h13 => ?_)
          obtain ⟨hs13, hf13, k13_0, k13_1⟩ := h13
          show P g X 6 94 [(0, .ref a0), (1, .int x1), (2, .int x8_2), (3, .int x8_3), (4, .int x8_4)] [.int x13_] _ _ (K, len, I13, J, R)
          have hF13 : Fr K [(1, 5), (1, 6), (9, 12), (41, 999), (50, 999), (51, 999), (52, 999), (53, 999), (54, 999)] I I13 := hF8.trans hf13 rfl rfl
          have lf13 : ∀ b k, K b = 41 → b ≠ tl → I13 b k = I b k := fun b k z1 z2 => (hf13.get z1 rfl).trans (v8_2 b k z1 z2)
          exact r_iret hC hQ hlk hr rfl (by decide) (by decide) dX8_safe_94 ⟨_, _, rfl, rfl, ⟨hs13, hF13, (by exact lf13), (by omega)⟩⟩
        · refine r_bipush hC (v := (-2)) dX8_safe_85 (by decide) (by decide) (fun x14_ e14 t14 => ?_)
          refine r_goto hC (tgt := 91) dX8_safe_87 (by decide) ?_
          refine r_callV hC (As := [.int x14_]) (rest := []) (ci := 8) (c_X8_answer g (xL X) K len I8 J R hs8 a0 ka0 x14_) mT_3_115 mT_1_1 mT_3_112 mT_3_114 mP_21 okX8_answer ⟨by decide, by decide⟩ rfl (by show kO (K a0) = _; rw [ka0]; rfl) rfl rfl (Nat.le_of_ble_eq_true rfl) ⟨by decide, by decide⟩ dX8_safe_91 (aI1 (F := fun st M => P g X 6 94 [(0, .ref a0), (1, .int x1), (2, .int x8_2), (3, .int x8_3), (4, .int x8_4)] st _ _ M) (M := (K, len, I8, J, R)) fun x15_ I15 h15 => ?_)
          obtain ⟨hs15, hf15, k15_0, k15_1⟩ := h15
          show P g X 6 94 [(0, .ref a0), (1, .int x1), (2, .int x8_2), (3, .int x8_3), (4, .int x8_4)] [.int x15_] _ _ (K, len, I15, J, R)
          have hF15 : Fr K [(1, 5), (1, 6), (9, 12), (41, 999), (50, 999), (51, 999), (52, 999), (53, 999), (54, 999)] I I15 := hF8.trans hf15 rfl rfl
          have lf15 : ∀ b k, K b = 41 → b ≠ tl → I15 b k = I b k := fun b k z1 z2 => (hf15.get z1 rfl).trans (v8_2 b k z1 z2)
          exact r_iret hC hQ hlk hr rfl (by decide) (by decide) dX8_safe_94 ⟨_, _, rfl, rfl, ⟨hs15, hF15, (by exact lf15), (by omega)⟩⟩
      · refine r_iload_n hC dX8_safe_38 2 rfl ?_
        refine r_iload_n hC dX8_safe_39 3 rfl ?_
        refine r_icmp_ge hC (tgt := 79) dX8_safe_40 (by decide) (fun c16 => ?_) (fun c16 => ?_)
        · refine r_aload_n hC dX8_safe_79 0 rfl ?_
          refine r_iload_n hC dX8_safe_80 2 rfl ?_
          refine r_iconst hC (v := (-1)) dX8_safe_81 (by decide) (by decide) (fun x17_ e17 t17 => ?_)
          refine r_icmp_ne hC (tgt := 90) dX8_safe_82 (by decide) (fun c18 => ?_) (fun c18 => ?_)
          · refine r_iload_n hC dX8_safe_90 2 rfl ?_
            refine r_callV hC (As := [.int x8_2]) (rest := []) (ci := 8) (c_X8_answer g (xL X) K len I8 J R hs8 a0 ka0 x8_2) mT_3_115 mT_1_1 mT_3_112 mT_3_114 mP_21 okX8_answer ⟨by decide, by decide⟩ rfl (by show kO (K a0) = _; rw [ka0]; rfl) rfl rfl (Nat.le_of_ble_eq_true rfl) ⟨by decide, by decide⟩ dX8_safe_91 (aI1 (F := fun st M => P g X 6 94 [(0, .ref a0), (1, .int x1), (2, .int x8_2), (3, .int x8_3), (4, .int x8_4)] st _ _ M) (M := (K, len, I8, J, R)) fun x19_ I19 h19 => ?_)
            obtain ⟨hs19, hf19, k19_0, k19_1⟩ := h19
            show P g X 6 94 [(0, .ref a0), (1, .int x1), (2, .int x8_2), (3, .int x8_3), (4, .int x8_4)] [.int x19_] _ _ (K, len, I19, J, R)
            have hF19 : Fr K [(1, 5), (1, 6), (9, 12), (41, 999), (50, 999), (51, 999), (52, 999), (53, 999), (54, 999)] I I19 := hF8.trans hf19 rfl rfl
            have lf19 : ∀ b k, K b = 41 → b ≠ tl → I19 b k = I b k := fun b k z1 z2 => (hf19.get z1 rfl).trans (v8_2 b k z1 z2)
            exact r_iret hC hQ hlk hr rfl (by decide) (by decide) dX8_safe_94 ⟨_, _, rfl, rfl, ⟨hs19, hF19, (by exact lf19), (by omega)⟩⟩
          · refine r_bipush hC (v := (-2)) dX8_safe_85 (by decide) (by decide) (fun x20_ e20 t20 => ?_)
            refine r_goto hC (tgt := 91) dX8_safe_87 (by decide) ?_
            refine r_callV hC (As := [.int x20_]) (rest := []) (ci := 8) (c_X8_answer g (xL X) K len I8 J R hs8 a0 ka0 x20_) mT_3_115 mT_1_1 mT_3_112 mT_3_114 mP_21 okX8_answer ⟨by decide, by decide⟩ rfl (by show kO (K a0) = _; rw [ka0]; rfl) rfl rfl (Nat.le_of_ble_eq_true rfl) ⟨by decide, by decide⟩ dX8_safe_91 (aI1 (F := fun st M => P g X 6 94 [(0, .ref a0), (1, .int x1), (2, .int x8_2), (3, .int x8_3), (4, .int x8_4)] st _ _ M) (M := (K, len, I8, J, R)) fun x21_ I21 h21 => ?_)
            obtain ⟨hs21, hf21, k21_0, k21_1⟩ := h21
            show P g X 6 94 [(0, .ref a0), (1, .int x1), (2, .int x8_2), (3, .int x8_3), (4, .int x8_4)] [.int x21_] _ _ (K, len, I21, J, R)
            have hF21 : Fr K [(1, 5), (1, 6), (9, 12), (41, 999), (50, 999), (51, 999), (52, 999), (53, 999), (54, 999)] I I21 := hF8.trans hf21 rfl rfl
            have lf21 : ∀ b k, K b = 41 → b ≠ tl → I21 b k = I b k := fun b k z1 z2 => (hf21.get z1 rfl).trans (v8_2 b k z1 z2)
            exact r_iret hC hQ hlk hr rfl (by decide) (by decide) dX8_safe_94 ⟨_, _, rfl, rfl, ⟨hs21, hF21, (by exact lf21), (by omega)⟩⟩
        · refine r_iload_n hC dX8_safe_43 2 rfl ?_
          refine r_iload_n hC dX8_safe_44 3 rfl ?_
          refine r_iadd hC dX8_safe_45 (fun x22_ e22 => ?_)
          try have t22 : x22_.toInt = x8_2.toInt + x8_3.toInt := by rw [e22]; exact ti_add (by omega) (by omega)
          refine r_iconst hC (v := (1)) dX8_safe_46 (by decide) (by decide) (fun x23_ e23 t23 => ?_)
          refine r_iadd hC dX8_safe_47 (fun x24_ e24 => ?_)
          try have t24 : x24_.toInt = x22_.toInt + x23_.toInt := by rw [e24]; exact ti_add (by omega) (by omega)
          refine r_iconst hC (v := (2)) dX8_safe_48 (by decide) (by decide) (fun x25_ e25 t25 => ?_)
          refine r_idiv hC dX8_safe_49 (ne_0 (by omega)) (fun x26_ e26 => ?_)
          refine r_istore hC (lv' := [(5, .int x26_), (0, .ref a0), (1, .int x1), (2, .int x8_2), (3, .int x8_3), (4, .int x8_4)]) dX8_safe_50 (by decide) rfl ?_
          refine r_aload_n hC dX8_safe_52 1 rfl ?_
          refine r_iload_n hC dX8_safe_53 2 rfl ?_
          refine r_iload hC dX8_safe_54 0 rfl ?_
          refine r_callV hC (As := [.int x1, .int x26_]) (rest := []) (ci := 8) (o_X8_staysIfSteady g (xL X) K len I8 J R hs8 a0 ka0 x1 x26_ tl htl ktl ltl (by omega) (by omega)) mT_4_86 mT_1_1 mT_4_83 mT_4_85 mP_42 okX8_staysIfSteady ⟨by decide, by decide⟩ rfl (by show kO (K a0) = _; rw [ka0]; rfl) rfl rfl (Nat.le_of_ble_eq_true rfl) ⟨by decide, by decide⟩ dX8_safe_56 (aI1 (F := fun st M => P g X 6 59 [(5, .int x26_), (0, .ref a0), (1, .int x1), (2, .int x8_2), (3, .int x8_3), (4, .int x8_4)] st _ _ M) (M := (K, len, I8, J, R)) fun x27_ I27 h27 => ?_)
          obtain ⟨hs27, hf27, k27_0, k27_1, k27_2⟩ := h27
          show P g X 6 59 [(5, .int x26_), (0, .ref a0), (1, .int x1), (2, .int x8_2), (3, .int x8_3), (4, .int x8_4)] [.int x27_] _ _ (K, len, I27, J, R)
          have hF27 : Fr K [(1, 5), (1, 6), (9, 12), (41, 999), (50, 999), (51, 999), (52, 999), (53, 999), (54, 999)] I I27 := hF8.trans hf27 rfl rfl
          have lf27 : ∀ b k, K b = 41 → b ≠ tl → I27 b k = I b k := fun b k z1 z2 => (k27_2 b k z1 z2).trans (v8_2 b k z1 z2)
          refine r_if_eq hC (tgt := 68) dX8_safe_59 (by decide) (fun c28 => ?_) (fun c28 => ?_)
          · refine r_iload hC dX8_safe_68 0 rfl ?_
            refine r_iconst hC (v := (1)) dX8_safe_70 (by decide) (by decide) (fun x29_ e29 t29 => ?_)
            refine r_isub hC dX8_safe_71 (fun x30_ e30 => ?_)
            try have t30 : x30_.toInt = x26_.toInt - x29_.toInt := by rw [e30]; exact ti_sub (by omega) (by omega)
            refine r_istore_n hC (lv' := [(3, .int x30_), (5, .int x26_), (0, .ref a0), (1, .int x1), (2, .int x8_2), (4, .int x8_4)]) dX8_safe_72 (by decide) rfl ?_
            obtain ⟨x31_, e31⟩ : ∃ z : Int32, z = x8_4 + Int32.ofInt (1) := ⟨_, rfl⟩
            refine r_iinc hC (j := 5) (v := x31_) (lv' := [(4, .int x31_), (3, .int x30_), (5, .int x26_), (0, .ref a0), (1, .int x1), (2, .int x8_2)]) dX8_safe_73 rfl (by rw [e31]) (by decide) rfl ?_
            try have t31 : x31_.toInt = x8_4.toInt + (1) := by rw [e31]; exact (ti_add (b := Int32.ofInt (1)) (by show _ ≤ _ + (1 : Int); omega) (by show _ + (1 : Int) ≤ _; omega))
            refine r_goto hC (tgt := 30) dX8_safe_76 (by decide) ?_
            refine r_sub [3, 4, 5, 1, 0] rfl ?_
            exact ih8 ((1000 - x31_.toInt).toNat) (by omega) x31_ x30_ x8_2 I27 hs27 hF27 (by omega) (by omega) (by exact lf27) rfl
          · refine r_iload hC dX8_safe_62 0 rfl ?_
            refine r_istore_n hC (lv' := [(2, .int x26_), (5, .int x26_), (0, .ref a0), (1, .int x1), (3, .int x8_3), (4, .int x8_4)]) dX8_safe_64 (by decide) rfl ?_
            refine r_goto hC (tgt := 73) dX8_safe_65 (by decide) ?_
            obtain ⟨x32_, e32⟩ : ∃ z : Int32, z = x8_4 + Int32.ofInt (1) := ⟨_, rfl⟩
            refine r_iinc hC (j := 5) (v := x32_) (lv' := [(4, .int x32_), (2, .int x26_), (5, .int x26_), (0, .ref a0), (1, .int x1), (3, .int x8_3)]) dX8_safe_73 rfl (by rw [e32]) (by decide) rfl ?_
            try have t32 : x32_.toInt = x8_4.toInt + (1) := by rw [e32]; exact (ti_add (b := Int32.ofInt (1)) (by show _ ≤ _ + (1 : Int); omega) (by show _ + (1 : Int) ≤ _; omega))
            refine r_goto hC (tgt := 30) dX8_safe_76 (by decide) ?_
            refine r_sub [3, 4, 1, 5, 0] rfl ?_
            exact ih8 ((1000 - x32_.toInt).toNat) (by omega) x32_ x8_3 x26_ I27 hs27 hF27 (by omega) (by omega) (by exact lf27) rfl
    refine r_sub [3, 4, 2, 1, 0] rfl ?_
    exact LP8 _ x7_ x6_ x3_ I hs hF (by omega) (by omega) (by exact lfz) rfl
  · refine r_aload_n hC dX8_safe_8 0 rfl ?_
    refine r_iconst hC (v := (1)) dX8_safe_9 (by decide) (by decide) (fun x33_ e33 t33 => ?_)
    refine r_callV hC (As := [.int x33_]) (rest := []) (ci := 8) (c_X8_refuse g (xL X) K len I J R hs a0 ka0 x33_) mT_2_133 mT_1_1 mT_2_130 mT_2_132 mP_0 okX8_refuse ⟨by decide, by decide⟩ rfl (by show kO (K a0) = _; rw [ka0]; rfl) rfl rfl (Nat.le_of_ble_eq_true rfl) ⟨by decide, by decide⟩ dX8_safe_10 (aI1 (F := fun st M => P g X 6 13 [(0, .ref a0), (1, .int x1)] st _ _ M) (M := (K, len, I, J, R)) fun x34_ I34 h34 => ?_)
    obtain ⟨hs34, hf34, k34_0, k34_1⟩ := h34
    show P g X 6 13 [(0, .ref a0), (1, .int x1)] [.int x34_] _ _ (K, len, I34, J, R)
    have hF34 : Fr K [(1, 5), (1, 6), (9, 12), (41, 999), (50, 999), (51, 999), (52, 999), (53, 999), (54, 999)] I I34 := hF.trans hf34 rfl rfl
    have lf34 : ∀ b k, K b = 41 → b ≠ tl → I34 b k = I b k := fun b k z1 z2 => (hf34.get z1 rfl).trans (lfz b k z1 z2)
    exact r_iret hC hQ hlk hr rfl (by decide) (by decide) dX8_safe_13 ⟨_, _, rfl, rfl, ⟨hs34, hF34, (by exact lf34), (by omega)⟩⟩

