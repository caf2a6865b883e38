set_option maxHeartbeats 4000000 in
set_option maxRecDepth 100000 in
theorem f_X10_agrees (g : GG) (l : Launch) (K len : Nat → Nat) (I : Nat → Nat → Int32) (J : Nat → Nat → Int64) (R : Nat → Nat → Option Nat) (hs : Sf K len I R) (a0 : Nat) (ka0 : K a0 = 11) (x1 : Int32) (x2 : Int32) (hm : Nat) (hbm : R a0 3 = some hm) (khm : K hm = 10) (ps1 : x1.toInt < (I hm 7).toInt) (lr : Nat) (hlr : R a0 15 = some lr) (klr : K lr = 85) (llr : len lr = 60) (sr : Nat) (hsr : R a0 16 = some sr) (ksr : K sr = 86) (lsr : len sr = 300) (ir : Nat) (hir : R a0 17 = some ir) (kir : K ir = 87) (lir : len ir = 300) (wr : Nat) (hwr : R a0 18 = some wr) (kwr : K wr = 88) (lwr : len wr = 300) (D : DD) (E : Nat → Nat → Int) (mc : MC D E a0 hm I R) (N : Nat) (hN : (I a0 20).toInt = N) (p0 : 0 ≤ x1.toInt) (p1 : x1.toInt ≤ 5) (p2 : 0 ≤ x2.toInt ∧ x2.toInt ≤ 59) : Ct g l yX10_agrees cX10_agrees 5 (Option.some Jvm.ClassFile.FieldType.boolean) rmX10_agrees [.ref a0, .int x1, .int x2] (K, len, I, J, R) (pI1 (K, len, I, J, R) (fun r I' => Sf K len I' R ∧ Fr K [(11, 19), (85, 999), (86, 999), (87, 999), (88, 999)] I I' ∧ (r.toInt = 1 ∧ (x2.toInt < Mf D E x1.toInt.toNat N) ∨ r.toInt = 0 ∧ ¬ (x2.toInt < Mf D E x1.toInt.toNat N)))) := by
  refine Ct_intro (by decide +kernel) (Nat.le_of_ble_eq_true rfl) (fun X hC hL hKK hNm hr hlk hQ => ?_)
  subst hL
  have hC : Cx g X cX10_agrees "HillTapModel" 5 rmX10_agrees := hC
  show P g X 5 0 [(0, .ref a0), (1, .int x1), (2, .int x2)] [] 0 0 (K, len, I, J, R)
  have hF : Fr K [(11, 19), (85, 999), (86, 999), (87, 999), (88, 999)] I I := Fr.refl
  obtain ⟨⟨hJ, hR6, hD7⟩, rwm, ⟨hd1, hd2, hd3, hd4, hd5, hd7, hd8, hd9⟩, -⟩ := id mc
  have hcx := CM_x hs khm
  have b5 := hs.rng khm (k := 3) rfl (x := I hm 3) rfl
  have b7 := hs.rng khm (k := 7) rfl (x := I hm 7) rfl
  have b8 := hs.rng khm (k := 8) rfl (x := I hm 8) rfl
  have b20 := hs.rng ka0 (k := 20) rfl (x := I a0 20) rfl
  have b_x1 := ti_rng x1
  have b_x2 := ti_rng x2
  obtain ⟨C20, eC20⟩ : ∃ z : Int32, z = I a0 20 := ⟨_, rfl⟩
  have fC20 : C20.toInt = (I a0 20).toInt := by rw [eC20]
  have rC20 := hs.rng ka0 rfl eC20
  obtain ⟨S0, eS0⟩ : ∃ z : Int32, z = I hm 7 := ⟨_, rfl⟩
  have fS0 : S0.toInt = (I hm 7).toInt := by rw [eS0]
  have rS0 := hs.rng khm rfl eS0
  refine r_aload_n hC dX10_agrees_0 0 rfl ?_
  refine r_iload_n hC dX10_agrees_1 1 rfl ?_
  have hv1 : I hm 7 = S0 := eS0.symm
  refine r_callV hC (As := [.int x1]) (rest := []) (ci := 10) (f_X10_runsAsTold g (xL X) K len I J R hs a0 ka0 x1 hm hbm khm (by rw [hv1]; omega) lr hlr klr llr sr hsr ksr lsr ir hir kir lir wr hwr kwr lwr D E mc (by omega) (by omega)) mT_6_127 mT_1_10 mT_6_124 mT_6_126 mP_73 okX10_runsAsTold ⟨by decide, by decide⟩ rfl (by show kO (K a0) = _; rw [ka0]; rfl) rfl rfl (Nat.le_of_ble_eq_true rfl) ⟨by decide, by decide⟩ dX10_agrees_2 (aV1 (F := fun st M => P g X 5 5 [(0, .ref a0), (1, .int x1), (2, .int x2)] st _ _ M) (M := (K, len, I, J, R)) fun I2 h2 => ?_)
  obtain ⟨hs2, hf2, k2_0⟩ := h2
  show P g X 5 5 [(0, .ref a0), (1, .int x1), (2, .int x2)] [] _ _ (K, len, I2, J, R)
  have hF2 : Fr K [(11, 19), (85, 999), (86, 999), (87, 999), (88, 999)] I I2 := hF.trans hf2 rfl rfl
  refine r_iconst hC (v := (0)) dX10_agrees_5 (by decide) (by decide) (fun x3_ e3 t3 => ?_)
  refine r_istore_n hC (lv' := [(3, .int x3_), (0, .ref a0), (1, .int x1), (2, .int x2)]) dX10_agrees_6 (by decide) rfl ?_
  have LP4 : ∀ (mu : Nat) (x4_3 : Int32) (v4_0 : 0 ≤ x4_3.toInt) (v4_1 : x4_3.toInt ≤ N) (v4_2 : x2.toInt < Mf D E x1.toInt.toNat x4_3.toInt.toNat), (24 - x4_3.toInt).toNat = mu → P g X 5 7 [(0, .ref a0), (1, .int x1), (2, .int x2), (3, .int x4_3)] [] 0 0 (K, len, I2, J, R) := by
    intro mu; induction mu using Nat.strongRecOn with | ind mu ih => ?_
    intro x4_3 v4_0 v4_1 v4_2 hmu
    have ih4 := ih
    clear ih
    have hmu4 := hmu
    clear hmu
    refine r_iload_n hC dX10_agrees_7 3 rfl ?_
    refine r_aload_n hC dX10_agrees_8 0 rfl ?_
    refine r_geti hC 20 (ci := 10) rfl u10_in (by decide) mT_5_15 dX10_agrees_9 ka0 rfl rfl (fun x5_ e5 => ?_)
    have r5 := hs2.rng ka0 rfl e5
    have f5 : x5_.toInt = (I2 a0 20).toInt := by rw [e5]
    have w5 : x5_ = C20 := by rw [e5]; exact (Eq.trans (hf2.get ka0 rfl) eC20.symm)
    have wt5 : x5_.toInt = C20.toInt := by rw [w5]
    have sc5 : x5_.toInt = (I a0 20).toInt := by rw [e5, hF2.get ka0 rfl]
    refine r_icmp_ge hC (tgt := 89) dX10_agrees_12 (by decide) (fun c6 => ?_) (fun c6 => ?_)
    · refine r_iconst hC (v := (1)) dX10_agrees_89 (by decide) (by decide) (fun x7_ e7 t7 => ?_)
      exact r_iret hC hQ hlk hr (by rw [e7]; rfl) (by decide) (by decide) dX10_agrees_90 ⟨_, _, rfl, rfl, ⟨hs2, hF2, (by first | exact Or.inl ⟨by omega, by rw [show N = x4_3.toInt.toNat by omega]; exact v4_2⟩ | exact Or.inr ⟨by omega, by have h8 := Mf_l2 (D := D) (E := E) (s := x1.toInt.toNat) (show x4_3.toInt.toNat + 1 ≤ N by omega); rw [Mf_t (by omega)] at h8; omega⟩)⟩⟩
    · refine r_aload_n hC dX10_agrees_15 0 rfl ?_
      obtain ⟨a8_, hb8, hk8, hn8⟩ := hs2.row ka0 22 90 24 (by decide) (by decide)
      refine r_getr hC 22 (ci := 10) rfl u10_in (by decide) mT_5_17 dX10_agrees_16 ka0 rfl rfl hb8 ?_
      refine r_iload_n hC dX10_agrees_19 3 rfl ?_
      refine x_iaload hC hk8 hn8 (by decide) rfl rfl dX10_agrees_20 (by omega) (by omega) (fun x9_ e9 => ?_)
      have r9 := hs2.arr hk8 hn8 rfl (by omega) (by omega) e9
      have q9 : x9_.toInt = E 1 x4_3.toInt.toNat := by rw [e9, clx (i := x4_3) rfl (by omega)]; exact (mc.mv hs ka0 khm hF2 rfl).rdr (r := 1) (by decide) hb8 (by first | omega | (rw [hF2.get ka0 rfl]; omega))
      obtain ⟨jp9, jd9, ji9, jo9⟩ := mc.rdb (j := x4_3.toInt.toNat) (by omega)
      refine r_iload_n hC dX10_agrees_21 2 rfl ?_
      refine r_icmp_le hC (tgt := 28) dX10_agrees_22 (by decide) (fun c10 => ?_) (fun c10 => ?_)
      · refine r_aload_n hC dX10_agrees_28 0 rfl ?_
        refine r_getr hC 17 (ci := 10) rfl u10_in (by decide) mT_5_12 dX10_agrees_29 ka0 rfl rfl hir ?_
        refine r_bipush hC (v := (60)) dX10_agrees_32 (by decide) (by decide) (fun x11_ e11 t11 => ?_)
        refine r_aload_n hC dX10_agrees_34 0 rfl ?_
        obtain ⟨a12_, hb12, hk12, hn12⟩ := hs2.row ka0 21 89 24 (by decide) (by decide)
        refine r_getr hC 21 (ci := 10) rfl u10_in (by decide) mT_5_16 dX10_agrees_35 ka0 rfl rfl hb12 ?_
        refine r_iload_n hC dX10_agrees_38 3 rfl ?_
        refine x_iaload hC hk12 hn12 (by decide) rfl rfl dX10_agrees_39 (by omega) (by omega) (fun x13_ e13 => ?_)
        have r13 := hs2.arr hk12 hn12 rfl (by omega) (by omega) e13
        have q13 : x13_.toInt = E 0 x4_3.toInt.toNat := by rw [e13, clx (i := x4_3) rfl (by omega)]; exact (mc.mv hs ka0 khm hF2 rfl).rdr (r := 0) (by decide) hb12 (by first | omega | (rw [hF2.get ka0 rfl]; omega))
        obtain ⟨jp13, jd13, ji13, jo13⟩ := mc.rdb (j := x4_3.toInt.toNat) (by omega)
        refine r_imul hC dX10_agrees_40 (fun x14_ e14 => ?_)
        try have t14 : x14_.toInt = (60) * x13_.toInt := by rw [e14]; exact ti_mul (by omega) rfl (by omega) (by omega)
        refine r_aload_n hC dX10_agrees_41 0 rfl ?_
        refine r_getr hC 22 (ci := 10) rfl u10_in (by decide) mT_5_17 dX10_agrees_42 ka0 rfl rfl hb8 ?_
        refine r_iload_n hC dX10_agrees_45 3 rfl ?_
        refine x_iaload hC hk8 hn8 (by decide) rfl rfl dX10_agrees_46 (by omega) (by omega) (fun x15_ e15 => ?_)
        have r15 := hs2.arr hk8 hn8 rfl (by omega) (by omega) e15
        have q15 : x15_.toInt = E 1 x4_3.toInt.toNat := by rw [e15, clx (i := x4_3) rfl (by omega)]; exact (mc.mv hs ka0 khm hF2 rfl).rdr (r := 1) (by decide) hb8 (by first | omega | (rw [hF2.get ka0 rfl]; omega))
        obtain ⟨jp15, jd15, ji15, jo15⟩ := mc.rdb (j := x4_3.toInt.toNat) (by omega)
        refine r_iadd hC dX10_agrees_47 (fun x16_ e16 => ?_)
        try have t16 : x16_.toInt = x14_.toInt + x15_.toInt := by rw [e16]; exact ti_add (by omega) (by omega)
        refine x_iaload hC kir lir (by decide) rfl rfl dX10_agrees_48 (by omega) (by omega) (fun x17_ e17 => ?_)
        have q17 : x17_.toInt = NV D x1.toInt.toNat (Ad D x1.toInt.toNat (LP1 D) 1) (E 1 x4_3.toInt.toNat).toNat (E 0 x4_3.toInt.toNat).toNat := by rw [e17, clx (i := x16_) rfl (by omega), show x16_.toInt.toNat = 60 * (E 0 x4_3.toInt.toNat).toNat + (E 1 x4_3.toInt.toNat).toNat by omega]; exact k2_0.inc (by omega) (by omega)
        have jb17 := mc.nvb (s := x1.toInt.toNat) (show ((x1.toInt.toNat : Nat) : Int) < D 0 7 by omega) (w2 := 1) (E 1 x4_3.toInt.toNat).toNat (E 0 x4_3.toInt.toNat).toNat (by omega)
        refine r_aload_n hC dX10_agrees_49 0 rfl ?_
        obtain ⟨a18_, hb18, hk18, hn18⟩ := hs2.row ka0 23 91 24 (by decide) (by decide)
        refine r_getr hC 23 (ci := 10) rfl u10_in (by decide) mT_5_18 dX10_agrees_50 ka0 rfl rfl hb18 ?_
        refine r_iload_n hC dX10_agrees_53 3 rfl ?_
        refine x_iaload hC hk18 hn18 (by decide) rfl rfl dX10_agrees_54 (by omega) (by omega) (fun x19_ e19 => ?_)
        have q19 : x19_.toInt = E 2 x4_3.toInt.toNat := by rw [e19, clx (i := x4_3) rfl (by omega)]; exact (mc.mv hs ka0 khm hF2 rfl).rdr (r := 2) (by decide) hb18 (by first | omega | (rw [hF2.get ka0 rfl]; omega))
        obtain ⟨jp19, jd19, ji19, jo19⟩ := mc.rdb (j := x4_3.toInt.toNat) (by omega)
        refine r_isub hC dX10_agrees_55 (fun x20_ e20 => ?_)
        try have t20 : x20_.toInt = x17_.toInt - x19_.toInt := by rw [e20]; exact ti_sub (by omega) (by omega)
        refine r_istore hC (lv' := [(4, .int x20_), (0, .ref a0), (1, .int x1), (2, .int x2), (3, .int x4_3)]) dX10_agrees_56 (by decide) rfl ?_
        refine r_iload hC dX10_agrees_58 0 rfl ?_
        refine r_aload_n hC dX10_agrees_60 1 rfl ?_
        obtain ⟨a21_, hb21, hk21, hn21⟩ := hs2.row ka0 24 92 24 (by decide) (by decide)
        refine r_getr hC 24 (ci := 10) rfl u10_in (by decide) mT_5_19 dX10_agrees_61 ka0 rfl rfl hb21 ?_
        refine r_iload_n hC dX10_agrees_64 4 rfl ?_
        refine x_iaload hC hk21 hn21 (by decide) rfl rfl dX10_agrees_65 (by omega) (by omega) (fun x22_ e22 => ?_)
        have q22 : x22_.toInt = E 3 x4_3.toInt.toNat := by rw [e22, clx (i := x4_3) rfl (by omega)]; exact (mc.mv hs ka0 khm hF2 rfl).rdr (r := 3) (by decide) hb21 (by first | omega | (rw [hF2.get ka0 rfl]; omega))
        obtain ⟨jp22, jd22, ji22, jo22⟩ := mc.rdb (j := x4_3.toInt.toNat) (by omega)
        refine r_icmp_gt hC (tgt := 81) dX10_agrees_66 (by decide) (fun c23 => ?_) (fun c23 => ?_)
        · refine r_iconst hC (v := (0)) dX10_agrees_81 (by decide) (by decide) (fun x24_ e24 t24 => ?_)
          exact r_iret hC hQ hlk hr (by rw [e24]; rfl) (by decide) (by decide) dX10_agrees_82 ⟨_, _, rfl, rfl, ⟨hs2, hF2, (by first | exact Or.inl ⟨by omega, by rw [show N = x4_3.toInt.toNat by omega]; exact v4_2⟩ | exact Or.inr ⟨by omega, by have h8 := Mf_l2 (D := D) (E := E) (s := x1.toInt.toNat) (show x4_3.toInt.toNat + 1 ≤ N by omega); rw [Mf_t (by omega)] at h8; omega⟩)⟩⟩
        · refine r_iload hC dX10_agrees_69 0 rfl ?_
          refine r_ineg hC dX10_agrees_71 (fun x25_ e25 => ?_)
          have tn : x25_.toInt = -x20_.toInt := ti_neg e25 (by omega)
          refine r_aload_n hC dX10_agrees_72 1 rfl ?_
          refine r_getr hC 24 (ci := 10) rfl u10_in (by decide) mT_5_19 dX10_agrees_73 ka0 rfl rfl hb21 ?_
          refine r_iload_n hC dX10_agrees_76 4 rfl ?_
          refine x_iaload hC hk21 hn21 (by decide) rfl rfl dX10_agrees_77 (by omega) (by omega) (fun x26_ e26 => ?_)
          have q26 : x26_.toInt = E 3 x4_3.toInt.toNat := by rw [e26, clx (i := x4_3) rfl (by omega)]; exact (mc.mv hs ka0 khm hF2 rfl).rdr (r := 3) (by decide) hb21 (by first | omega | (rw [hF2.get ka0 rfl]; omega))
          obtain ⟨jp26, jd26, ji26, jo26⟩ := mc.rdb (j := x4_3.toInt.toNat) (by omega)
          refine r_icmp_le hC (tgt := 83) dX10_agrees_78 (by decide) (fun c27 => ?_) (fun c27 => ?_)
          · obtain ⟨x28_, e28⟩ : ∃ z : Int32, z = x4_3 + Int32.ofInt (1) := ⟨_, rfl⟩
            refine r_iinc hC (j := 4) (v := x28_) (lv' := [(3, .int x28_), (4, .int x20_), (0, .ref a0), (1, .int x1), (2, .int x2)]) dX10_agrees_83 rfl (by rw [e28]) (by decide) rfl ?_
            try have t28 : x28_.toInt = x4_3.toInt + (1) := by rw [e28]; exact (ti_add (b := Int32.ofInt (1)) (by show _ ≤ _ + (1 : Int); omega) (by show _ + (1 : Int) ≤ _; omega))
            refine r_goto hC (tgt := 7) dX10_agrees_86 (by decide) ?_
            refine r_sub [2, 3, 4, 0] rfl ?_
            exact ih4 ((24 - x28_.toInt).toNat) (by omega) x28_ (by omega) (by omega) (by first | (rw [show x28_.toInt.toNat = 0 by omega]; show _ < (60 : Int); omega) | (rw [show x28_.toInt.toNat = x4_3.toInt.toNat + 1 by omega, Mf_n (by omega)]; omega) | (rw [show x28_.toInt.toNat = x4_3.toInt.toNat + 1 by omega]; by_cases h8 : E 3 x4_3.toInt.toNat < NV D x1.toInt.toNat (Ad D x1.toInt.toNat (LP1 D) 1) (E 1 x4_3.toInt.toNat).toNat (E 0 x4_3.toInt.toNat).toNat - E 2 x4_3.toInt.toNat ∨ E 3 x4_3.toInt.toNat < E 2 x4_3.toInt.toNat - NV D x1.toInt.toNat (Ad D x1.toInt.toNat (LP1 D) 1) (E 1 x4_3.toInt.toNat).toNat (E 0 x4_3.toInt.toNat).toNat; (rw [Mf_t h8]; omega); (rw [Mf_n h8]; omega))) rfl
          · refine r_iconst hC (v := (0)) dX10_agrees_81 (by decide) (by decide) (fun x29_ e29 t29 => ?_)
            exact r_iret hC hQ hlk hr (by rw [e29]; rfl) (by decide) (by decide) dX10_agrees_82 ⟨_, _, rfl, rfl, ⟨hs2, hF2, (by first | exact Or.inl ⟨by omega, by rw [show N = x4_3.toInt.toNat by omega]; exact v4_2⟩ | exact Or.inr ⟨by omega, by have h8 := Mf_l2 (D := D) (E := E) (s := x1.toInt.toNat) (show x4_3.toInt.toNat + 1 ≤ N by omega); rw [Mf_t (by omega)] at h8; omega⟩)⟩⟩
      · refine r_goto hC (tgt := 83) dX10_agrees_25 (by decide) ?_
        obtain ⟨x30_, e30⟩ : ∃ z : Int32, z = x4_3 + Int32.ofInt (1) := ⟨_, rfl⟩
        refine r_iinc hC (j := 3) (v := x30_) (lv' := [(3, .int x30_), (0, .ref a0), (1, .int x1), (2, .int x2)]) dX10_agrees_83 rfl (by rw [e30]) (by decide) rfl ?_
        try have t30 : x30_.toInt = x4_3.toInt + (1) := by rw [e30]; exact (ti_add (b := Int32.ofInt (1)) (by show _ ≤ _ + (1 : Int); omega) (by show _ + (1 : Int) ≤ _; omega))
        refine r_goto hC (tgt := 7) dX10_agrees_86 (by decide) ?_
        refine r_sub [1, 2, 3, 0] rfl ?_
        exact ih4 ((24 - x30_.toInt).toNat) (by omega) x30_ (by omega) (by omega) (by first | (rw [show x30_.toInt.toNat = 0 by omega]; show _ < (60 : Int); omega) | (rw [show x30_.toInt.toNat = x4_3.toInt.toNat + 1 by omega, Mf_n (by omega)]; omega) | (rw [show x30_.toInt.toNat = x4_3.toInt.toNat + 1 by omega]; by_cases h8 : E 3 x4_3.toInt.toNat < NV D x1.toInt.toNat (Ad D x1.toInt.toNat (LP1 D) 1) (E 1 x4_3.toInt.toNat).toNat (E 0 x4_3.toInt.toNat).toNat - E 2 x4_3.toInt.toNat ∨ E 3 x4_3.toInt.toNat < E 2 x4_3.toInt.toNat - NV D x1.toInt.toNat (Ad D x1.toInt.toNat (LP1 D) 1) (E 1 x4_3.toInt.toNat).toNat (E 0 x4_3.toInt.toNat).toNat; (rw [Mf_t h8]; omega); (rw [Mf_n h8]; omega))) rfl
  refine r_sub [1, 2, 3, 0] rfl ?_
  exact LP4 _ x3_ (by omega) (by omega) (by first | (rw [show x3_.toInt.toNat = 0 by omega]; show _ < (60 : Int); omega) | (rw [show x3_.toInt.toNat = x4_3.toInt.toNat + 1 by omega, Mf_n (by omega)]; omega) | (rw [show x3_.toInt.toNat = x4_3.toInt.toNat + 1 by omega]; by_cases h8 : E 3 x4_3.toInt.toNat < NV D x1.toInt.toNat (Ad D x1.toInt.toNat (LP1 D) 1) (E 1 x4_3.toInt.toNat).toNat (E 0 x4_3.toInt.toNat).toNat - E 2 x4_3.toInt.toNat ∨ E 3 x4_3.toInt.toNat < E 2 x4_3.toInt.toNat - NV D x1.toInt.toNat (Ad D x1.toInt.toNat (LP1 D) 1) (E 1 x4_3.toInt.toNat).toNat (E 0 x4_3.toInt.toNat).toNat; (rw [Mf_t h8]; omega); (rw [Mf_n h8]; omega))) rfl
set_option maxHeartbeats 4000000 in
set_option maxRecDepth 100000 in
theorem f_X10_fitsUpTo (g : GG) (l : Launch) (K len : Nat → Nat) (I : Nat → Nat → Int32) (J : Nat → Nat → Int64) (R : Nat → Nat → Option Nat) (hs : Sf K len I R) (a0 : Nat) (ka0 : K a0 = 11) (x1 : Int32) (hm : Nat) (hbm : R a0 3 = some hm) (khm : K hm = 10) (lr : Nat) (hlr : R a0 15 = some lr) (klr : K lr = 85) (llr : len lr = 60) (sr : Nat) (hsr : R a0 16 = some sr) (ksr : K sr = 86) (lsr : len sr = 300) (ir : Nat) (hir : R a0 17 = some ir) (kir : K ir = 87) (lir : len ir = 300) (wr : Nat) (hwr : R a0 18 = some wr) (kwr : K wr = 88) (lwr : len wr = 300) (D : DD) (E : Nat → Nat → Int) (mc : MC D E a0 hm I R) (N : Nat) (hN : (I a0 20).toInt = N) (p0 : 0 ≤ x1.toInt ∧ x1.toInt ≤ 59) : Ct g l yX10_fitsUpTo cX10_fitsUpTo 4 (Option.some Jvm.ClassFile.FieldType.int) rmX10_fitsUpTo [.ref a0, .int x1] (K, len, I, J, R) (pI1 (K, len, I, J, R) (fun r I' => Sf K len I' R ∧ Fr K [(11, 19), (85, 999), (86, 999), (87, 999), (88, 999)] I I' ∧ (r.toInt = Fc D E N x1.toInt (D 0 7).toNat) ∧ (0 ≤ r.toInt ∧ r.toInt ≤ 6))) := by
  refine Ct_intro (by decide +kernel) (Nat.le_of_ble_eq_true rfl) (fun X hC hL hKK hNm hr hlk hQ => ?_)
  subst hL
  have hC : Cx g X cX10_fitsUpTo "HillTapModel" 4 rmX10_fitsUpTo := hC
  show P g X 4 0 [(0, .ref a0), (1, .int x1)] [] 0 0 (K, len, I, J, R)
  have hF : Fr K [(11, 19), (85, 999), (86, 999), (87, 999), (88, 999)] I I := Fr.refl
  obtain ⟨⟨hJ, hR6, hD7⟩, rwm, ⟨hd1, hd2, hd3, hd4, hd5, hd7, hd8, hd9⟩, -⟩ := id mc
  have hcx := CM_x hs khm
  have b5 := hs.rng khm (k := 3) rfl (x := I hm 3) rfl
  have b7 := hs.rng khm (k := 7) rfl (x := I hm 7) rfl
  have b8 := hs.rng khm (k := 8) rfl (x := I hm 8) rfl
  have b20 := hs.rng ka0 (k := 20) rfl (x := I a0 20) rfl
  have b_x1 := ti_rng x1
  obtain ⟨C20, eC20⟩ : ∃ z : Int32, z = I a0 20 := ⟨_, rfl⟩
  have fC20 : C20.toInt = (I a0 20).toInt := by rw [eC20]
  have rC20 := hs.rng ka0 rfl eC20
  obtain ⟨S0, eS0⟩ : ∃ z : Int32, z = I hm 7 := ⟨_, rfl⟩
  have fS0 : S0.toInt = (I hm 7).toInt := by rw [eS0]
  have rS0 := hs.rng khm rfl eS0
  refine r_iconst hC (v := (0)) dX10_fitsUpTo_0 (by decide) (by decide) (fun x1_ e1 t1 => ?_)
  refine r_istore_n hC (lv' := [(2, .int x1_), (0, .ref a0), (1, .int x1)]) dX10_fitsUpTo_1 (by decide) rfl ?_
  refine r_iconst hC (v := (0)) dX10_fitsUpTo_2 (by decide) (by decide) (fun x2_ e2 t2 => ?_)
  refine r_istore_n hC (lv' := [(3, .int x2_), (2, .int x1_), (0, .ref a0), (1, .int x1)]) dX10_fitsUpTo_3 (by decide) rfl ?_
  have LP3 : ∀ (mu : Nat) (x3_3 : Int32) (x3_2 : Int32) (I3 : Nat → Nat → Int32) (hs3 : Sf K len I3 R) (hF3 : Fr K [(11, 19), (85, 999), (86, 999), (87, 999), (88, 999)] I I3) (v3_0 : 0 ≤ x3_3.toInt) (v3_1 : x3_3.toInt ≤ D 0 7) (v3_2 : x3_2.toInt = Fc D E N x1.toInt x3_3.toInt.toNat) (v3_3 : 0 ≤ x3_2.toInt ∧ x3_2.toInt ≤ x3_3.toInt), (6 - x3_3.toInt).toNat = mu → P g X 4 4 [(0, .ref a0), (1, .int x1), (2, .int x3_2), (3, .int x3_3)] [] 0 0 (K, len, I3, J, R) := by
    intro mu; induction mu using Nat.strongRecOn with | ind mu ih => ?_
    intro x3_3 x3_2 I3 hs3 hF3 v3_0 v3_1 v3_2 v3_3 hmu
    have ih3 := ih
    clear ih
    have hmu3 := hmu
    clear hmu
    refine r_iload_n hC dX10_fitsUpTo_4 3 rfl ?_
    refine r_aload_n hC dX10_fitsUpTo_5 0 rfl ?_
    refine r_getr hC 3 (ci := 10) rfl u10_in (by decide) mT_4_238 dX10_fitsUpTo_6 ka0 rfl rfl hbm ?_
    refine r_getiN hC 7 (ci := 9) rfl u9_in (by decide) nF_7 dX10_fitsUpTo_9 khm rfl rfl (fun x4_ e4 => ?_)
    have r4 := hs3.rng khm rfl e4
    have f4 : x4_.toInt = (I3 hm 7).toInt := by rw [e4]
    have w4 : x4_ = S0 := by rw [e4]; exact (Eq.trans (hF3.get khm rfl) eS0.symm)
    have wt4 : x4_.toInt = S0.toInt := by rw [w4]
    have sc4 : x4_.toInt = D 0 7 := by rw [e4]; exact (mc.mv hs ka0 khm hF3 rfl).2.2.1.2.2.2.2.2.1
    refine r_icmp_ge hC (tgt := 38) dX10_fitsUpTo_12 (by decide) (fun c5 => ?_) (fun c5 => ?_)
    · refine r_iload_n hC dX10_fitsUpTo_38 2 rfl ?_
      exact r_iret hC hQ hlk hr rfl (by decide) (by decide) dX10_fitsUpTo_39 ⟨_, _, rfl, rfl, ⟨hs3, hF3, (by rw [show (D 0 7).toNat = x3_3.toInt.toNat by omega]; exact v3_2), (by omega)⟩⟩
    · refine r_iload_n hC dX10_fitsUpTo_15 2 rfl ?_
      refine r_aload_n hC dX10_fitsUpTo_16 0 rfl ?_
      refine r_iload_n hC dX10_fitsUpTo_17 3 rfl ?_
      refine r_iload_n hC dX10_fitsUpTo_18 1 rfl ?_
      have hv6 : I3 hm 7 = x4_ := e4.symm
      refine r_callV hC (As := [.int x3_3, .int x1]) (rest := [.int x3_2]) (ci := 10) (f_X10_agrees g (xL X) K len I3 J R hs3 a0 ka0 x3_3 x1 hm hbm khm (by rw [hv6]; omega) lr hlr klr llr sr hsr ksr lsr ir hir kir lir wr hwr kwr lwr D E (mc.mv hs ka0 khm hF3 rfl) N (by rw [hF3.get ka0 rfl]; exact hN) (by omega) (by omega) (by omega)) mT_6_188 mT_1_10 mT_6_185 mT_6_187 mP_83 okX10_agrees ⟨by decide, by decide⟩ rfl (by show kO (K a0) = _; rw [ka0]; rfl) rfl rfl (Nat.le_of_ble_eq_true rfl) ⟨by decide, by decide⟩ dX10_fitsUpTo_19 (aI1 (F := fun st M => P g X 4 22 [(0, .ref a0), (1, .int x1), (2, .int x3_2), (3, .int x3_3)] st _ _ M) (M := (K, len, I3, J, R)) fun x7_ I7 h7 => ?_)
      obtain ⟨hs7, hf7, k7_0⟩ := h7
      show P g X 4 22 [(0, .ref a0), (1, .int x1), (2, .int x3_2), (3, .int x3_3)] [.int x7_, .int x3_2] _ _ (K, len, I7, J, R)
      have hF7 : Fr K [(11, 19), (85, 999), (86, 999), (87, 999), (88, 999)] I I7 := hF3.trans hf7 rfl rfl
      refine r_if_eq hC (tgt := 29) dX10_fitsUpTo_22 (by decide) (fun c8 => ?_) (fun c8 => ?_)
      · refine r_iconst hC (v := (0)) dX10_fitsUpTo_29 (by decide) (by decide) (fun x9_ e9 t9 => ?_)
        refine r_iadd hC dX10_fitsUpTo_30 (fun x10_ e10 => ?_)
        try have t10 : x10_.toInt = x3_2.toInt + x9_.toInt := by rw [e10]; exact ti_add (by omega) (by omega)
        refine r_istore_n hC (lv' := [(2, .int x10_), (0, .ref a0), (1, .int x1), (3, .int x3_3)]) dX10_fitsUpTo_31 (by decide) rfl ?_
        obtain ⟨x11_, e11⟩ : ∃ z : Int32, z = x3_3 + Int32.ofInt (1) := ⟨_, rfl⟩
        refine r_iinc hC (j := 3) (v := x11_) (lv' := [(3, .int x11_), (2, .int x10_), (0, .ref a0), (1, .int x1)]) dX10_fitsUpTo_32 rfl (by rw [e11]) (by decide) rfl ?_
        try have t11 : x11_.toInt = x3_3.toInt + (1) := by rw [e11]; exact (ti_add (b := Int32.ofInt (1)) (by show _ ≤ _ + (1 : Int); omega) (by show _ + (1 : Int) ≤ _; omega))
        refine r_goto hC (tgt := 4) dX10_fitsUpTo_35 (by decide) ?_
        refine r_sub [2, 3, 1, 0] rfl ?_
        exact ih3 ((6 - x11_.toInt).toNat) (by omega) x11_ x10_ I7 hs7 hF7 (by omega) (by omega) (by first | (rw [show x11_.toInt.toNat = 0 by omega]; show _ = (0 : Int); omega) | (rw [show x11_.toInt.toNat = x3_3.toInt.toNat + 1 by omega, Fc_t (by omega)]; omega) | (rw [show x11_.toInt.toNat = x3_3.toInt.toNat + 1 by omega, Fc_n (by omega)]; omega)) (by omega) rfl
      · refine r_iconst hC (v := (1)) dX10_fitsUpTo_25 (by decide) (by decide) (fun x12_ e12 t12 => ?_)
        refine r_goto hC (tgt := 30) dX10_fitsUpTo_26 (by decide) ?_
        refine r_iadd hC dX10_fitsUpTo_30 (fun x13_ e13 => ?_)
        try have t13 : x13_.toInt = x3_2.toInt + x12_.toInt := by rw [e13]; exact ti_add (by omega) (by omega)
        refine r_istore_n hC (lv' := [(2, .int x13_), (0, .ref a0), (1, .int x1), (3, .int x3_3)]) dX10_fitsUpTo_31 (by decide) rfl ?_
        obtain ⟨x14_, e14⟩ : ∃ z : Int32, z = x3_3 + Int32.ofInt (1) := ⟨_, rfl⟩
        refine r_iinc hC (j := 3) (v := x14_) (lv' := [(3, .int x14_), (2, .int x13_), (0, .ref a0), (1, .int x1)]) dX10_fitsUpTo_32 rfl (by rw [e14]) (by decide) rfl ?_
        try have t14 : x14_.toInt = x3_3.toInt + (1) := by rw [e14]; exact (ti_add (b := Int32.ofInt (1)) (by show _ ≤ _ + (1 : Int); omega) (by show _ + (1 : Int) ≤ _; omega))
        refine r_goto hC (tgt := 4) dX10_fitsUpTo_35 (by decide) ?_
        refine r_sub [2, 3, 1, 0] rfl ?_
        exact ih3 ((6 - x14_.toInt).toNat) (by omega) x14_ x13_ I7 hs7 hF7 (by omega) (by omega) (by first | (rw [show x14_.toInt.toNat = 0 by omega]; show _ = (0 : Int); omega) | (rw [show x14_.toInt.toNat = x3_3.toInt.toNat + 1 by omega, Fc_t (by omega)]; omega) | (rw [show x14_.toInt.toNat = x3_3.toInt.toNat + 1 by omega, Fc_n (by omega)]; omega)) (by omega) rfl
  refine r_sub [2, 3, 1, 0] rfl ?_
  exact LP3 _ x2_ x1_ I hs hF (by omega) (by omega) (by first | (rw [show x2_.toInt.toNat = 0 by omega]; show _ = (0 : Int); omega) | (rw [show x2_.toInt.toNat = x3_3.toInt.toNat + 1 by omega, Fc_t (by omega)]; omega) | (rw [show x2_.toInt.toNat = x3_3.toInt.toNat + 1 by omega, Fc_n (by omega)]; omega)) (by omega) rfl
set_option maxHeartbeats 4000000 in
set_option maxRecDepth 100000 in
theorem f_X10_clear (g : GG) (l : Launch) (K len : Nat → Nat) (I : Nat → Nat → Int32) (J : Nat → Nat → Int64) (R : Nat → Nat → Option Nat) (hs : Sf K len I R) (a0 : Nat) (ka0 : K a0 = 11) (D : DD) (E : Nat → Nat → Int) (hmx : ∀ hm, R a0 3 = some hm → MC D E a0 hm I R) (N : Nat) (hN : (I a0 20).toInt = N) : Ct g l yX10_clear cX10_clear 2 (Option.some Jvm.ClassFile.FieldType.int) rmX10_clear [.ref a0] (K, len, I, J, R) (pI1 (K, len, I, J, R) (fun r I' => Sf K len I' R ∧ Fr K [(11, 0), (11, 1), (11, 2), (11, 19), (85, 999), (86, 999), (87, 999), (88, 999)] I I' ∧ ((R a0 3 = none ∧ r.toInt = -1) ∨ (∃ hm, R a0 3 = some hm ∧ ((1 ≤ D 0 7) ∧ r.toInt = Fo (Fdy D E N) 1 60 ∨ ¬ (1 ≤ D 0 7) ∧ r.toInt = -1))) ∧ ((I' a0 2).toInt = -1))) := by
  refine Ct_intro (by decide +kernel) (Nat.le_of_ble_eq_true rfl) (fun X hC hL hKK hNm hr hlk hQ => ?_)
  subst hL
  have hC : Cx g X cX10_clear "HillTapModel" 2 rmX10_clear := hC
  show P g X 2 0 [(0, .ref a0)] [] 0 0 (K, len, I, J, R)
  have hF : Fr K [(11, 0), (11, 1), (11, 2), (11, 19), (85, 999), (86, 999), (87, 999), (88, 999)] I I := Fr.refl
  obtain ⟨lr, hlr, klr, llr⟩ := hs.row ka0 15 85 60 (by decide) (by decide)
  obtain ⟨sr, hsr, ksr, lsr⟩ := hs.row ka0 16 86 300 (by decide) (by decide)
  obtain ⟨ir, hir, kir, lir⟩ := hs.row ka0 17 87 300 (by decide) (by decide)
  obtain ⟨wr, hwr, kwr, lwr⟩ := hs.row ka0 18 88 300 (by decide) (by decide)
  obtain ⟨C20, eC20⟩ : ∃ z : Int32, z = I a0 20 := ⟨_, rfl⟩
  have fC20 : C20.toInt = (I a0 20).toInt := by rw [eC20]
  have rC20 := hs.rng ka0 rfl eC20
  rcases hs.2.1.2.2.1 a0 ka0 with hz | ⟨hm, hbm, khm⟩
  · refine r_aload_n hC dX10_clear_0 0 rfl ?_
    refine r_iconst hC (v := (0)) dX10_clear_1 (by decide) (by decide) (fun x1_ e1 t1 => ?_)
    refine r_puti hC 0 (ci := 10) rfl u10_in tyX10_ok nmX10 (by decide) mT_4_235 rfl rfl rfl dX10_clear_2 ka0 rfl rfl (fun I2 eI2 => ?_)
    have hs2 := hs.put0 eI2 ka0 rfl rfl rfl (by decide)
    have hF2 := hF.put eI2 ka0 rfl
    refine r_aload_n hC dX10_clear_5 0 rfl ?_
    refine r_getz hC 3 (ci := 10) rfl u10_in (by decide) mT_4_238 dX10_clear_6 ka0 rfl rfl hz ?_
    refine r_ifnonnullN hC dX10_clear_9 ?_
    refine r_aload_n hC dX10_clear_12 0 rfl ?_
    refine r_iconst hC (v := (1)) dX10_clear_13 (by decide) (by decide) (fun x3_ e3 t3 => ?_)
    refine r_callV hC (As := [.int x3_]) (rest := []) (ci := 10) (c_X10_refused g (xL X) K len I2 J R hs2 a0 ka0 x3_) mT_5_85 mT_1_10 mT_5_82 mT_5_84 mP_48 okX10_refused ⟨by decide, by decide⟩ rfl (by show kO (K a0) = _; rw [ka0]; rfl) rfl rfl (Nat.le_of_ble_eq_true rfl) ⟨by decide, by decide⟩ dX10_clear_14 (aI1 (F := fun st M => P g X 2 17 [(0, .ref a0)] st _ _ M) (M := (K, len, I2, J, R)) fun x4_ I4 h4 => ?_)
    obtain ⟨hs4, hf4, k4_0, k4_1, k4_2⟩ := h4
    show P g X 2 17 [(0, .ref a0)] [.int x4_] _ _ (K, len, I4, J, R)
    have hF4 : Fr K [(11, 0), (11, 1), (11, 2), (11, 19), (85, 999), (86, 999), (87, 999), (88, 999)] I I4 := hF2.trans hf4 rfl rfl
    exact r_iret hC hQ hlk hr rfl (by decide) (by decide) dX10_clear_17 ⟨_, _, rfl, rfl, ⟨hs4, hF4, (by first | exact Or.inl ⟨hz, by omega⟩ | exact Or.inr ⟨hm, hbm, Or.inl ⟨by omega, (congrArg Int32.toInt k4_0).trans (by first | (rw [Fo_hit (k := NOx_l1.toInt.toNat) NOx_v20_2 (by rw [Fdy_i (d := NOx_l1.toInt) (by omega)]; omega) (by omega)]; omega) | (rw [show 60 = NOx_l1.toInt.toNat by omega, NOx_v20_2]; omega))⟩⟩), (by omega)⟩⟩
  · obtain ⟨S0, eS0⟩ : ∃ z : Int32, z = I hm 7 := ⟨_, rfl⟩
    have fS0 : S0.toInt = (I hm 7).toInt := by rw [eS0]
    have rS0 := hs.rng khm rfl eS0
    have mc := hmx hm hbm
    obtain ⟨⟨hJ, hR6, hD7⟩, rwm, ⟨hd1, hd2, hd3, hd4, hd5, hd7, hd8, hd9⟩, -⟩ := id mc
    have hcx := CM_x hs khm
    have b5 := hs.rng khm (k := 3) rfl (x := I hm 3) rfl
    have b7 := hs.rng khm (k := 7) rfl (x := I hm 7) rfl
    have b8 := hs.rng khm (k := 8) rfl (x := I hm 8) rfl
    have b20 := hs.rng ka0 (k := 20) rfl (x := I a0 20) rfl
    refine r_aload_n hC dX10_clear_0 0 rfl ?_
    refine r_iconst hC (v := (0)) dX10_clear_1 (by decide) (by decide) (fun x5_ e5 t5 => ?_)
    refine r_puti hC 0 (ci := 10) rfl u10_in tyX10_ok nmX10 (by decide) mT_4_235 rfl rfl rfl dX10_clear_2 ka0 rfl rfl (fun I6 eI6 => ?_)
    have hs6 := hs.put0 eI6 ka0 rfl rfl rfl (by decide)
    have hF6 := hF.put eI6 ka0 rfl
    refine r_aload_n hC dX10_clear_5 0 rfl ?_
    refine r_getr hC 3 (ci := 10) rfl u10_in (by decide) mT_4_238 dX10_clear_6 ka0 rfl rfl hbm ?_
    refine r_ifnonnull hC (tgt := 18) dX10_clear_9 (by decide) ?_
    refine r_iconst hC (v := (0)) dX10_clear_18 (by decide) (by decide) (fun x7_ e7 t7 => ?_)
    refine r_istore_n hC (lv' := [(1, .int x7_), (0, .ref a0)]) dX10_clear_19 (by decide) rfl ?_
    have LP8 : ∀ (mu : Nat) (x8_1 : Int32) (I8 : Nat → Nat → Int32) (hs8 : Sf K len I8 R) (hF8 : Fr K [(11, 0), (11, 1), (11, 2), (11, 19), (85, 999), (86, 999), (87, 999), (88, 999)] I I8) (v8_0 : 0 ≤ x8_1.toInt) (v8_1 : x8_1.toInt ≤ 60) (v8_2 : Fo (Fdy D E N) 1 x8_1.toInt.toNat = -2), (60 - x8_1.toInt).toNat = mu → P g X 2 20 [(0, .ref a0), (1, .int x8_1)] [] 0 0 (K, len, I8, J, R) := by
      intro mu; induction mu using Nat.strongRecOn with | ind mu ih => ?_
      intro x8_1 I8 hs8 hF8 v8_0 v8_1 v8_2 hmu
      have ih8 := ih
      clear ih
      have hmu8 := hmu
      clear hmu
      refine r_iload_n hC dX10_clear_20 1 rfl ?_
      refine r_bipush hC (v := (60)) dX10_clear_21 (by decide) (by decide) (fun x9_ e9 t9 => ?_)
      refine r_icmp_ge hC (tgt := 47) dX10_clear_23 (by decide) (fun c10 => ?_) (fun c10 => ?_)
      · refine r_aload_n hC dX10_clear_47 0 rfl ?_
        refine r_bipush hC (v := (-2)) dX10_clear_48 (by decide) (by decide) (fun x11_ e11 t11 => ?_)
        refine r_callV hC (As := [.int x11_]) (rest := []) (ci := 10) (c_X10_done g (xL X) K len I8 J R hs8 a0 ka0 x11_) mT_6_79 mT_1_10 mT_6_76 mT_6_78 mP_67 okX10_done ⟨by decide, by decide⟩ rfl (by show kO (K a0) = _; rw [ka0]; rfl) rfl rfl (Nat.le_of_ble_eq_true rfl) ⟨by decide, by decide⟩ dX10_clear_50 (aI1 (F := fun st M => P g X 2 53 [(0, .ref a0), (1, .int x8_1)] st _ _ M) (M := (K, len, I8, J, R)) fun x12_ I12 h12 => ?_)
        obtain ⟨hs12, hf12, k12_0, k12_1, k12_2⟩ := h12
        show P g X 2 53 [(0, .ref a0), (1, .int x8_1)] [.int x12_] _ _ (K, len, I12, J, R)
        have hF12 : Fr K [(11, 0), (11, 1), (11, 2), (11, 19), (85, 999), (86, 999), (87, 999), (88, 999)] I I12 := hF8.trans hf12 rfl rfl
        exact r_iret hC hQ hlk hr rfl (by decide) (by decide) dX10_clear_53 ⟨_, _, rfl, rfl, ⟨hs12, hF12, (by first | exact Or.inl ⟨hz, by omega⟩ | exact Or.inr ⟨hm, hbm, Or.inl ⟨by omega, (congrArg Int32.toInt k12_0).trans (by first | (rw [Fo_hit (k := x8_1.toInt.toNat) v8_2 (by rw [Fdy_i (d := x8_1.toInt) (by omega)]; omega) (by omega)]; omega) | (rw [show 60 = x8_1.toInt.toNat by omega, v8_2]; omega))⟩⟩), (by omega)⟩⟩
      · refine r_aload_n hC dX10_clear_26 0 rfl ?_
        refine r_iload_n hC dX10_clear_27 1 rfl ?_
        refine r_callV hC (As := [.int x8_1]) (rest := []) (ci := 10) (f_X10_fitsUpTo g (xL X) K len I8 J R hs8 a0 ka0 x8_1 hm hbm khm lr hlr klr llr sr hsr ksr lsr ir hir kir lir wr hwr kwr lwr D E (mc.mv hs ka0 khm hF8 rfl) N (by rw [hF8.get ka0 rfl]; exact hN) (by omega)) mT_6_184 mT_1_10 mT_6_181 mT_6_183 mP_82 okX10_fitsUpTo ⟨by decide, by decide⟩ rfl (by show kO (K a0) = _; rw [ka0]; rfl) rfl rfl (Nat.le_of_ble_eq_true rfl) ⟨by decide, by decide⟩ dX10_clear_28 (aI1 (F := fun st M => P g X 2 31 [(0, .ref a0), (1, .int x8_1)] st _ _ M) (M := (K, len, I8, J, R)) fun x13_ I13 h13 => ?_)
        obtain ⟨hs13, hf13, k13_0, k13_1⟩ := h13
        show P g X 2 31 [(0, .ref a0), (1, .int x8_1)] [.int x13_] _ _ (K, len, I13, J, R)
        have hF13 : Fr K [(11, 0), (11, 1), (11, 2), (11, 19), (85, 999), (86, 999), (87, 999), (88, 999)] I I13 := hF8.trans hf13 rfl rfl
        refine r_iconst hC (v := (1)) dX10_clear_31 (by decide) (by decide) (fun x14_ e14 t14 => ?_)
        refine r_icmp_ne hC (tgt := 41) dX10_clear_32 (by decide) (fun c15 => ?_) (fun c15 => ?_)
        · obtain ⟨x16_, e16⟩ : ∃ z : Int32, z = x8_1 + Int32.ofInt (1) := ⟨_, rfl⟩
          refine r_iinc hC (j := 1) (v := x16_) (lv' := [(1, .int x16_), (0, .ref a0)]) dX10_clear_41 rfl (by rw [e16]) (by decide) rfl ?_
          try have t16 : x16_.toInt = x8_1.toInt + (1) := by rw [e16]; exact (ti_add (b := Int32.ofInt (1)) (by show _ ≤ _ + (1 : Int); omega) (by show _ + (1 : Int) ≤ _; omega))
          refine r_goto hC (tgt := 20) dX10_clear_44 (by decide) ?_
          refine r_sub [1, 0] rfl ?_
          exact ih8 ((60 - x16_.toInt).toNat) (by omega) x16_ I13 hs13 hF13 (by omega) (by omega) (by first | (rw [show x16_.toInt.toNat = 0 by omega]; rfl) | (rw [show x16_.toInt.toNat = x8_1.toInt.toNat + 1 by omega]; exact Fo_n v8_2 (by rw [Fdy_i (d := x8_1.toInt) (by omega)]; omega))) rfl
        · refine r_aload_n hC dX10_clear_35 0 rfl ?_
          refine r_iload_n hC dX10_clear_36 1 rfl ?_
          refine r_callV hC (As := [.int x8_1]) (rest := []) (ci := 10) (c_X10_done g (xL X) K len I13 J R hs13 a0 ka0 x8_1) mT_6_79 mT_1_10 mT_6_76 mT_6_78 mP_67 okX10_done ⟨by decide, by decide⟩ rfl (by show kO (K a0) = _; rw [ka0]; rfl) rfl rfl (Nat.le_of_ble_eq_true rfl) ⟨by decide, by decide⟩ dX10_clear_37 (aI1 (F := fun st M => P g X 2 40 [(0, .ref a0), (1, .int x8_1)] st _ _ M) (M := (K, len, I13, J, R)) fun x17_ I17 h17 => ?_)
          obtain ⟨hs17, hf17, k17_0, k17_1, k17_2⟩ := h17
          show P g X 2 40 [(0, .ref a0), (1, .int x8_1)] [.int x17_] _ _ (K, len, I17, J, R)
          have hF17 : Fr K [(11, 0), (11, 1), (11, 2), (11, 19), (85, 999), (86, 999), (87, 999), (88, 999)] I I17 := hF13.trans hf17 rfl rfl
          exact r_iret hC hQ hlk hr rfl (by decide) (by decide) dX10_clear_40 ⟨_, _, rfl, rfl, ⟨hs17, hF17, (by first | exact Or.inl ⟨hz, by omega⟩ | exact Or.inr ⟨hm, hbm, Or.inl ⟨by omega, (congrArg Int32.toInt k17_0).trans (by first | (rw [Fo_hit (k := x8_1.toInt.toNat) v8_2 (by rw [Fdy_i (d := x8_1.toInt) (by omega)]; omega) (by omega)]; omega) | (rw [show 60 = x8_1.toInt.toNat by omega, v8_2]; omega))⟩⟩), (by omega)⟩⟩
    refine r_sub [1, 0] rfl ?_
    exact LP8 _ x7_ I6 hs6 hF6 (by omega) (by omega) (by first | (rw [show x7_.toInt.toNat = 0 by omega]; rfl) | (rw [show x7_.toInt.toNat = x8_1.toInt.toNat + 1 by omega]; exact Fo_n v8_2 (by rw [Fdy_i (d := x8_1.toInt) (by omega)]; omega))) rfl

