set_option maxHeartbeats 4000000 in
set_option maxRecDepth 100000 in
theorem f_X10_agrees (g : GG) (l : Launch) (K len : Nat → Nat) (I : Nat → Nat → Int32) (J : Nat → Nat → Int64) (R : Nat → Nat → Option Nat) (hs : Sf K len I R) (a0 : Nat) (ka0 : K a0 = 11) (x1 : Int32) (x2 : Int32) (hm : Nat) (hbm : R a0 3 = some hm) (khm : K hm = 10) (ps1 : x1.toInt < (I hm 7).toInt) (lr : Nat) (hlr : R a0 15 = some lr) (klr : K lr = 85) (llr : len lr = 60) (sr : Nat) (hsr : R a0 16 = some sr) (ksr : K sr = 86) (lsr : len sr = 300) (ir : Nat) (hir : R a0 17 = some ir) (kir : K ir = 87) (lir : len ir = 300) (wr : Nat) (hwr : R a0 18 = some wr) (kwr : K wr = 88) (lwr : len wr = 300) (D : DD) (E : Nat → Nat → Int) (mc : MC D E a0 hm I R) (N : Nat) (hN : (I a0 20).toInt = N) (p0 : 0 ≤ x1.toInt) (p1 : x1.toInt ≤ 5) (p2 : 0 ≤ x2.toInt ∧ x2.toInt ≤ 59) : Ct g l yX10_agrees cX10_agrees 5 (Option.some Jvm.ClassFile.FieldType.boolean) rmX10_agrees [.ref a0, .int x1, .int x2] (K, len, I, J, R) (pI1 (K, len, I, J, R) (fun r I' => Sf K len I' R ∧ Fr K [(11, 19), (85, 999), (86, 999), (87, 999), (88, 999)] I I' ∧ (r.toInt = 1 ∧ (x2.toInt < Mf D E x1.toInt.toNat N) ∨ r.toInt = 0 ∧ ¬ (x2.toInt < Mf D E x1.toInt.toNat N)))) := by
  refine Ct_intro (by decide +kernel) (Nat.le_of_ble_eq_true rfl) (fun X hC hL hKK hNm hr hlk hQ => ?_)
  subst hL
  have hC : Cx g X cX10_agrees "HillTapModel" 5 rmX10_agrees := hC
  show P g X 5 0 [(0, .ref a0), (1, .int x1), (2, .int x2)] [] 0 0 (K, len, I, J, R)
  have hF : Fr K [(11, 19), (85, 999), (86, 999), (87, 999), (88, 999)] I I := Fr.refl
  obtain ⟨⟨hJ, hR6, hD7⟩, rwm, ⟨hd1, hd2, hd3, hd4, hd5, hd7, hd8, hd9⟩, -⟩ := id mc
  have hcx := CM_x hs khm
  have b5 := hs.rng khm (k := 3) rfl (x := I hm 3) rfl
  have b7 := hs.rng khm (k := 7) rfl (x := I hm 7) rfl
  have b8 := hs.rng khm (k := 8) rfl (x := I hm 8) rfl
  have b20 := hs.rng ka0 (k := 20) rfl (x := I a0 20) rfl
  have b_x1 := ti_rng x1
  have b_x2 := ti_rng x2
  obtain ⟨C20, eC20⟩ : ∃ z : Int32, z = I a0 20 := ⟨_, rfl⟩
  have fC20 : C20.toInt = (I a0 20).toInt := by rw [eC20]
  have rC20 := hs.rng ka0 rfl eC20
  obtain ⟨S0, eS0⟩ : ∃ z : Int32, z = I hm 7 := ⟨_, rfl⟩
  have fS0 : S0.toInt = (I hm 7).toInt := by rw [eS0]
  have rS0 := hs.rng khm rfl eS0
  refine r_aload_n hC dX10_agrees_0 0 rfl ?_
  refine r_iload_n hC dX10_agrees_1 1 rfl ?_
  have hv1 : I hm 7 = S0 := eS0.symm
  refine r_callV hC (As := [.int x1]) (rest := []) (ci := 10) (f_X10_runsAsTold g (xL X) K len I J R hs a0 ka0 x1 hm hbm khm (by rw [hv1]; omega) lr hlr klr llr sr hsr ksr lsr ir hir kir lir wr hwr kwr lwr D E mc (by omega) (by omega)) mT_6_127 mT_1_10 mT_6_124 mT_6_126 mP_73 okX10_runsAsTold ⟨by decide, by decide⟩ rfl (by show kO (K a0) = _; rw [ka0]; rfl) rfl rfl (Nat.le_of_ble_eq_true rfl) ⟨by decide, by decide⟩ dX10_agrees_2 (aV1 (F := fun st M => P g X 5 5 [(0, .ref a0), (1, .int x1), (2, .int x2)] st _ _ M) (M := (K, len, I, J, R)) fun I2 h2 => ?_)
  obtain ⟨hs2, hf2, k2_0⟩ := h2
  show P g X 5 5 [(0, .ref a0), (1, .int x1), (2, .int x2)] [] _ _ (K, len, I2, J, R)
  have hF2 : Fr K [(11, 19), (85, 999), (86, 999), (87, 999), (88, 999)] I I2 := hF.trans hf2 rfl rfl
  refine r_iconst hC (v := (0)) dX10_agrees_5 (by decide) (by decide) (fun x3_ e3 t3 => ?_)
  refine r_istore_n hC (lv' := [(3, .int x3_), (0, .ref a0), (1, .int x1), (2, .int x2)]) dX10_agrees_6 (by decide) rfl ?_
  have LP4 : ∀ (mu : Nat) (x4_3 : Int32) (v4_0 : 0 ≤ x4_3.toInt) (v4_1 : x4_3.toInt ≤ N) (v4_2 : x2.toInt < Mf D E x1.toInt.toNat x4_3.toInt.toNat), (24 - x4_3.toInt).toNat = mu → P g X 5 7 [(0, .ref a0), (1, .int x1), (2, .int x2), (3, .int x4_3)] [] 0 0 (K, len, I2, J, R) := by
    intro mu; induction mu using Nat.strongRecOn with | ind mu ih => ?_
    intro x4_3 v4_0 v4_1 v4_2 hmu
    have ih4 := ih
    clear ih
    have hmu4 := hmu
    clear hmu
    refine r_iload_n hC dX10_agrees_7 3 rfl ?_
    refine r_aload_n hC dX10_agrees_8 0 rfl ?_
    refine r_geti hC 20 (ci := 10) rfl u10_in (by decide) mT_5_15 dX10_agrees_9 ka0 rfl rfl (fun x5_ e5 => ?_)
    have r5 := hs2.rng ka0 rfl e5
    have f5 : x5_.toInt = (I2 a0 20).toInt := by rw [e5]
    have w5 : x5_ = C20 := by rw [e5]; exact (Eq.trans (hf2.get ka0 rfl) eC20.symm)
    have wt5 : x5_.toInt = C20.toInt := by rw [w5]
    have sc5 : x5_.toInt = (I a0 20).toInt := by rw [e5, hF2.get ka0 rfl]
    refine r_icmp_ge hC (tgt := 89) dX10_agrees_12 (by decide) (fun c6 => ?_) (fun c6 => ?_)
    · refine r_iconst hC (v := (1)) dX10_agrees_89 (by decide) (by decide) (fun x7_ e7 t7 => ?_)
      exact r_iret hC hQ hlk hr (by rw [e7]; rfl) (by decide) (by decide) dX10_agrees_90 ⟨_, _, rfl, rfl, ⟨hs2, hF2, (by first | exact Or.inl ⟨by omega, by rw [show N = x4_3.toInt.toNat by omega]; exact v4_2⟩ | exact Or.inr ⟨by omega, by have h8 := Mf_l2 (D := D) (E := E) (s := x1.toInt.toNat) (show x4_3.toInt.toNat + 1 ≤ N by omega); rw [Mf_t (by omega)] at h8; omega⟩)⟩⟩
    · refine r_aload_n hC dX10_agrees_15 0 rfl ?_
      obtain ⟨a8_, hb8, hk8, hn8⟩ := hs2.row ka0 22 90 24 (by decide) (by decide)
      refine r_getr hC 22 (ci := 10) rfl u10_in (by decide) mT_5_17 dX10_agrees_16 ka0 rfl rfl hb8 ?_
      refine r_iload_n hC dX10_agrees_19 3 rfl ?_
      refine x_iaload hC hk8 hn8 (by decide) rfl rfl dX10_agrees_20 (by omega) (by omega) (fun x9_ e9 => ?_)
      have r9 := hs2.arr hk8 hn8 rfl (by omega) (by omega) e9
      have q9 : x9_.toInt = E 1 x4_3.toInt.toNat := by rw [e9, clx (i := x4_3) rfl (by omega)]; exact (mc.mv hs ka0 khm hF2 rfl).rdr (r := 1) (by decide) hb8 (by first | omega | (rw [hF2.get ka0 rfl]; omega))
      obtain ⟨jp9, jd9, ji9, jo9⟩ := mc.rdb (j := x4_3.toInt.toNat) (by omega)
      refine r_iload_n hC dX10_agrees_21 2 rfl ?_
      refine r_icmp_le hC (tgt := 28) dX10_agrees_22 (by decide) (fun c10 => ?_) (fun c10 => ?_)
      · refine r_aload_n hC dX10_agrees_28 0 rfl ?_
        refine r_getr hC 17 (ci := 10) rfl u10_in (by decide) mT_5_12 dX10_agrees_29 ka0 rfl rfl hir ?_
        refine r_bipush hC (v := (60)) dX10_agrees_32 (by decide) (by decide) (fun x11_ e11 t11 => ?_)
        refine r_aload_n hC dX10_agrees_34 0 rfl ?_
        obtain ⟨a12_, hb12, hk12, hn12⟩ := hs2.row ka0 21 89 24 (by decide) (by decide)
        refine r_getr hC 21 (ci := 10) rfl u10_in (by decide) mT_5_16 dX10_agrees_35 ka0 rfl rfl hb12 ?_
        refine r_iload_n hC dX10_agrees_38 3 rfl ?_
        refine x_iaload hC hk12 hn12 (by decide) rfl rfl dX10_agrees_39 (by omega) (by omega) (fun x13_ e13 => ?_)
        have r13 := hs2.arr hk12 hn12 rfl (by omega) (by omega) e13
        have q13 : x13_.toInt = E 0 x4_3.toInt.toNat := by rw [e13, clx (i := x4_3) rfl (by omega)]; exact (mc.mv hs ka0 khm hF2 rfl).rdr (r := 0) (by decide) hb12 (by first | omega | (rw [hF2.get ka0 rfl]; omega))
        obtain ⟨jp13, jd13, ji13, jo13⟩ := mc.rdb (j := x4_3.toInt.toNat) (by omega)
        refine r_imul hC dX10_agrees_40 (fun x14_ e14 => ?_)
        try have t14 : x14_.toInt = (60) * x13_.toInt := by rw [e14]; exact ti_mul (by omega) rfl (by omega) (by omega)
        refine r_aload_n hC dX10_agrees_41 0 rfl ?_
        refine r_getr hC 22 (ci := 10) rfl u10_in (by decide) mT_5_17 dX10_agrees_42 ka0 rfl rfl hb8 ?_
        refine r_iload_n hC dX10_agrees_45 3 rfl ?_
        refine x_iaload hC hk8 hn8 (by decide) rfl rfl dX10_agrees_46 (by omega) (by omega) (fun x15_ e15 => ?_)
        have r15 := hs2.arr hk8 hn8 rfl (by omega) (by omega) e15
        have q15 : x15_.toInt = E 1 x4_3.toInt.toNat := by rw [e15, clx (i := x4_3) rfl (by omega)]; exact (mc.mv hs ka0 khm hF2 rfl).rdr (r := 1) (by decide) hb8 (by first | omega | (rw [hF2.get ka0 rfl]; omega))
        obtain ⟨jp15, jd15, ji15, jo15⟩ := mc.rdb (j := x4_3.toInt.toNat) (by omega)
        refine r_iadd hC dX10_agrees_47 (fun x16_ e16 => ?_)
        try have t16 : x16_.toInt = x14_.toInt + x15_.toInt := by rw [e16]; exact ti_add (by omega) (by omega)
        refine x_iaload hC kir lir (by decide) rfl rfl dX10_agrees_48 (by omega) (by omega) (fun x17_ e17 => ?_)
        have q17 : x17_.toInt = NV D x1.toInt.toNat (Ad D x1.toInt.toNat (LP1 D) 1) (E 1 x4_3.toInt.toNat).toNat (E 0 x4_3.toInt.toNat).toNat := by rw [e17, clx (i := x16_) rfl (by omega), show x16_.toInt.toNat = 60 * (E 0 x4_3.toInt.toNat).toNat + (E 1 x4_3.toInt.toNat).toNat by omega]; exact k2_0.inc (by omega) (by omega)
        have jb17 := mc.nvb (s := x1.toInt.toNat) (show ((x1.toInt.toNat : Nat) : Int) < D 0 7 by omega) (w2 := 1) (E 1 x4_3.toInt.toNat).toNat (E 0 x4_3.toInt.toNat).toNat (by omega)
        refine r_aload_n hC dX10_agrees_49 0 rfl ?_
        obtain ⟨a18_, hb18, hk18, hn18⟩ := hs2.row ka0 23 91 24 (by decide) (by decide)
        refine r_getr hC 23 (ci := 10) rfl u10_in (by decide) mT_5_18 dX10_agrees_50 ka0 rfl rfl hb18 ?_
        refine r_iload_n hC dX10_agrees_53 3 rfl ?_
        refine x_iaload hC hk18 hn18 (by decide) rfl rfl dX10_agrees_54 (by omega) (by omega) (fun x19_ e19 => ?_)
        have q19 : x19_.toInt = E 2 x4_3.toInt.toNat := by rw [e19, clx (i := x4_3) rfl (by omega)]; exact (mc.mv hs ka0 khm hF2 rfl).rdr (r := 2) (by decide) hb18 (by first | omega | (rw [hF2.get ka0 rfl]; omega))
        obtain ⟨jp19, jd19, ji19, jo19⟩ := mc.rdb (j := x4_3.toInt.toNat) (by omega)
        refine r_isub hC dX10_agrees_55 (fun x20_ e20 => ?_)
        try have t20 : x20_.toInt = x17_.toInt - x19_.toInt := by rw [e20]; exact ti_sub (by omega) (by omega)
        refine r_istore hC (lv' := [(4, .int x20_), (0, .ref a0), (1, .int x1), (2, .int x2), (3, .int x4_3)]) dX10_agrees_56 (by decide) rfl ?_
        refine r_iload hC dX10_agrees_58 0 rfl ?_
        refine r_aload_n hC dX10_agrees_60 1 rfl ?_
        obtain ⟨a21_, hb21, hk21, hn21⟩ := hs2.row ka0 24 92 24 (by decide) (by decide)
        refine r_getr hC 24 (ci := 10) rfl u10_in (by decide) mT_5_19 dX10_agrees_61 ka0 rfl rfl hb21 ?_
        refine r_iload_n hC dX10_agrees_64 4 rfl ?_
        refine x_iaload hC hk21 hn21 (by decide) rfl rfl dX10_agrees_65 (by omega) (by omega) (fun x22_ e22 => ?_)
        have q22 : x22_.toInt = E 3 x4_3.toInt.toNat := by rw [e22, clx (i := x4_3) rfl (by omega)]; exact (mc.mv hs ka0 khm hF2 rfl).rdr (r := 3) (by decide) hb21 (by first | omega | (rw [hF2.get ka0 rfl]; omega))
        obtain ⟨jp22, jd22, ji22, jo22⟩ := mc.rdb (j := x4_3.toInt.toNat) (by omega)
        refine r_icmp_gt hC (tgt := 81) dX10_agrees_66 (by decide) (fun c23 => ?_) (fun c23 => ?_)
        · refine r_iconst hC (v := (0)) dX10_agrees_81 (by decide) (by decide) (fun x24_ e24 t24 => ?_)
          exact r_iret hC hQ hlk hr (by rw [e24]; rfl) (by decide) (by decide) dX10_agrees_82 ⟨_, _, rfl, rfl, ⟨hs2, hF2, (by first | exact Or.inl ⟨by omega, by rw [show N = x4_3.toInt.toNat by omega]; exact v4_2⟩ | exact Or.inr ⟨by omega, by have h8 := Mf_l2 (D := D) (E := E) (s := x1.toInt.toNat) (show x4_3.toInt.toNat + 1 ≤ N by omega); rw [Mf_t (by omega)] at h8; omega⟩)⟩⟩
        · refine r_iload hC dX10_agrees_69 0 rfl ?_
          refine r_ineg hC dX10_agrees_71 (fun x25_ e25 => ?_)
          have tn : x25_.toInt = -x20_.toInt := ti_neg e25 (by omega)
          refine r_aload_n hC dX10_agrees_72 1 rfl ?_
          refine r_getr hC 24 (ci := 10) rfl u10_in (by decide) mT_5_19 dX10_agrees_73 ka0 rfl rfl hb21 ?_
          refine r_iload_n hC dX10_agrees_76 4 rfl ?_
          refine x_iaload hC hk21 hn21 (by decide) rfl rfl dX10_agrees_77 (by omega) (by omega) (fun x26_ e26 => ?_)
          have q26 : x26_.toInt = E 3 x4_3.toInt.toNat := by rw [e26, clx (i := x4_3) rfl (by omega)]; exact (mc.mv hs ka0 khm hF2 rfl).rdr (r := 3) (by decide) hb21 (by first | omega | (rw [hF2.get ka0 rfl]; omega))
          obtain ⟨jp26, jd26, ji26, jo26⟩ := mc.rdb (j := x4_3.toInt.toNat) (by omega)
          refine r_icmp_le hC (tgt := 83) dX10_agrees_78 (by decide) (fun c27 => ?_) (fun c27 => ?_)
          · obtain ⟨x28_, e28⟩ : ∃ z : Int32, z = x4_3 + Int32.ofInt (1) := ⟨_, rfl⟩
            refine r_iinc hC (j := 4) (v := x28_) (lv' := [(3, .int x28_), (4, .int x20_), (0, .ref a0), (1, .int x1), (2, .int x2)]) dX10_agrees_83 rfl (by rw [e28]) (by decide) rfl ?_
            try have t28 : x28_.toInt = x4_3.toInt + (1) := by rw [e28]; exact (ti_add (b := Int32.ofInt (1)) (by show _ ≤ _ + (1 : Int); omega) (by show _ + (1 : Int) ≤ _; omega))
            refine r_goto hC (tgt := 7) dX10_agrees_86 (by decide) ?_
            refine r_sub [2, 3, 4, 0] rfl ?_
            exact ih4 ((24 - x28_.toInt).toNat) (by omega) x28_ (by omega) (by omega) (by first | (rw [show x28_.toInt.toNat = 0 by omega]; show _ < (60 : Int); omega) | (rw [show x28_.toInt.toNat = x4_3.toInt.toNat + 1 by omega, Mf_n (by omega)]; omega) | (rw [show x28_.toInt.toNat = x4_3.toInt.toNat + 1 by omega]; by_cases h8 : E 3 x4_3.toInt.toNat < NV D x1.toInt.toNat (Ad D x1.toInt.toNat (LP1 D) 1) (E 1 x4_3.toInt.toNat).toNat (E 0 x4_3.toInt.toNat).toNat - E 2 x4_3.toInt.toNat ∨ E 3 x4_3.toInt.toNat < E 2 x4_3.toInt.toNat - NV D x1.toInt.toNat (Ad D x1.toInt.toNat (LP1 D) 1) (E 1 x4_3.toInt.toNat).toNat (E 0 x4_3.toInt.toNat).toNat; (rw [Mf_t h8]; omega); (rw [Mf_n h8]; omega))) rfl
          · refine r_iconst hC (v := (0)) dX10_agrees_81 (by decide) (by decide) (fun x29_ e29 t29 => ?_)
            exact r_iret hC hQ hlk hr (by rw [e29]; rfl) (by decide) (by decide) dX10_agrees_82 ⟨_, _, rfl, rfl, ⟨hs2, hF2, (by first | exact Or.inl ⟨by omega, by rw [show N = x4_3.toInt.toNat by omega]; exact v4_2⟩ | exact Or.inr ⟨by omega, by have h8 := Mf_l2 (D := D) (E := E) (s := x1.toInt.toNat) (show x4_3.toInt.toNat + 1 ≤ N by omega); rw [Mf_t (by omega)] at h8; omega⟩)⟩⟩
      · refine r_goto hC (tgt := 83) dX10_agrees_25 (by decide) ?_
        obtain ⟨x30_, e30⟩ : ∃ z : Int32, z = x4_3 + Int32.ofInt (1) := ⟨_, rfl⟩
        refine r_iinc hC (j := 3) (v := x30_) (lv' := [(3, .int x30_), (0, .ref a0), (1, .int x1), (2, .int x2)]) dX10_agrees_83 rfl (by rw [e30]) (by decide) rfl ?_
        try have t30 : x30_.toInt = x4_3.toInt + (1) := by rw [e30]; exact (ti_add (b := Int32.ofInt (1)) (by show _ ≤ _ + (1 : Int); omega) (by show _ + (1 : Int) ≤ _; omega))
        refine r_goto hC (tgt := 7) dX10_agrees_86 (by decide) ?_
        refine r_sub [1, 2, 3, 0] rfl ?_
        exact ih4 ((24 - x30_.toInt).toNat) (by omega) x30_ (by omega) (by omega) (by first | (rw [show x30_.toInt.toNat = 0 by omega]; show _ < (60 : Int); omega) | (rw [show x30_.toInt.toNat = x4_3.toInt.toNat + 1 by omega, Mf_n (by omega)]; omega) | (rw [show x30_.toInt.toNat = x4_3.toInt.toNat + 1 by omega]; by_cases h8 : E 3 x4_3.toInt.toNat < NV D x1.toInt.toNat (Ad D x1.toInt.toNat (LP1 D) 1) (E 1 x4_3.toInt.toNat).toNat (E 0 x4_3.toInt.toNat).toNat - E 2 x4_3.toInt.toNat ∨ E 3 x4_3.toInt.toNat < E 2 x4_3.toInt.toNat - NV D x1.toInt.toNat (Ad D x1.toInt.toNat (LP1 D) 1) (E 1 x4_3.toInt.toNat).toNat (E 0 x4_3.toInt.toNat).toNat; (rw [Mf_t h8]; omega); (rw [Mf_n h8]; omega))) rfl
  refine r_sub [1, 2, 3, 0] rfl ?_
  exact LP4 _ x3_ (by omega) (by omega) (by first | (rw [show x3_.toInt.toNat = 0 by omega]; show _ < (60 : Int); omega) | (rw [show x3_.toInt.toNat = x4_3.toInt.toNat + 1 by omega, Mf_n (by omega)]; omega) | (rw [show x3_.toInt.toNat = x4_3.toInt.toNat + 1 by omega]; by_cases h8 : E 3 x4_3.toInt.toNat < NV D x1.toInt.toNat (Ad D x1.toInt.toNat (LP1 D) 1) (E 1 x4_3.toInt.toNat).toNat (E 0 x4_3.toInt.toNat).toNat - E 2 x4_3.toInt.toNat ∨ E 3 x4_3.toInt.toNat < E 2 x4_3.toInt.toNat - NV D x1.toInt.toNat (Ad D x1.toInt.toNat (LP1 D) 1) (E 1 x4_3.toInt.toNat).toNat (E 0 x4_3.toInt.toNat).toNat; (rw [Mf_t h8]; omega); (rw [Mf_n h8]; omega))) rfl
