set_option maxHeartbeats 4000000 in
set_option maxRecDepth 100000 in
theorem f_X10_runs (g : GG) (l : Launch) (K len : Nat → Nat) (I : Nat → Nat → Int32) (J : Nat → Nat → Int64) (R : Nat → Nat → Option Nat) (hs : Sf K len I R) (a0 : Nat) (ka0 : K a0 = 11) (x1 : Int32) (x2 : Int32) (hm : Nat) (hbm : R a0 3 = some hm) (khm : K hm = 10) (ps1 : x1.toInt < (I hm 7).toInt) (sr : Nat) (hsr : R a0 16 = some sr) (ksr : K sr = 86) (lsr : len sr = 300) (ir : Nat) (hir : R a0 17 = some ir) (kir : K ir = 87) (lir : len ir = 300) (wr : Nat) (hwr : R a0 18 = some wr) (kwr : K wr = 88) (lwr : len wr = 300) (lr : Nat) (hlr : R a0 15 = some lr) (klr : K lr = 85) (llr : len lr = 60) (L : Nat → Int) (hL : ∀ j : Nat, j < 60 → (I lr j).toInt = L j ∧ 0 ≤ L j ∧ L j ≤ 999) (hLb : ∀ j, 0 ≤ L j ∧ L j ≤ 999) (D : DD) (hJ : DJ D) (h6 : D 0 6 ≤ 6) (rwm : RW (CM hm R) (cntN D) D I) (hd1 : (I hm 0).toInt = D 0 1) (hd5 : (I hm 3).toInt = D 0 5) (hd7 : (I hm 7).toInt = D 0 7) (rr : Nat) (hrr : R hm 15 = some rr) (krr : K rr = 74) (lrr : len rr = 60) (hrn : ∀ j : Nat, j < 60 → (I rr j).toInt = D 5 j ∧ 0 ≤ D 5 j ∧ D 5 j ≤ 594) (p0 : 0 ≤ x1.toInt) (p1 : x1.toInt ≤ 5) : Ct g l yX10_runs cX10_runs 9 (Option.none : Option Jvm.ClassFile.FieldType) rmX10_runs [.ref a0, .int x1, .int x2] (K, len, I, J, R) (pV1 (K, len, I, J, R) (fun I' => Sf K len I' R ∧ Fr K [(11, 19), (86, 999), (87, 999), (88, 999)] I I' ∧ (CRj D x1.toInt.toNat (Ad D x1.toInt.toNat L x2.toInt) sr ir wr 60 0 I') ∧ ((I' a0 19).toInt = GV D x1.toInt.toNat (Ad D x1.toInt.toNat L x2.toInt) 60))) := by
  refine Ct_intro (by decide +kernel) (Nat.le_of_ble_eq_true rfl) (fun X hC hL hKK hNm hr hlk hQ => ?_)
  subst hL
  have hC : Cx g X cX10_runs "HillTapModel" 9 rmX10_runs := hC
  show P g X 9 0 [(0, .ref a0), (1, .int x1), (2, .int x2)] [] 0 0 (K, len, I, J, R)
  have hF : Fr K [(11, 19), (86, 999), (87, 999), (88, 999)] I I := Fr.refl
  have hcx := CM_x hs khm
  have hsk : x1.toInt < D 0 7 := by omega
  have hA0 : ∀ d, 0 ≤ (Ad D x1.toInt.toNat L x2.toInt) d ∧ (Ad D x1.toInt.toNat L x2.toInt) d ≤ 300000 := Ad_b hJ h6 (by omega) hLb
  have b5 := hs.rng khm (k := 3) rfl (x := I hm 3) rfl
  have kne : ∀ {y z u t : Nat}, K y = u → K z = t → u ≠ t → y ≠ z := fun g1 g2 g3 e => g3 (by rw [← g1, ← g2, e])
  have na0 : ¬ (a0 = sr ∨ a0 = ir ∨ a0 = wr) := fun z => by rcases z with z | z | z; exact kne ka0 ksr (by decide) z; exact kne ka0 kir (by decide) z; exact kne ka0 kwr (by decide) z
  have b_x1 := ti_rng x1
  have b_x2 := ti_rng x2
  obtain ⟨P3, eP3⟩ : ∃ z : Int32, z = I hm 3 := ⟨_, rfl⟩
  have fP3 : P3.toInt = (I hm 3).toInt := by rw [eP3]
  have rP3 := hs.rng khm rfl eP3
  obtain ⟨S0, eS0⟩ : ∃ z : Int32, z = I hm 7 := ⟨_, rfl⟩
  have fS0 : S0.toInt = (I hm 7).toInt := by rw [eS0]
  have rS0 := hs.rng khm rfl eS0
  refine r_aload_n hC dX10_runs_0 0 rfl ?_
  refine r_bipush hC (v := (-2)) dX10_runs_1 (by decide) (by decide) (fun x1_ e1 t1 => ?_)
  refine r_puti hC 19 (ci := 10) rfl u10_in tyX10_ok nmX10 (by decide) mT_5_14 rfl rfl rfl dX10_runs_3 ka0 rfl rfl (fun I2 eI2 => ?_)
  have hs2 : Sf K len I2 R := hs.putB19 eI2 ka0 (by omega) (by omega)
  have hF2 := hF.put eI2 ka0 rfl
  refine r_iconst hC (v := (0)) dX10_runs_6 (by decide) (by decide) (fun x3_ e3 t3 => ?_)
  refine r_istore_n hC (lv' := [(3, .int x3_), (0, .ref a0), (1, .int x1), (2, .int x2)]) dX10_runs_7 (by decide) rfl ?_
  have LP4 : ∀ (mu : Nat) (x4_3 : Int32) (I4 : Nat → Nat → Int32) (hs4 : Sf K len I4 R) (hF4 : Fr K [(11, 19), (86, 999), (87, 999), (88, 999)] I I4) (v4_0 : 0 ≤ x4_3.toInt) (v4_1 : x4_3.toInt ≤ 60) (v4_2 : CRj D x1.toInt.toNat (Ad D x1.toInt.toNat L x2.toInt) sr ir wr x4_3.toInt.toNat 0 I4) (v4_3 : (I4 a0 19).toInt = GV D x1.toInt.toNat (Ad D x1.toInt.toNat L x2.toInt) x4_3.toInt.toNat), (60 - x4_3.toInt).toNat = mu → P g X 9 8 [(0, .ref a0), (1, .int x1), (2, .int x2), (3, .int x4_3)] [] 0 0 (K, len, I4, J, R) := by
    intro mu; induction mu using Nat.strongRecOn with | ind mu ih => ?_
    intro x4_3 I4 hs4 hF4 v4_0 v4_1 v4_2 v4_3 hmu
    have ih4 := ih
    clear ih
    have hmu4 := hmu
    clear hmu
    obtain ⟨Go4, eGo4⟩ : ∃ z : Int32, z = I4 a0 19 := ⟨_, rfl⟩
    have fGo4 : Go4.toInt = (I4 a0 19).toInt := by rw [eGo4]
    have rGo4 := hs4.rng ka0 rfl eGo4
    refine r_iload_n hC dX10_runs_8 3 rfl ?_
    refine r_bipush hC (v := (60)) dX10_runs_9 (by decide) (by decide) (fun x5_ e5 t5 => ?_)
    refine r_icmp_ge hC (tgt := 215) dX10_runs_11 (by decide) (fun c6 => ?_) (fun c6 => ?_)
    · exact r_vret hC hQ hlk hr (by decide) (by decide) dX10_runs_215 ⟨_, rfl, rfl, ⟨hs4, hF4, (by have h9 := v4_2; rw [show x4_3.toInt.toNat = 60 by omega] at h9; exact h9), (by have h9 := v4_3; rw [show x4_3.toInt.toNat = 60 by omega] at h9; exact h9)⟩⟩
    · refine r_iconst hC (v := (0)) dX10_runs_14 (by decide) (by decide) (fun x7_ e7 t7 => ?_)
      refine r_istore hC (lv' := [(4, .int x7_), (0, .ref a0), (1, .int x1), (2, .int x2), (3, .int x4_3)]) dX10_runs_15 (by decide) rfl ?_
      refine r_aload_n hC dX10_runs_17 1 rfl ?_
      refine r_iload_n hC dX10_runs_18 2 rfl ?_
      refine r_iload_n hC dX10_runs_19 4 rfl ?_
      refine r_iload_n hC dX10_runs_20 3 rfl ?_
      have hv8 : I4 hm 7 = S0 := (Eq.trans (hF4.get khm rfl) eS0.symm)
      refine r_callV hC (As := [.int x1, .int x4_3, .int x2]) (rest := []) (ci := 10) (f_X10_addOf g (xL X) K len I4 J R hs4 a0 ka0 x1 x4_3 x2 hm hbm khm (by rw [hv8]; omega) lr hlr klr llr L (fun j hj => by rw [hF4.get klr rfl]; exact hL j hj) D hJ (rwm.mv hcx qM_big hF4 rfl) (by rw [hF4.get khm rfl]; exact hd1) hsk rr hrr krr lrr (fun j hj => by rw [hF4.get krr rfl]; exact hrn j hj) (by omega) (by omega) (by omega) (by omega)) mT_6_135 mT_1_10 mT_6_132 mT_6_134 mP_75 okX10_addOf ⟨by decide, by decide⟩ rfl (by show kO (K a0) = _; rw [ka0]; rfl) rfl rfl (Nat.le_of_ble_eq_true rfl) ⟨by decide, by decide⟩ dX10_runs_21 (aI0 (F := fun st M => P g X 9 24 [(4, .int x7_), (0, .ref a0), (1, .int x1), (2, .int x2), (3, .int x4_3)] st _ _ M) (M := (K, len, I4, J, R)) fun x9_ h9 => ?_)
      have k9_0 := h9
      clear h9
      show P g X 9 24 [(4, .int x7_), (0, .ref a0), (1, .int x1), (2, .int x2), (3, .int x4_3)] [.int x9_] _ _ (K, len, I4, J, R)
      have had : x9_.toInt = (Ad D x1.toInt.toNat L x2.toInt) x4_3.toInt.toNat := k9_0
      refine r_istore hC (lv' := [(5, .int x9_), (4, .int x7_), (0, .ref a0), (1, .int x1), (2, .int x2), (3, .int x4_3)]) dX10_runs_24 (by decide) rfl ?_
      refine r_iconst hC (v := (0)) dX10_runs_26 (by decide) (by decide) (fun x10_ e10 t10 => ?_)
      refine r_istore hC (lv' := [(6, .int x10_), (5, .int x9_), (4, .int x7_), (0, .ref a0), (1, .int x1), (2, .int x2), (3, .int x4_3)]) dX10_runs_27 (by decide) rfl ?_
      have LP11 : ∀ (mu : Nat) (x11_6 : Int32) (x11_4 : Int32) (I11 : Nat → Nat → Int32) (hs11 : Sf K len I11 R) (hF11 : Fr K [(11, 19), (86, 999), (87, 999), (88, 999)] I I11) (v11_0 : 0 ≤ x11_6.toInt) (v11_1 : x11_6.toInt ≤ D 0 5) (v11_2 : CRj D x1.toInt.toNat (Ad D x1.toInt.toNat L x2.toInt) sr ir wr x4_3.toInt.toNat x11_6.toInt.toNat I11) (v11_3 : (I11 a0 19).toInt = GV D x1.toInt.toNat (Ad D x1.toInt.toNat L x2.toInt) x4_3.toInt.toNat) (v11_4 : (x11_4.toInt = 1 ∧ gs (SV D x1.toInt.toNat (Ad D x1.toInt.toNat L x2.toInt) x4_3.toInt.toNat) ((x4_3.toInt.toNat : Nat) : Int) (GV D x1.toInt.toNat (Ad D x1.toInt.toNat L x2.toInt) x4_3.toInt.toNat) x11_6.toInt.toNat = ((x4_3.toInt.toNat : Nat) : Int)) ∨ (x11_4.toInt = 0 ∧ gs (SV D x1.toInt.toNat (Ad D x1.toInt.toNat L x2.toInt) x4_3.toInt.toNat) ((x4_3.toInt.toNat : Nat) : Int) (GV D x1.toInt.toNat (Ad D x1.toInt.toNat L x2.toInt) x4_3.toInt.toNat) x11_6.toInt.toNat = GV D x1.toInt.toNat (Ad D x1.toInt.toNat L x2.toInt) x4_3.toInt.toNat)), (5 - x11_6.toInt).toNat = mu → P g X 9 29 [(0, .ref a0), (1, .int x1), (2, .int x2), (3, .int x4_3), (4, .int x11_4), (5, .int x9_), (6, .int x11_6)] [] 0 0 (K, len, I11, J, R) := by
        intro mu; induction mu using Nat.strongRecOn with | ind mu ih => ?_
        intro x11_6 x11_4 I11 hs11 hF11 v11_0 v11_1 v11_2 v11_3 v11_4 hmu
        have ih11 := ih
        clear ih
        have hmu11 := hmu
        clear hmu
        obtain ⟨Gi11, eGi11⟩ : ∃ z : Int32, z = I11 a0 19 := ⟨_, rfl⟩
        have fGi11 : Gi11.toInt = (I11 a0 19).toInt := by rw [eGi11]
        have rGi11 := hs11.rng ka0 rfl eGi11
        refine r_iload hC dX10_runs_29 6 rfl ?_
        refine r_aload_n hC dX10_runs_31 0 rfl ?_
        refine r_getr hC 3 (ci := 10) rfl u10_in (by decide) mT_4_238 dX10_runs_32 ka0 rfl rfl hbm ?_
        refine r_getiN hC 3 (ci := 9) rfl u9_in (by decide) nF_3 dX10_runs_35 khm rfl rfl (fun x12_ e12 => ?_)
        have r12 := hs11.rng khm rfl e12
        have f12 : x12_.toInt = (I11 hm 3).toInt := by rw [e12]
        have w12 : x12_ = P3 := by rw [e12]; exact (Eq.trans (hF11.get khm rfl) eP3.symm)
        have wt12 : x12_.toInt = P3.toInt := by rw [w12]
        refine r_icmp_ge hC (tgt := 199) dX10_runs_38 (by decide) (fun c13 => ?_) (fun c13 => ?_)
        · refine r_iload hC dX10_runs_199 4 rfl ?_
          refine r_if_eq hC (tgt := 209) dX10_runs_201 (by decide) (fun c14 => ?_) (fun c14 => ?_)
          · obtain ⟨x15_, e15⟩ : ∃ z : Int32, z = x4_3 + Int32.ofInt (1) := ⟨_, rfl⟩
            refine r_iinc hC (j := 3) (v := x15_) (lv' := [(3, .int x15_), (0, .ref a0), (1, .int x1), (2, .int x2), (4, .int x11_4), (5, .int x9_), (6, .int x11_6)]) dX10_runs_209 rfl (by rw [e15]) (by decide) rfl ?_
            try have t15 : x15_.toInt = x4_3.toInt + (1) := by rw [e15]; exact (ti_add (b := Int32.ofInt (1)) (by show _ ≤ _ + (1 : Int); omega) (by show _ + (1 : Int) ≤ _; omega))
            refine r_goto hC (tgt := 8) dX10_runs_212 (by decide) ?_
            have hv19 : I11 a0 19 = Gi11 := eGi11.symm
            have hv19t : (I11 a0 19).toInt = Gi11.toInt := congrArg Int32.toInt hv19
            refine r_sub [1, 2, 3, 0] rfl ?_
            exact ih4 ((60 - x15_.toInt).toNat) (by omega) x15_ I11 hs11 hF11 (by omega) (by omega) (by first | (rw [show x15_.toInt.toNat = 0 by omega]; exact CRj_0) | (rw [show x15_.toInt.toNat = x4_3.toInt.toNat + 1 by omega]; exact v11_2.day (by omega))) (by first | (rw [show x15_.toInt.toNat = 0 by omega, GV_0]; omega) | (rw [show x15_.toInt.toNat = x4_3.toInt.toNat + 1 by omega, GV_s, show (D 0 5).toNat = x11_6.toInt.toNat by omega]; have h9 := v11_3; rcases v11_4 with z | z <;> rw [z.2] <;> omega)) rfl
          · refine r_aload_n hC dX10_runs_204 0 rfl ?_
            refine r_iload_n hC dX10_runs_205 3 rfl ?_
            refine r_puti hC 19 (ci := 10) rfl u10_in tyX10_ok nmX10 (by decide) mT_5_14 rfl rfl rfl dX10_runs_206 ka0 rfl rfl (fun I16 eI16 => ?_)
            have hs16 : Sf K len I16 R := hs11.putB19 eI16 ka0 (by omega) (by omega)
            have hF16 := hF11.put eI16 ka0 rfl
            have cr16 := v11_2.eq (I1 := I16) (fun b k z => up2_at (Or.inl (fun y => by rw [y] at z; exact na0 z)) eI16)
            obtain ⟨x17_, e17⟩ : ∃ z : Int32, z = x4_3 + Int32.ofInt (1) := ⟨_, rfl⟩
            refine r_iinc hC (j := 3) (v := x17_) (lv' := [(3, .int x17_), (0, .ref a0), (1, .int x1), (2, .int x2), (4, .int x11_4), (5, .int x9_), (6, .int x11_6)]) dX10_runs_209 rfl (by rw [e17]) (by decide) rfl ?_
            try have t17 : x17_.toInt = x4_3.toInt + (1) := by rw [e17]; exact (ti_add (b := Int32.ofInt (1)) (by show _ ≤ _ + (1 : Int); omega) (by show _ + (1 : Int) ≤ _; omega))
            refine r_goto hC (tgt := 8) dX10_runs_212 (by decide) ?_
            have hv19 : I16 a0 19 = x4_3 := (by rw [eI16]; exact up2_self _ _ _ _)
            have hv19t : (I16 a0 19).toInt = x4_3.toInt := congrArg Int32.toInt hv19
            refine r_sub [1, 2, 3, 0] rfl ?_
            exact ih4 ((60 - x17_.toInt).toNat) (by omega) x17_ I16 hs16 hF16 (by omega) (by omega) (by first | (rw [show x17_.toInt.toNat = 0 by omega]; exact CRj_0) | (rw [show x17_.toInt.toNat = x4_3.toInt.toNat + 1 by omega]; exact cr16.day (by omega))) (by first | (rw [show x17_.toInt.toNat = 0 by omega, GV_0]; omega) | (rw [show x17_.toInt.toNat = x4_3.toInt.toNat + 1 by omega, GV_s, show (D 0 5).toNat = x11_6.toInt.toNat by omega]; have h9 := v11_3; rcases v11_4 with z | z <;> rw [z.2] <;> omega)) rfl
        · have cb := Cs_b (s := x1.toInt.toNat) hJ hA0 x4_3.toInt.toNat x11_6.toInt.toNat
          have hvp : 0 < x4_3.toInt → (I11 sr (60 * x11_6.toInt.toNat + x4_3.toInt.toNat - 1)).toInt = (Cs D x1.toInt.toNat (Ad D x1.toInt.toNat L x2.toInt) x4_3.toInt.toNat).1 x11_6.toInt.toNat := fun z => by have h9 := (v11_2 (x4_3.toInt.toNat - 1) x11_6.toInt.toNat (Or.inl (by omega)) (by omega)).1; rw [show 60 * x11_6.toInt.toNat + (x4_3.toInt.toNat - 1) = 60 * x11_6.toInt.toNat + x4_3.toInt.toNat - 1 by omega] at h9; rw [h9]; show (Cs D x1.toInt.toNat (Ad D x1.toInt.toNat L x2.toInt) (x4_3.toInt.toNat - 1 + 1)).1 x11_6.toInt.toNat = _; rw [show x4_3.toInt.toNat - 1 + 1 = x4_3.toInt.toNat by omega]
          have hnp : 0 < x4_3.toInt → (I11 ir (60 * x11_6.toInt.toNat + x4_3.toInt.toNat - 1)).toInt = (Cs D x1.toInt.toNat (Ad D x1.toInt.toNat L x2.toInt) x4_3.toInt.toNat).2.1 x11_6.toInt.toNat := fun z => by have h9 := (v11_2 (x4_3.toInt.toNat - 1) x11_6.toInt.toNat (Or.inl (by omega)) (by omega)).2.1; rw [show 60 * x11_6.toInt.toNat + (x4_3.toInt.toNat - 1) = 60 * x11_6.toInt.toNat + x4_3.toInt.toNat - 1 by omega] at h9; rw [h9]; show (Cs D x1.toInt.toNat (Ad D x1.toInt.toNat L x2.toInt) (x4_3.toInt.toNat - 1 + 1)).2.1 x11_6.toInt.toNat = _; rw [show x4_3.toInt.toNat - 1 + 1 = x4_3.toInt.toNat by omega]
          have hwp : 0 < x4_3.toInt → (I11 wr (60 * x11_6.toInt.toNat + x4_3.toInt.toNat - 1)).toInt = (Cs D x1.toInt.toNat (Ad D x1.toInt.toNat L x2.toInt) x4_3.toInt.toNat).2.2.1 x11_6.toInt.toNat := fun z => by have h9 := (v11_2 (x4_3.toInt.toNat - 1) x11_6.toInt.toNat (Or.inl (by omega)) (by omega)).2.2; rw [show 60 * x11_6.toInt.toNat + (x4_3.toInt.toNat - 1) = 60 * x11_6.toInt.toNat + x4_3.toInt.toNat - 1 by omega] at h9; rw [h9]; show (Cs D x1.toInt.toNat (Ad D x1.toInt.toNat L x2.toInt) (x4_3.toInt.toNat - 1 + 1)).2.2.1 x11_6.toInt.toNat = _; rw [show x4_3.toInt.toNat - 1 + 1 = x4_3.toInt.toNat by omega]
          have hz0 : x4_3.toInt = 0 → (Cs D x1.toInt.toNat (Ad D x1.toInt.toNat L x2.toInt) x4_3.toInt.toNat).1 x11_6.toInt.toNat = 0 ∧ (Cs D x1.toInt.toNat (Ad D x1.toInt.toNat L x2.toInt) x4_3.toInt.toNat).2.1 x11_6.toInt.toNat = 0 ∧ (Cs D x1.toInt.toNat (Ad D x1.toInt.toNat L x2.toInt) x4_3.toInt.toNat).2.2.1 x11_6.toInt.toNat = 0 := fun z => by rw [show x4_3.toInt.toNat = 0 by omega]; exact ⟨rfl, rfl, rfl⟩
          refine r_bipush hC (v := (60)) dX10_runs_41 (by decide) (by decide) (fun x18_ e18 t18 => ?_)
          refine r_iload hC dX10_runs_43 6 rfl ?_
          refine r_imul hC dX10_runs_45 (fun x19_ e19 => ?_)
          try have t19 : x19_.toInt = (60) * x11_6.toInt := by rw [e19]; exact ti_mul (by omega) rfl (by omega) (by omega)
          refine r_iload_n hC dX10_runs_46 3 rfl ?_
          refine r_iadd hC dX10_runs_47 (fun x20_ e20 => ?_)
          try have t20 : x20_.toInt = x19_.toInt + x4_3.toInt := by rw [e20]; exact ti_add (by omega) (by omega)
          refine r_istore hC (lv' := [(7, .int x20_), (0, .ref a0), (1, .int x1), (2, .int x2), (3, .int x4_3), (4, .int x11_4), (5, .int x9_), (6, .int x11_6)]) dX10_runs_48 (by decide) rfl ?_
          have MG21 : ∀ (xm21 : Int32) (fm21_0 : xm21.toInt = SV D x1.toInt.toNat (Ad D x1.toInt.toNat L x2.toInt) x4_3.toInt.toNat x11_6.toInt.toNat), P g X 9 73 [(7, .int x20_), (0, .ref a0), (1, .int x1), (2, .int x2), (3, .int x4_3), (4, .int x11_4), (5, .int x9_), (6, .int x11_6)] [.int xm21] 0 0 (K, len, I11, J, R) := by
            intro xm21 fm21_0
            have sv := fm21_0
            have svb := SV_b (s := x1.toInt.toNat) hJ hA0 x4_3.toInt.toNat x11_6.toInt.toNat
            refine r_istore hC (lv' := [(8, .int xm21), (7, .int x20_), (0, .ref a0), (1, .int x1), (2, .int x2), (3, .int x4_3), (4, .int x11_4), (5, .int x9_), (6, .int x11_6)]) dX10_runs_73 (by decide) rfl ?_
            refine r_aload_n hC dX10_runs_75 2 rfl ?_
            refine r_getr hC 16 (ci := 10) rfl u10_in (by decide) mT_5_11 dX10_runs_76 ka0 rfl rfl hsr ?_
            refine r_iload hC dX10_runs_79 1 rfl ?_
            refine r_iload hC dX10_runs_81 0 rfl ?_
            refine x_iastore hC ksr lsr (by decide) rfl rfl dX10_runs_83 (by omega) (by omega) (fun I22 eI22 => ?_)
            have hs22 := hs11.put0 eI22 ksr (rng_arr (by decide) _) rfl (xF_arr (by decide) _) (by decide)
            have hF22 := hF11.put eI22 ksr (inS_arr rfl _)
            have ai22 : x20_.toNatClampNeg = (60 * x11_6.toInt.toNat + x4_3.toInt.toNat) := by have h9 := clampI (i := x20_) (by omega); omega
            have eC22 := eI22
            rw [ai22] at eC22
            clear ai22
            have csr_22 : (I22 sr (60 * x11_6.toInt.toNat + x4_3.toInt.toNat)).toInt = xm21.toInt := by rw [eC22, up2_self]
            have o322 : ∀ b k, (b = sr ∨ b = ir ∨ b = wr) → k ≠ (60 * x11_6.toInt.toNat + x4_3.toInt.toNat) → I22 b k = I11 b k := fun b k z z2 => (show I22 b k = I11 b k by rw [eC22, up2_ne _ _ (Or.inr z2)]).trans (rfl)
            refine r_aload_n hC dX10_runs_84 2 rfl ?_
            refine r_getr hC 17 (ci := 10) rfl u10_in (by decide) mT_5_12 dX10_runs_85 ka0 rfl rfl hir ?_
            refine r_iload hC dX10_runs_88 1 rfl ?_
            have MG23 : ∀ (xm23 : Int32) (fm23_0 : xm23.toInt = (Cs D x1.toInt.toNat (Ad D x1.toInt.toNat L x2.toInt) x4_3.toInt.toNat).2.1 x11_6.toInt.toNat), P g X 9 107 [(8, .int xm21), (7, .int x20_), (0, .ref a0), (1, .int x1), (2, .int x2), (3, .int x4_3), (4, .int x11_4), (5, .int x9_), (6, .int x11_6)] [.int xm23, .int x20_, .ref ir] 0 0 (K, len, I22, J, R) := by
              intro xm23 fm23_0
              refine r_iload hC dX10_runs_107 0 rfl ?_
              refine r_iadd hC dX10_runs_109 (fun x24_ e24 => ?_)
              try have t24 : x24_.toInt = xm23.toInt + xm21.toInt := by rw [e24]; exact ti_add (by omega) (by omega)
              refine x_iastore hC kir lir (by decide) rfl rfl dX10_runs_110 (by omega) (by omega) (fun I25 eI25 => ?_)
              have hs25 := hs22.put0 eI25 kir (rng_arr (by decide) _) rfl (xF_arr (by decide) _) (by decide)
              have hF25 := hF22.put eI25 kir (inS_arr rfl _)
              have ai25 : x20_.toNatClampNeg = (60 * x11_6.toInt.toNat + x4_3.toInt.toNat) := by have h9 := clampI (i := x20_) (by omega); omega
              have eC25 := eI25
              rw [ai25] at eC25
              clear ai25
              have csr_25 : (I25 sr (60 * x11_6.toInt.toNat + x4_3.toInt.toNat)).toInt = xm21.toInt := by rw [up2_kk eI25 kir ksr (by decide)]; exact csr_22
              have cir_25 : (I25 ir (60 * x11_6.toInt.toNat + x4_3.toInt.toNat)).toInt = x24_.toInt := by rw [eC25, up2_self]
              have o325 : ∀ b k, (b = sr ∨ b = ir ∨ b = wr) → k ≠ (60 * x11_6.toInt.toNat + x4_3.toInt.toNat) → I25 b k = I11 b k := fun b k z z2 => (show I25 b k = I22 b k by rw [eC25, up2_ne _ _ (Or.inr z2)]).trans (o322 b k z z2)
              refine r_aload_n hC dX10_runs_111 2 rfl ?_
              refine r_getr hC 18 (ci := 10) rfl u10_in (by decide) mT_5_13 dX10_runs_112 ka0 rfl rfl hwr ?_
              refine r_iload hC dX10_runs_115 1 rfl ?_
              have MG26 : ∀ (xm26 : Int32) (fm26_0 : xm26.toInt = (Cs D x1.toInt.toNat (Ad D x1.toInt.toNat L x2.toInt) x4_3.toInt.toNat).2.2.1 x11_6.toInt.toNat), P g X 9 134 [(8, .int xm21), (7, .int x20_), (0, .ref a0), (1, .int x1), (2, .int x2), (3, .int x4_3), (4, .int x11_4), (5, .int x9_), (6, .int x11_6)] [.int xm26, .int x20_, .ref wr] 0 0 (K, len, I25, J, R) := by
                intro xm26 fm26_0
                have nve := NV_eq (D := D) (s := x1.toInt.toNat) (A := (Ad D x1.toInt.toNat L x2.toInt)) (d := x4_3.toInt.toNat) (p := x11_6.toInt.toNat)
                have MG27 : ∀ (xm27 : Int32) (fm27_0 : xm27.toInt = if D 7 x1.toInt.toNat = 3 ∧ D 9 x1.toInt.toNat ≤ NV D x1.toInt.toNat (Ad D x1.toInt.toNat L x2.toInt) x4_3.toInt.toNat x11_6.toInt.toNat then SV D x1.toInt.toNat (Ad D x1.toInt.toNat L x2.toInt) x4_3.toInt.toNat x11_6.toInt.toNat else 0), P g X 9 172 [(8, .int xm21), (7, .int x20_), (0, .ref a0), (1, .int x1), (2, .int x2), (3, .int x4_3), (4, .int x11_4), (5, .int x9_), (6, .int x11_6)] [.int xm27, .int xm26, .int x20_, .ref wr] 0 0 (K, len, I25, J, R) := by
                  intro xm27 fm27_0
                  refine r_iadd hC dX10_runs_172 (fun x28_ e28 => ?_)
                  try have t28 : x28_.toInt = xm26.toInt + xm27.toInt := by rw [e28]; exact ti_add (by omega) (by omega)
                  refine x_iastore hC kwr lwr (by decide) rfl rfl dX10_runs_173 (by omega) (by omega) (fun I29 eI29 => ?_)
                  have hs29 := hs25.put0 eI29 kwr (rng_arr (by decide) _) rfl (xF_arr (by decide) _) (by decide)
                  have hF29 := hF25.put eI29 kwr (inS_arr rfl _)
                  have ai29 : x20_.toNatClampNeg = (60 * x11_6.toInt.toNat + x4_3.toInt.toNat) := by have h9 := clampI (i := x20_) (by omega); omega
                  have eC29 := eI29
                  rw [ai29] at eC29
                  clear ai29
                  have csr_29 : (I29 sr (60 * x11_6.toInt.toNat + x4_3.toInt.toNat)).toInt = xm21.toInt := by rw [up2_kk eI29 kwr ksr (by decide)]; exact csr_25
                  have cir_29 : (I29 ir (60 * x11_6.toInt.toNat + x4_3.toInt.toNat)).toInt = x24_.toInt := by rw [up2_kk eI29 kwr kir (by decide)]; exact cir_25
                  have cwr_29 : (I29 wr (60 * x11_6.toInt.toNat + x4_3.toInt.toNat)).toInt = x28_.toInt := by rw [eC29, up2_self]
                  have o329 : ∀ b k, (b = sr ∨ b = ir ∨ b = wr) → k ≠ (60 * x11_6.toInt.toNat + x4_3.toInt.toNat) → I29 b k = I11 b k := fun b k z z2 => (show I29 b k = I25 b k by rw [eC29, up2_ne _ _ (Or.inr z2)]).trans (o325 b k z z2)
                  have crp := v11_2.peg (I1 := I29) (p := x11_6.toInt.toNat) (by omega) (csr_29.trans sv) (by rw [cir_29, NV_eq, ← sv]; omega) (by rw [cwr_29, WV_eq]; omega) o329
                  have MG30 : ∀ (xm30 : Int32) (fm30_0 : (xm30.toInt = 1 ∧ gs (SV D x1.toInt.toNat (Ad D x1.toInt.toNat L x2.toInt) x4_3.toInt.toNat) ((x4_3.toInt.toNat : Nat) : Int) (GV D x1.toInt.toNat (Ad D x1.toInt.toNat L x2.toInt) x4_3.toInt.toNat) (x11_6.toInt.toNat + 1) = ((x4_3.toInt.toNat : Nat) : Int)) ∨ (xm30.toInt = 0 ∧ gs (SV D x1.toInt.toNat (Ad D x1.toInt.toNat L x2.toInt) x4_3.toInt.toNat) ((x4_3.toInt.toNat : Nat) : Int) (GV D x1.toInt.toNat (Ad D x1.toInt.toNat L x2.toInt) x4_3.toInt.toNat) (x11_6.toInt.toNat + 1) = GV D x1.toInt.toNat (Ad D x1.toInt.toNat L x2.toInt) x4_3.toInt.toNat)), P g X 9 191 [(8, .int xm21), (7, .int x20_), (0, .ref a0), (1, .int x1), (2, .int x2), (3, .int x4_3), (4, .int x11_4), (5, .int x9_), (6, .int x11_6)] [.int xm30] 0 0 (K, len, I29, J, R) := by
                    intro xm30 fm30_0
                    have sl := fm30_0
                    refine r_istore hC (lv' := [(4, .int xm30), (8, .int xm21), (7, .int x20_), (0, .ref a0), (1, .int x1), (2, .int x2), (3, .int x4_3), (5, .int x9_), (6, .int x11_6)]) dX10_runs_191 (by decide) rfl ?_
                    obtain ⟨x31_, e31⟩ : ∃ z : Int32, z = x11_6 + Int32.ofInt (1) := ⟨_, rfl⟩
                    refine r_iinc hC (j := 8) (v := x31_) (lv' := [(6, .int x31_), (4, .int xm30), (8, .int xm21), (7, .int x20_), (0, .ref a0), (1, .int x1), (2, .int x2), (3, .int x4_3), (5, .int x9_)]) dX10_runs_193 rfl (by rw [e31]) (by decide) rfl ?_
                    try have t31 : x31_.toInt = x11_6.toInt + (1) := by rw [e31]; exact (ti_add (b := Int32.ofInt (1)) (by show _ ≤ _ + (1 : Int); omega) (by show _ + (1 : Int) ≤ _; omega))
                    refine r_goto hC (tgt := 29) dX10_runs_196 (by decide) ?_
                    have hv19 : I29 a0 19 = Gi11 := (Eq.trans (up2_kk eI29 kwr ka0 (by decide)) (Eq.trans (up2_kk eI25 kir ka0 (by decide)) (Eq.trans (up2_kk eI22 ksr ka0 (by decide)) eGi11.symm)))
                    have hv19t : (I29 a0 19).toInt = Gi11.toInt := congrArg Int32.toInt hv19
                    refine r_sub [4, 5, 6, 7, 1, 8, 0] rfl ?_
                    exact ih11 ((5 - x31_.toInt).toNat) (by omega) x31_ xm30 I29 hs29 hF29 (by omega) (by omega) (by first | (rw [show x31_.toInt.toNat = 0 by omega]; exact crp) | (rw [show x31_.toInt.toNat = x11_6.toInt.toNat + 1 by omega]; exact crp)) (by omega) (by first | exact Or.inr ⟨by omega, by rw [show x31_.toInt.toNat = 0 by omega]; rfl⟩ | (rw [show x31_.toInt.toNat = x11_6.toInt.toNat + 1 by omega]; exact sl)) rfl
                  refine r_iload hC dX10_runs_174 6 rfl ?_
                  refine r_if_ne hC (tgt := 186) dX10_runs_176 (by decide) (fun c32 => ?_) (fun c32 => ?_)
                  · refine r_iconst hC (v := (1)) dX10_runs_186 (by decide) (by decide) (fun x33_ e33 t33 => ?_)
                    refine r_goto hC (tgt := 191) dX10_runs_187 (by decide) ?_
                    exact MG30 x33_ (by refine Or.inl ⟨by omega, ?_⟩; by_cases hq : 100 ≤ SV D x1.toInt.toNat (Ad D x1.toInt.toNat L x2.toInt) x4_3.toInt.toNat x11_6.toInt.toNat; exact gs_t hq; rw [gs_n hq]; rcases v11_4 with z | z; exact z.2; exfalso; rw [← sv] at hq; omega)
                  · refine r_iload hC dX10_runs_179 0 rfl ?_
                    refine r_bipush hC (v := (100)) dX10_runs_181 (by decide) (by decide) (fun x34_ e34 t34 => ?_)
                    refine r_icmp_lt hC (tgt := 190) dX10_runs_183 (by decide) (fun c35 => ?_) (fun c35 => ?_)
                    · refine r_iconst hC (v := (0)) dX10_runs_190 (by decide) (by decide) (fun x36_ e36 t36 => ?_)
                      exact MG30 x36_ (by exact Or.inr ⟨by omega, by rw [gs_n (by rw [← sv]; omega)]; rcases v11_4 with z | z; exfalso; omega; exact z.2⟩)
                    · refine r_iconst hC (v := (1)) dX10_runs_186 (by decide) (by decide) (fun x37_ e37 t37 => ?_)
                      refine r_goto hC (tgt := 191) dX10_runs_187 (by decide) ?_
                      exact MG30 x37_ (by refine Or.inl ⟨by omega, ?_⟩; by_cases hq : 100 ≤ SV D x1.toInt.toNat (Ad D x1.toInt.toNat L x2.toInt) x4_3.toInt.toNat x11_6.toInt.toNat; exact gs_t hq; rw [gs_n hq]; rcases v11_4 with z | z; exact z.2; exfalso; rw [← sv] at hq; omega)
                refine r_aload_n hC dX10_runs_134 2 rfl ?_
                refine r_getr hC 3 (ci := 10) rfl u10_in (by decide) mT_4_238 dX10_runs_135 ka0 rfl rfl hbm ?_
                obtain ⟨kd38, mo38, hb38, hk38, hn38, hB38, hK38, hN38⟩ := hs25.2.2.1 hm khm
                refine r_getrN hC 17 (ci := 9) rfl u9_in (by decide) nF_17 dX10_runs_138 khm rfl rfl hb38 ?_
                refine r_iload_n hC dX10_runs_141 3 rfl ?_
                refine x_iaload hC hk38 hn38 (by omega) (kOb (by omega)) (kAb (by omega)) dX10_runs_142 (by omega) (by omega) (fun x39_ e39 => ?_)
                have qkd40 : x39_.toInt = D 7 x1.toInt.toNat := by rw [e39, clx (i := x1) rfl (by omega)]; exact (rwm.mv hcx qM_big hF25 rfl) 7 _ _ _ (cM (r := 7) (by decide) (by decide) hb38) (by rw [cnt_7]; omega) (fun h9 => absurd h9 (by decide))
                refine r_iconst hC (v := (3)) dX10_runs_143 (by decide) (by decide) (fun x41_ e41 t41 => ?_)
                refine r_icmp_ne hC (tgt := 171) dX10_runs_144 (by decide) (fun c42 => ?_) (fun c42 => ?_)
                · refine r_iconst hC (v := (0)) dX10_runs_171 (by decide) (by decide) (fun x43_ e43 t43 => ?_)
                  exact MG27 x43_ (by rw [if_neg (fun h8 => by have h7 := h8.1; have h6 := h8.2; omega)]; omega)
                · refine r_aload_n hC dX10_runs_147 2 rfl ?_
                  refine r_getr hC 17 (ci := 10) rfl u10_in (by decide) mT_5_12 dX10_runs_148 ka0 rfl rfl hir ?_
                  refine r_iload hC dX10_runs_151 1 rfl ?_
                  refine x_iaload hC kir lir (by decide) rfl rfl dX10_runs_153 (by omega) (by omega) (fun x44_ e44 => ?_)
                  have qin : x44_.toInt = x24_.toInt := by rw [e44, clx (i := x20_) rfl (by omega), show x20_.toInt.toNat = 60 * x11_6.toInt.toNat + x4_3.toInt.toNat by omega]; exact cir_25
                  refine r_aload_n hC dX10_runs_154 2 rfl ?_
                  refine r_getr hC 3 (ci := 10) rfl u10_in (by decide) mT_4_238 dX10_runs_155 ka0 rfl rfl hbm ?_
                  refine r_getrN hC 19 (ci := 9) rfl u9_in (by decide) nF_19 dX10_runs_158 khm rfl rfl hB38 ?_
                  refine r_iload_n hC dX10_runs_161 3 rfl ?_
                  refine x_iaload hC hK38 hN38 (by omega) (kOb (by omega)) (kAb (by omega)) dX10_runs_162 (by omega) (by omega) (fun x45_ e45 => ?_)
                  have qmo46 : x45_.toInt = D 9 x1.toInt.toNat := by rw [e45, clx (i := x1) rfl (by omega)]; exact (rwm.mv hcx qM_big hF25 rfl) 9 _ _ _ (cM (r := 9) (by decide) (by decide) hB38) (by rw [cnt_9]; omega) (fun _ => by omega)
                  refine r_icmp_lt hC (tgt := 171) dX10_runs_163 (by decide) (fun c47 => ?_) (fun c47 => ?_)
                  · refine r_iconst hC (v := (0)) dX10_runs_171 (by decide) (by decide) (fun x48_ e48 t48 => ?_)
                    exact MG27 x48_ (by rw [if_neg (fun h8 => by have h7 := h8.1; have h6 := h8.2; omega)]; omega)
                  · refine r_iload hC dX10_runs_166 0 rfl ?_
                    refine r_goto hC (tgt := 172) dX10_runs_168 (by decide) ?_
                    exact MG27 xm21 (by rw [if_pos ⟨by omega, by omega⟩]; exact sv)
              refine r_iload_n hC dX10_runs_117 5 rfl ?_
              refine r_if_ne hC (tgt := 125) dX10_runs_118 (by decide) (fun c49 => ?_) (fun c49 => ?_)
              · refine r_aload_n hC dX10_runs_125 2 rfl ?_
                refine r_getr hC 18 (ci := 10) rfl u10_in (by decide) mT_5_13 dX10_runs_126 ka0 rfl rfl hwr ?_
                refine r_iload hC dX10_runs_129 1 rfl ?_
                refine r_iconst hC (v := (1)) dX10_runs_131 (by decide) (by decide) (fun x50_ e50 t50 => ?_)
                refine r_isub hC dX10_runs_132 (fun x51_ e51 => ?_)
                try have t51 : x51_.toInt = x20_.toInt - x50_.toInt := by rw [e51]; exact ti_sub (by omega) (by omega)
                refine x_iaload hC kwr lwr (by decide) rfl rfl dX10_runs_133 (by omega) (by omega) (fun x52_ e52 => ?_)
                have qwp : x52_.toInt = (Cs D x1.toInt.toNat (Ad D x1.toInt.toNat L x2.toInt) x4_3.toInt.toNat).2.2.1 x11_6.toInt.toNat := by rw [e52, clx (i := x51_) rfl (by omega), show x51_.toInt.toNat = 60 * x11_6.toInt.toNat + x4_3.toInt.toNat - 1 by omega, o325 _ _ (by simp) (by omega)]; exact hwp (by omega)
                exact MG26 x52_ (by exact qwp)
              · refine r_iconst hC (v := (0)) dX10_runs_121 (by decide) (by decide) (fun x53_ e53 t53 => ?_)
                refine r_goto hC (tgt := 134) dX10_runs_122 (by decide) ?_
                exact MG26 x53_ (by rw [(hz0 (by omega)).2.2]; omega)
            refine r_iload_n hC dX10_runs_90 5 rfl ?_
            refine r_if_ne hC (tgt := 98) dX10_runs_91 (by decide) (fun c54 => ?_) (fun c54 => ?_)
            · refine r_aload_n hC dX10_runs_98 2 rfl ?_
              refine r_getr hC 17 (ci := 10) rfl u10_in (by decide) mT_5_12 dX10_runs_99 ka0 rfl rfl hir ?_
              refine r_iload hC dX10_runs_102 1 rfl ?_
              refine r_iconst hC (v := (1)) dX10_runs_104 (by decide) (by decide) (fun x55_ e55 t55 => ?_)
              refine r_isub hC dX10_runs_105 (fun x56_ e56 => ?_)
              try have t56 : x56_.toInt = x20_.toInt - x55_.toInt := by rw [e56]; exact ti_sub (by omega) (by omega)
              refine x_iaload hC kir lir (by decide) rfl rfl dX10_runs_106 (by omega) (by omega) (fun x57_ e57 => ?_)
              have qnp : x57_.toInt = (Cs D x1.toInt.toNat (Ad D x1.toInt.toNat L x2.toInt) x4_3.toInt.toNat).2.1 x11_6.toInt.toNat := by rw [e57, clx (i := x56_) rfl (by omega), show x56_.toInt.toNat = 60 * x11_6.toInt.toNat + x4_3.toInt.toNat - 1 by omega, o322 _ _ (by simp) (by omega)]; exact hnp (by omega)
              exact MG23 x57_ (by exact qnp)
            · refine r_iconst hC (v := (0)) dX10_runs_94 (by decide) (by decide) (fun x58_ e58 t58 => ?_)
              refine r_goto hC (tgt := 107) dX10_runs_95 (by decide) ?_
              exact MG23 x58_ (by rw [(hz0 (by omega)).2.1]; omega)
          refine r_aload_n hC dX10_runs_50 1 rfl ?_
          refine r_geti hC 19 (ci := 10) rfl u10_in (by decide) mT_5_14 dX10_runs_51 ka0 rfl rfl (fun x59_ e59 => ?_)
          have r59 := hs11.rng ka0 rfl e59
          have q59 := hs11.gone ka0 e59
          have f59 : x59_.toInt = (I11 a0 19).toInt := by rw [e59]
          have w59 : x59_ = Gi11 := by rw [e59]; exact eGi11.symm
          have wt59 : x59_.toInt = Gi11.toInt := by rw [w59]
          refine r_bipush hC (v := (-2)) dX10_runs_54 (by decide) (by decide) (fun x60_ e60 t60 => ?_)
          refine r_icmp_ne hC (tgt := 72) dX10_runs_56 (by decide) (fun c61 => ?_) (fun c61 => ?_)
          · refine r_iconst hC (v := (0)) dX10_runs_72 (by decide) (by decide) (fun x62_ e62 t62 => ?_)
            have hgn : ¬ (GV D x1.toInt.toNat (Ad D x1.toInt.toNat L x2.toInt) x4_3.toInt.toNat = -2) := by have h9 := v11_3; omega
            exact MG21 x62_ (by rw [SV_eq, if_neg hgn]; omega)
          · refine r_aload_n hC dX10_runs_59 1 rfl ?_
            refine r_iload_n hC dX10_runs_60 2 rfl ?_
            refine r_iload hC dX10_runs_61 7 rfl ?_
            refine r_iload_n hC dX10_runs_63 4 rfl ?_
            refine r_iload hC dX10_runs_64 6 rfl ?_
            refine r_callV hC (As := [.int x1, .int x11_6, .int x4_3, .int x9_]) (rest := []) (ci := 10) (f_X10_speedOf g (xL X) K len I11 J R hs11 a0 ka0 x1 x11_6 x4_3 x9_ hm hbm khm sr hsr ksr lsr ir hir kir lir wr hwr kwr lwr D hJ (rwm.mv hcx qM_big hF11 rfl) hsk (Ad D x1.toInt.toNat L x2.toInt) ⟨had, by rw [had]; exact (hA0 _).1, by rw [had]; exact (hA0 _).2⟩ ((Cs D x1.toInt.toNat (Ad D x1.toInt.toNat L x2.toInt) x4_3.toInt.toNat).1 x11_6.toInt.toNat) ((Cs D x1.toInt.toNat (Ad D x1.toInt.toNat L x2.toInt) x4_3.toInt.toNat).2.2.1 x11_6.toInt.toNat) ⟨cb.1, cb.2.2.1, by omega⟩ (fun z => ⟨(hz0 z).1, (hz0 z).2.2⟩) hvp hwp (by omega) (by rw [hF11.get khm rfl]; exact hd5) (by rw [hF11.get khm rfl]; exact hd7) (by omega) (by omega) (by omega) (by omega)) mT_6_151 mT_1_10 mT_6_148 mT_6_150 mP_79 okX10_speedOf ⟨by decide, by decide⟩ rfl (by show kO (K a0) = _; rw [ka0]; rfl) rfl rfl (Nat.le_of_ble_eq_true rfl) ⟨by decide, by decide⟩ dX10_runs_66 (aI0 (F := fun st M => P g X 9 69 [(7, .int x20_), (0, .ref a0), (1, .int x1), (2, .int x2), (3, .int x4_3), (4, .int x11_4), (5, .int x9_), (6, .int x11_6)] st _ _ M) (M := (K, len, I11, J, R)) fun x63_ h63 => ?_)
            have k63_0 := h63
            clear h63
            show P g X 9 69 [(7, .int x20_), (0, .ref a0), (1, .int x1), (2, .int x2), (3, .int x4_3), (4, .int x11_4), (5, .int x9_), (6, .int x11_6)] [.int x63_] _ _ (K, len, I11, J, R)
            refine r_goto hC (tgt := 73) dX10_runs_69 (by decide) ?_
            have hgn : GV D x1.toInt.toNat (Ad D x1.toInt.toNat L x2.toInt) x4_3.toInt.toNat = -2 := by have h9 := v11_3; omega
            exact MG21 x63_ (by rw [SV_eq, if_pos hgn]; exact k63_0)
      have hv19 : I4 a0 19 = Go4 := eGo4.symm
      have hv19t : (I4 a0 19).toInt = Go4.toInt := congrArg Int32.toInt hv19
      refine r_sub [3, 4, 5, 6, 2, 1, 0] rfl ?_
      exact LP11 _ x10_ x7_ I4 hs4 hF4 (by omega) (by omega) (by first | (rw [show x10_.toInt.toNat = 0 by omega]; exact v4_2) | (rw [show x10_.toInt.toNat = x11_6.toInt.toNat + 1 by omega]; exact v4_2)) (by omega) (by first | exact Or.inr ⟨by omega, by rw [show x10_.toInt.toNat = 0 by omega]; rfl⟩ | (rw [show x10_.toInt.toNat = x11_6.toInt.toNat + 1 by omega]; exact sl)) rfl
  have hv19 : I2 a0 19 = x1_ := (by rw [eI2]; exact up2_self _ _ _ _)
  have hv19t : (I2 a0 19).toInt = x1_.toInt := congrArg Int32.toInt hv19
  refine r_sub [1, 2, 3, 0] rfl ?_
  exact LP4 _ x3_ I2 hs2 hF2 (by omega) (by omega) (by first | (rw [show x3_.toInt.toNat = 0 by omega]; exact CRj_0) | (rw [show x3_.toInt.toNat = x4_3.toInt.toNat + 1 by omega]; exact NOcrj.day (by omega))) (by first | (rw [show x3_.toInt.toNat = 0 by omega, GV_0]; omega) | (rw [show x3_.toInt.toNat = x4_3.toInt.toNat + 1 by omega, GV_s, show (D 0 5).toNat = NOpN by omega]; have h9 := NOx_v29_3; rcases NOx_v29_4 with z | z <;> rw [z.2] <;> omega)) rfl

