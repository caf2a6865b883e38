set_option maxHeartbeats 4000000 in
set_option maxRecDepth 100000 in
theorem f_X10_readLake (g : GG) (l : Launch) (K len : Nat → Nat) (I : Nat → Nat → Int32) (J : Nat → Nat → Int64) (R : Nat → Nat → Option Nat) (hs : Sf K len I R) (a0 : Nat) (ka0 : K a0 = 11) (rm : Nat) (hbr : R a0 4 = some rm) (krm : K rm = 10) (mt : Nat) (hmt : R a0 5 = some mt) (kmt : K mt = 49) (nmt : len mt = 900) (B : Nat → Int) (n : Nat) (hB : BT B n mt I) (hBr : ∀ j : Nat, j < n → -128 ≤ B j ∧ B j ≤ 127) (hn : n ≤ 900) (p : Nat) (hp : p ≤ n) (tkm : TkM B n a0 p I J) (nr : Nat) (hnr : R rm 25 = some nr) (knr : K nr = 82) (lnr : len nr = 19) (ns : Nat) (hns : R rm 26 = some ns) (kns : K ns = 83) (lns : len ns = 19) (D : DD) (hD : DI D) (sm : SM D rm I) (nm : NmM D nr J) (pg : PgI D ns I) (p0 : kd B n p = 1) : Ct g l yX10_readLake cX10_readLake 4 (Option.none : Option Jvm.ClassFile.FieldType) rmX10_readLake [.ref a0] (K, len, I, J, R) (pV2 (K, len, I, J, R) (fun I' J' => Sf K len I' R ∧ Fr K [(10, 0), (10, 1), (10, 2), (11, 8), (11, 9), (11, 10), (11, 11), (11, 12), (11, 13)] I I' ∧ Fr K [(11, 14)] J J' ∧ ((∃ (D' : DD) (p' : Nat), sLake B n p D = .ok (D', p') ∧ p' ≤ n ∧ TkM B n a0 p' I' J' ∧ RpM D' rm nr ns I' J' ∧ I' a0 12 = I a0 12) ∨ (∃ (kf : Int) (qf : Nat), sLake B n p D = .error (kf, qf) ∧ (I' a0 9).toInt = 5 ∧ (I' a0 12).toInt = kf ∧ (I' a0 13).toInt = qf)) ∧ (OM K rm I I'))) := by
  refine Ct_intro (by decide +kernel) (Nat.le_of_ble_eq_true rfl) (fun X hC hL hKK hNm hr hlk hQ => ?_)
  subst hL
  have hC : Cx g X cX10_readLake "HillTapModel" 4 rmX10_readLake := hC
  show P g X 4 0 [(0, .ref a0)] [] 0 0 (K, len, I, J, R)
  have hF : Fr K [(10, 0), (10, 1), (10, 2), (11, 8), (11, 9), (11, 10), (11, 11), (11, 12), (11, 13)] I I := Fr.refl
  have hFJ : Fr K [(11, 14)] J J := Fr.refl
  have ek1 := tkm.e1
  have ek2 := tkm.e2
  have ek3 := tkm.e3
  have ek4 := tkm.e4
  have ek10 := tkm.2.1
  have ek11 := tkm.2.2.2.2.2
  obtain ⟨hD0, ⟨hD1, hD2⟩, ⟨hD3, hD4⟩, ⟨hD5, hD6⟩, ⟨hD7, hD8⟩, ⟨hD9, hD10⟩, hD11, hD12⟩ := id hD
  obtain ⟨sm0, sm3, sm4, sm5, sm6, sm7, sm8, sm9, sm10⟩ := id sm
  obtain ⟨G0, eG0⟩ : ∃ z : Int32, z = I rm 0 := ⟨_, rfl⟩
  have fG0 : G0.toInt = (I rm 0).toInt := by rw [eG0]
  obtain ⟨G1, eG1⟩ : ∃ z : Int32, z = I rm 1 := ⟨_, rfl⟩
  have fG1 : G1.toInt = (I rm 1).toInt := by rw [eG1]
  obtain ⟨G2, eG2⟩ : ∃ z : Int32, z = I rm 2 := ⟨_, rfl⟩
  have fG2 : G2.toInt = (I rm 2).toInt := by rw [eG2]
  obtain ⟨G3, eG3⟩ : ∃ z : Int32, z = I rm 3 := ⟨_, rfl⟩
  have fG3 : G3.toInt = (I rm 3).toInt := by rw [eG3]
  have rG3 := hs.rng krm rfl eG3
  obtain ⟨G4, eG4⟩ : ∃ z : Int32, z = I rm 4 := ⟨_, rfl⟩
  have fG4 : G4.toInt = (I rm 4).toInt := by rw [eG4]
  have rG4 := hs.rng krm rfl eG4
  obtain ⟨G5, eG5⟩ : ∃ z : Int32, z = I rm 5 := ⟨_, rfl⟩
  have fG5 : G5.toInt = (I rm 5).toInt := by rw [eG5]
  have rG5 := hs.rng krm rfl eG5
  obtain ⟨G6, eG6⟩ : ∃ z : Int32, z = I rm 6 := ⟨_, rfl⟩
  have fG6 : G6.toInt = (I rm 6).toInt := by rw [eG6]
  have rG6 := hs.rng krm rfl eG6
  obtain ⟨G7, eG7⟩ : ∃ z : Int32, z = I rm 7 := ⟨_, rfl⟩
  have fG7 : G7.toInt = (I rm 7).toInt := by rw [eG7]
  have rG7 := hs.rng krm rfl eG7
  obtain ⟨G8, eG8⟩ : ∃ z : Int32, z = I rm 8 := ⟨_, rfl⟩
  have fG8 : G8.toInt = (I rm 8).toInt := by rw [eG8]
  have rG8 := hs.rng krm rfl eG8
  obtain ⟨G9, eG9⟩ : ∃ z : Int32, z = I rm 9 := ⟨_, rfl⟩
  have fG9 : G9.toInt = (I rm 9).toInt := by rw [eG9]
  have rG9 := hs.rng krm rfl eG9
  obtain ⟨G10, eG10⟩ : ∃ z : Int32, z = I rm 10 := ⟨_, rfl⟩
  have fG10 : G10.toInt = (I rm 10).toInt := by rw [eG10]
  have rG10 := hs.rng krm rfl eG10
  have om : OM K rm I I := OM.rf
  refine r_aload_n hC dX10_readLake_0 0 rfl ?_
  refine r_getr hC 4 (ci := 10) rfl u10_in (by decide) mT_4_239 dX10_readLake_1 ka0 rfl rfl hbr ?_
  refine r_getiN hC 0 (ci := 9) rfl u9_in (by decide) nF_0 dX10_readLake_4 krm rfl rfl (fun x1_ e1 => ?_)
  have f1 : x1_.toInt = (I rm 0).toInt := by rw [e1]
  have w1 : x1_ = G0 := by rw [e1]; exact eG0.symm
  have wt1 : x1_.toInt = G0.toInt := by rw [w1]
  refine r_iconst hC (v := (-1)) dX10_readLake_7 (by decide) (by decide) (fun x2_ e2 t2 => ?_)
  refine r_icmp_eq hC (tgt := 16) dX10_readLake_8 (by decide) (fun c3 => ?_) (fun c3 => ?_)
  · refine r_aload_n hC dX10_readLake_16 0 rfl ?_
    refine r_callV hC (As := []) (rest := []) (ci := 10) (f_X10_goesOn g (xL X) K len I J R hs a0 ka0 mt hmt kmt nmt B n (hB.mv9 hF kmt (fun _ => rfl)) hBr hn (nx B n p) (nx_le hp).2 (tkm.e5) (tkm.2.2.1 (by first | omega | (rw [NOkdp]; decide))) (tkm.2.2.2.1)) mT_5_199 mT_1_10 mT_5_196 mT_5_198 mP_49 okX10_goesOn ⟨by decide, by decide⟩ rfl (by show kO (K a0) = _; rw [ka0]; rfl) rfl rfl (Nat.le_of_ble_eq_true rfl) ⟨by decide, by decide⟩ dX10_readLake_17 (aV2 (F := fun st M => P g X 4 20 [(0, .ref a0)] st _ _ M) (M := (K, len, I, J, R)) fun I4 J4 h4 => ?_)
    obtain ⟨hs4, hf4, hfj4, k4_0⟩ := h4
    show P g X 4 20 [(0, .ref a0)] [] _ _ (K, len, I4, J4, R)
    have hF4 : Fr K [(10, 0), (10, 1), (10, 2), (11, 8), (11, 9), (11, 10), (11, 11), (11, 12), (11, 13)] I I4 := hF.trans hf4 rfl rfl
    have hFJ4 : Fr K [(11, 14)] J J4 := hFJ.trans hfj4 rfl rfl
    have fp4 : I4 a0 12 = I a0 12 := (hf4.get ka0 rfl).trans rfl
    have pg4 := pg.mv hf4 kns (fun _ => rfl)
    have nm4 := nm.mv hfj4 knr (fun _ => rfl)
    have om4 := om.mv hf4 rfl
    refine r_aload_n hC dX10_readLake_20 0 rfl ?_
    refine r_ldcS hC (i := 32) (by decide) rfl rfl dX10_readLake_21 ?_
    refine r_iconst hC (v := (0)) dX10_readLake_23 (by decide) (by decide) (fun x5_ e5 t5 => ?_)
    refine r_sipush hC (v := (500)) dX10_readLake_24 (by decide) (by decide) (fun x6_ e6 t6 => ?_)
    refine r_callV hC (As := [.ref (g.2.2.1 32), .int x5_, .int x6_]) (rest := []) (ci := 10) (f_X10_readPart g (xL X) K len I4 J4 R hs4 a0 ka0 32 (by decide) x5_ x6_ mt hmt kmt nmt B n (hB.mv9 hF4 kmt (fun _ => rfl)) hBr hn (nx B n p) (nx_le hp).2 k4_0 (by first | assumption | decide)) mT_6_1 mT_1_10 mT_5_238 mT_6_0 mP_56 okX10_readPart ⟨by decide, by decide⟩ rfl (by show kO (K a0) = _; rw [ka0]; rfl) rfl rfl (Nat.le_of_ble_eq_true rfl) ⟨by decide, by decide⟩ dX10_readLake_27 (aI2 (F := fun st M => P g X 4 30 [(0, .ref a0)] st _ _ M) (M := (K, len, I4, J4, R)) fun x7_ I7 J7 h7 => ?_)
    obtain ⟨hs7, hf7, hfj7, k7_0⟩ := h7
    show P g X 4 30 [(0, .ref a0)] [.int x7_] _ _ (K, len, I7, J7, R)
    have hF7 : Fr K [(10, 0), (10, 1), (10, 2), (11, 8), (11, 9), (11, 10), (11, 11), (11, 12), (11, 13)] I I7 := hF4.trans hf7 rfl rfl
    have hFJ7 : Fr K [(11, 14)] J J7 := hFJ4.trans hfj7 rfl rfl
    have pg7 := pg4.mv hf7 kns (fun _ => rfl)
    have nm7 := nm4.mv hfj7 knr (fun _ => rfl)
    have om7 := om4.mv hf7 rfl
    rcases k7_0 with ⟨v7, p7, hsp7, hp7, tk7, hv7, fl7⟩ | ⟨kf7, qf7, hsp7, hf07, hf17, hf27⟩
    · have fq7 : I7 a0 12 = I a0 12 := fl7.trans fp4
      rw [show x5_.toInt = 0 by omega, show x6_.toInt = 500 by omega] at hsp7
      have rg7 := (sNum_go (nx_le hp).2 hsp7).2
      refine r_istore_n hC (lv' := [(1, .int x7_), (0, .ref a0)]) dX10_readLake_30 (by decide) rfl ?_
      refine r_aload_n hC dX10_readLake_31 1 rfl ?_
      refine r_ldcS hC (i := 33) (by decide) rfl rfl dX10_readLake_32 ?_
      refine r_iconst hC (v := (1)) dX10_readLake_34 (by decide) (by decide) (fun x8_ e8 t8 => ?_)
      refine r_bipush hC (v := (50)) dX10_readLake_35 (by decide) (by decide) (fun x9_ e9 t9 => ?_)
      refine r_callV hC (As := [.ref (g.2.2.1 33), .int x8_, .int x9_]) (rest := []) (ci := 10) (f_X10_readPart g (xL X) K len I7 J7 R hs7 a0 ka0 33 (by decide) x8_ x9_ mt hmt kmt nmt B n (hB.mv9 hF7 kmt (fun _ => rfl)) hBr hn p7 hp7 tk7 (by first | assumption | decide)) mT_6_1 mT_1_10 mT_5_238 mT_6_0 mP_56 okX10_readPart ⟨by decide, by decide⟩ rfl (by show kO (K a0) = _; rw [ka0]; rfl) rfl rfl (Nat.le_of_ble_eq_true rfl) ⟨by decide, by decide⟩ dX10_readLake_37 (aI2 (F := fun st M => P g X 4 40 [(1, .int x7_), (0, .ref a0)] st _ _ M) (M := (K, len, I7, J7, R)) fun x10_ I10 J10 h10 => ?_)
      obtain ⟨hs10, hf10, hfj10, k10_0⟩ := h10
      show P g X 4 40 [(1, .int x7_), (0, .ref a0)] [.int x10_] _ _ (K, len, I10, J10, R)
      have hF10 : Fr K [(10, 0), (10, 1), (10, 2), (11, 8), (11, 9), (11, 10), (11, 11), (11, 12), (11, 13)] I I10 := hF7.trans hf10 rfl rfl
      have hFJ10 : Fr K [(11, 14)] J J10 := hFJ7.trans hfj10 rfl rfl
      have pg10 := pg7.mv hf10 kns (fun _ => rfl)
      have nm10 := nm7.mv hfj10 knr (fun _ => rfl)
      have om10 := om7.mv hf10 rfl
      rcases k10_0 with ⟨v10, p10, hsp10, hp10, tk10, hv10, fl10⟩ | ⟨kf10, qf10, hsp10, hf010, hf110, hf210⟩
      · have fq10 : I10 a0 12 = I a0 12 := fl10.trans fq7
        rw [show x8_.toInt = 1 by omega, show x9_.toInt = 50 by omega] at hsp10
        have rg10 := (sNum_go hp7 hsp10).2
        refine r_istore_n hC (lv' := [(2, .int x10_), (1, .int x7_), (0, .ref a0)]) dX10_readLake_40 (by decide) rfl ?_
        refine r_aload_n hC dX10_readLake_41 2 rfl ?_
        refine r_ldcS hC (i := 34) (by decide) rfl rfl dX10_readLake_42 ?_
        refine r_iload_n hC dX10_readLake_44 1 rfl ?_
        refine r_iconst hC (v := (1)) dX10_readLake_45 (by decide) (by decide) (fun x11_ e11 t11 => ?_)
        refine r_icmp_le hC (tgt := 53) dX10_readLake_46 (by decide) (fun c12 => ?_) (fun c12 => ?_)
        · refine r_iconst hC (v := (1)) dX10_readLake_53 (by decide) (by decide) (fun x13_ e13 t13 => ?_)
          refine r_sipush hC (v := (999)) dX10_readLake_54 (by decide) (by decide) (fun x14_ e14 t14 => ?_)
          refine r_callV hC (As := [.ref (g.2.2.1 34), .int x13_, .int x14_]) (rest := []) (ci := 10) (f_X10_readPart g (xL X) K len I10 J10 R hs10 a0 ka0 34 (by decide) x13_ x14_ mt hmt kmt nmt B n (hB.mv9 hF10 kmt (fun _ => rfl)) hBr hn p10 hp10 tk10 (by first | assumption | decide)) mT_6_1 mT_1_10 mT_5_238 mT_6_0 mP_56 okX10_readPart ⟨by decide, by decide⟩ rfl (by show kO (K a0) = _; rw [ka0]; rfl) rfl rfl (Nat.le_of_ble_eq_true rfl) ⟨by decide, by decide⟩ dX10_readLake_57 (aI2 (F := fun st M => P g X 4 60 [(2, .int x10_), (1, .int x7_), (0, .ref a0)] st _ _ M) (M := (K, len, I10, J10, R)) fun x15_ I15 J15 h15 => ?_)
          obtain ⟨hs15, hf15, hfj15, k15_0⟩ := h15
          show P g X 4 60 [(2, .int x10_), (1, .int x7_), (0, .ref a0)] [.int x15_] _ _ (K, len, I15, J15, R)
          have hF15 : Fr K [(10, 0), (10, 1), (10, 2), (11, 8), (11, 9), (11, 10), (11, 11), (11, 12), (11, 13)] I I15 := hF10.trans hf15 rfl rfl
          have hFJ15 : Fr K [(11, 14)] J J15 := hFJ10.trans hfj15 rfl rfl
          have pg15 := pg10.mv hf15 kns (fun _ => rfl)
          have nm15 := nm10.mv hfj15 knr (fun _ => rfl)
          have om15 := om10.mv hf15 rfl
          rcases k15_0 with ⟨v15, p15, hsp15, hp15, tk15, hv15, fl15⟩ | ⟨kf15, qf15, hsp15, hf015, hf115, hf215⟩
          · have fq15 : I15 a0 12 = I a0 12 := fl15.trans fq10
            rw [show x13_.toInt = max 1 v7 by omega, show x14_.toInt = 999 by omega] at hsp15
            have rg15 := (sNum_go hp10 hsp15).2
            refine r_istore_n hC (lv' := [(3, .int x15_), (2, .int x10_), (1, .int x7_), (0, .ref a0)]) dX10_readLake_60 (by decide) rfl ?_
            refine r_aload_n hC dX10_readLake_61 3 rfl ?_
            have n5_62 := tk15.e5
            refine r_geti hC 9 (ci := 10) rfl u10_in (by decide) mT_5_4 dX10_readLake_62 ka0 rfl rfl (fun x16_ e16 => ?_)
            have f16 : x16_.toInt = (I15 a0 9).toInt := by rw [e16]
            refine r_iconst hC (v := (5)) dX10_readLake_65 (by decide) (by decide) (fun x17_ e17 t17 => ?_)
            refine r_icmp_ne hC (tgt := 70) dX10_readLake_66 (by decide) (fun c18 => ?_) (fun c18 => ?_)
            rotate_left
            · exfalso; omega
            refine r_aload_n hC dX10_readLake_70 3 rfl ?_
            refine r_getr hC 4 (ci := 10) rfl u10_in (by decide) mT_4_239 dX10_readLake_71 ka0 rfl rfl hbr ?_
            refine r_iload_n hC dX10_readLake_74 2 rfl ?_
            refine r_putiN hC 0 (ci := 9) rfl u9_in tyX9_ok nmX9 (by decide) nF_0 rfl rfl rfl dX10_readLake_75 krm rfl rfl (fun I19 eI19 => ?_)
            have hs19 := hs15.put0 eI19 krm rfl rfl rfl (by decide)
            have hF19 := hF15.put eI19 krm rfl
            have tkp19 := tk15.put eI19 krm ka0 (by decide)
            have fp19 : I19 a0 12 = I a0 12 := (up2_kk eI19 krm ka0 (by decide)).trans fq15
            have pg19 := pg15.put eI19 krm kns (by decide)
            have om19 := om15.put eI19 krm (by first | exact Or.inr rfl | exact Or.inl (by decide) | exact Or.inl (by omega))
            refine r_aload_n hC dX10_readLake_78 3 rfl ?_
            refine r_getr hC 4 (ci := 10) rfl u10_in (by decide) mT_4_239 dX10_readLake_79 ka0 rfl rfl hbr ?_
            refine r_iload_n hC dX10_readLake_82 1 rfl ?_
            refine r_putiN hC 1 (ci := 9) rfl u9_in tyX9_ok nmX9 (by decide) nF_1 rfl rfl rfl dX10_readLake_83 krm rfl rfl (fun I20 eI20 => ?_)
            have hs20 := hs19.put0 eI20 krm rfl rfl rfl (by decide)
            have hF20 := hF19.put eI20 krm rfl
            have tkp20 := tkp19.put eI20 krm ka0 (by decide)
            have fp20 : I20 a0 12 = I a0 12 := (up2_kk eI20 krm ka0 (by decide)).trans fp19
            have pg20 := pg19.put eI20 krm kns (by decide)
            have om20 := om19.put eI20 krm (by first | exact Or.inr rfl | exact Or.inl (by decide) | exact Or.inl (by omega))
            refine r_aload_n hC dX10_readLake_86 3 rfl ?_
            refine r_getr hC 4 (ci := 10) rfl u10_in (by decide) mT_4_239 dX10_readLake_87 ka0 rfl rfl hbr ?_
            refine r_iload_n hC dX10_readLake_90 0 rfl ?_
            refine r_putiN hC 2 (ci := 9) rfl u9_in tyX9_ok nmX9 (by decide) nF_2 rfl rfl rfl dX10_readLake_91 krm rfl rfl (fun I21 eI21 => ?_)
            have hs21 := hs20.put0 eI21 krm rfl rfl rfl (by decide)
            have hF21 := hF20.put eI21 krm rfl
            have tkp21 := tkp20.put eI21 krm ka0 (by decide)
            have fp21 : I21 a0 12 = I a0 12 := (up2_kk eI21 krm ka0 (by decide)).trans fp20
            have pg21 := pg20.put eI21 krm kns (by decide)
            have om21 := om20.put eI21 krm (by first | exact Or.inr rfl | exact Or.inl (by decide) | exact Or.inl (by omega))
            have hG0 : I21 rm 0 = x7_ := (Eq.trans (up2_at (Or.inr (by decide)) eI21) (Eq.trans (up2_at (Or.inr (by decide)) eI20) (by rw [eI19]; exact up2_self _ _ _ _)))
            have hG0t : (I21 rm 0).toInt = x7_.toInt := congrArg Int32.toInt hG0
            have hG1 : I21 rm 1 = x10_ := (Eq.trans (up2_at (Or.inr (by decide)) eI21) (by rw [eI20]; exact up2_self _ _ _ _))
            have hG1t : (I21 rm 1).toInt = x10_.toInt := congrArg Int32.toInt hG1
            have hG2 : I21 rm 2 = x15_ := (by rw [eI21]; exact up2_self _ _ _ _)
            have hG2t : (I21 rm 2).toInt = x15_.toInt := congrArg Int32.toInt hG2
            have hG3 : I21 rm 3 = G3 := (Eq.trans (up2_at (Or.inr (by decide)) eI21) (Eq.trans (up2_at (Or.inr (by decide)) eI20) (Eq.trans (up2_at (Or.inr (by decide)) eI19) (Eq.trans (hf15.get krm rfl) (Eq.trans (hf10.get krm rfl) (Eq.trans (hf7.get krm rfl) (Eq.trans (hf4.get krm rfl) eG3.symm)))))))
            have hG3t : (I21 rm 3).toInt = G3.toInt := congrArg Int32.toInt hG3
            have hG4 : I21 rm 4 = G4 := (Eq.trans (up2_at (Or.inr (by decide)) eI21) (Eq.trans (up2_at (Or.inr (by decide)) eI20) (Eq.trans (up2_at (Or.inr (by decide)) eI19) (Eq.trans (hf15.get krm rfl) (Eq.trans (hf10.get krm rfl) (Eq.trans (hf7.get krm rfl) (Eq.trans (hf4.get krm rfl) eG4.symm)))))))
            have hG4t : (I21 rm 4).toInt = G4.toInt := congrArg Int32.toInt hG4
            have hG5 : I21 rm 5 = G5 := (Eq.trans (up2_at (Or.inr (by decide)) eI21) (Eq.trans (up2_at (Or.inr (by decide)) eI20) (Eq.trans (up2_at (Or.inr (by decide)) eI19) (Eq.trans (hf15.get krm rfl) (Eq.trans (hf10.get krm rfl) (Eq.trans (hf7.get krm rfl) (Eq.trans (hf4.get krm rfl) eG5.symm)))))))
            have hG5t : (I21 rm 5).toInt = G5.toInt := congrArg Int32.toInt hG5
            have hG6 : I21 rm 6 = G6 := (Eq.trans (up2_at (Or.inr (by decide)) eI21) (Eq.trans (up2_at (Or.inr (by decide)) eI20) (Eq.trans (up2_at (Or.inr (by decide)) eI19) (Eq.trans (hf15.get krm rfl) (Eq.trans (hf10.get krm rfl) (Eq.trans (hf7.get krm rfl) (Eq.trans (hf4.get krm rfl) eG6.symm)))))))
            have hG6t : (I21 rm 6).toInt = G6.toInt := congrArg Int32.toInt hG6
            have hG7 : I21 rm 7 = G7 := (Eq.trans (up2_at (Or.inr (by decide)) eI21) (Eq.trans (up2_at (Or.inr (by decide)) eI20) (Eq.trans (up2_at (Or.inr (by decide)) eI19) (Eq.trans (hf15.get krm rfl) (Eq.trans (hf10.get krm rfl) (Eq.trans (hf7.get krm rfl) (Eq.trans (hf4.get krm rfl) eG7.symm)))))))
            have hG7t : (I21 rm 7).toInt = G7.toInt := congrArg Int32.toInt hG7
            have hG8 : I21 rm 8 = G8 := (Eq.trans (up2_at (Or.inr (by decide)) eI21) (Eq.trans (up2_at (Or.inr (by decide)) eI20) (Eq.trans (up2_at (Or.inr (by decide)) eI19) (Eq.trans (hf15.get krm rfl) (Eq.trans (hf10.get krm rfl) (Eq.trans (hf7.get krm rfl) (Eq.trans (hf4.get krm rfl) eG8.symm)))))))
            have hG8t : (I21 rm 8).toInt = G8.toInt := congrArg Int32.toInt hG8
            have hG9 : I21 rm 9 = G9 := (Eq.trans (up2_at (Or.inr (by decide)) eI21) (Eq.trans (up2_at (Or.inr (by decide)) eI20) (Eq.trans (up2_at (Or.inr (by decide)) eI19) (Eq.trans (hf15.get krm rfl) (Eq.trans (hf10.get krm rfl) (Eq.trans (hf7.get krm rfl) (Eq.trans (hf4.get krm rfl) eG9.symm)))))))
            have hG9t : (I21 rm 9).toInt = G9.toInt := congrArg Int32.toInt hG9
            have hG10 : I21 rm 10 = G10 := (Eq.trans (up2_at (Or.inr (by decide)) eI21) (Eq.trans (up2_at (Or.inr (by decide)) eI20) (Eq.trans (up2_at (Or.inr (by decide)) eI19) (Eq.trans (hf15.get krm rfl) (Eq.trans (hf10.get krm rfl) (Eq.trans (hf7.get krm rfl) (Eq.trans (hf4.get krm rfl) eG10.symm)))))))
            have hG10t : (I21 rm 10).toInt = G10.toInt := congrArg Int32.toInt hG10
            exact r_vret hC hQ hlk hr (by decide) (by decide) dX10_readLake_94 ⟨_, _, rfl, rfl, ⟨hs21, hF21, hFJ15, (by first | exact Or.inl ⟨(upD (upD (upD (upD D 0 1 v7) 0 2 v10) 0 3 v15) 0 0 1), _, by unfold sLake; rw [pif_f (show ¬ D 0 0 ≠ 0 by omega), hsp7, bnd_ok, hsp10, bnd_ok, hsp15, bnd_ok], hp15, tkp21, ⟨by unfold SM; simp [upD, adN]; omega, nm15.cg (by simp [upD]) (by intro j; simp [upD]), pg21.cg (by simp [upD]) (by intro j; simp [upD]) (by simp [upD]) (by intro j; simp [upD])⟩, fp21⟩ | exact Or.inr ⟨NOekf, NOeqf, by unfold sLake; rw [pif_f (show ¬ D 0 0 ≠ 0 by omega), hsp7, bnd_ok, hsp10, bnd_ok, hsp15, bnd_ok], by omega, by omega, by omega⟩), (by exact om21)⟩⟩
          · rw [show x13_.toInt = max 1 v7 by omega, show x14_.toInt = 999 by omega] at hsp15
            refine r_istore_n hC (lv' := [(3, .int x15_), (2, .int x10_), (1, .int x7_), (0, .ref a0)]) dX10_readLake_60 (by decide) rfl ?_
            refine r_aload_n hC dX10_readLake_61 3 rfl ?_
            refine r_geti hC 9 (ci := 10) rfl u10_in (by decide) mT_5_4 dX10_readLake_62 ka0 rfl rfl (fun x22_ e22 => ?_)
            have f22 : x22_.toInt = (I15 a0 9).toInt := by rw [e22]
            refine r_iconst hC (v := (5)) dX10_readLake_65 (by decide) (by decide) (fun x23_ e23 t23 => ?_)
            refine r_icmp_ne hC (tgt := 70) dX10_readLake_66 (by decide) (fun c24 => ?_) (fun c24 => ?_)
            · exfalso; omega
            have hG0 : I15 rm 0 = x1_ := (Eq.trans (hf15.get krm rfl) (Eq.trans (hf10.get krm rfl) (Eq.trans (hf7.get krm rfl) (Eq.trans (hf4.get krm rfl) e1.symm))))
            have hG0t : (I15 rm 0).toInt = x1_.toInt := congrArg Int32.toInt hG0
            have hG1 : I15 rm 1 = G1 := (Eq.trans (hf15.get krm rfl) (Eq.trans (hf10.get krm rfl) (Eq.trans (hf7.get krm rfl) (Eq.trans (hf4.get krm rfl) eG1.symm))))
            have hG1t : (I15 rm 1).toInt = G1.toInt := congrArg Int32.toInt hG1
            have hG2 : I15 rm 2 = G2 := (Eq.trans (hf15.get krm rfl) (Eq.trans (hf10.get krm rfl) (Eq.trans (hf7.get krm rfl) (Eq.trans (hf4.get krm rfl) eG2.symm))))
            have hG2t : (I15 rm 2).toInt = G2.toInt := congrArg Int32.toInt hG2
            have hG3 : I15 rm 3 = G3 := (Eq.trans (hf15.get krm rfl) (Eq.trans (hf10.get krm rfl) (Eq.trans (hf7.get krm rfl) (Eq.trans (hf4.get krm rfl) eG3.symm))))
            have hG3t : (I15 rm 3).toInt = G3.toInt := congrArg Int32.toInt hG3
            have hG4 : I15 rm 4 = G4 := (Eq.trans (hf15.get krm rfl) (Eq.trans (hf10.get krm rfl) (Eq.trans (hf7.get krm rfl) (Eq.trans (hf4.get krm rfl) eG4.symm))))
            have hG4t : (I15 rm 4).toInt = G4.toInt := congrArg Int32.toInt hG4
            have hG5 : I15 rm 5 = G5 := (Eq.trans (hf15.get krm rfl) (Eq.trans (hf10.get krm rfl) (Eq.trans (hf7.get krm rfl) (Eq.trans (hf4.get krm rfl) eG5.symm))))
            have hG5t : (I15 rm 5).toInt = G5.toInt := congrArg Int32.toInt hG5
            have hG6 : I15 rm 6 = G6 := (Eq.trans (hf15.get krm rfl) (Eq.trans (hf10.get krm rfl) (Eq.trans (hf7.get krm rfl) (Eq.trans (hf4.get krm rfl) eG6.symm))))
            have hG6t : (I15 rm 6).toInt = G6.toInt := congrArg Int32.toInt hG6
            have hG7 : I15 rm 7 = G7 := (Eq.trans (hf15.get krm rfl) (Eq.trans (hf10.get krm rfl) (Eq.trans (hf7.get krm rfl) (Eq.trans (hf4.get krm rfl) eG7.symm))))
            have hG7t : (I15 rm 7).toInt = G7.toInt := congrArg Int32.toInt hG7
            have hG8 : I15 rm 8 = G8 := (Eq.trans (hf15.get krm rfl) (Eq.trans (hf10.get krm rfl) (Eq.trans (hf7.get krm rfl) (Eq.trans (hf4.get krm rfl) eG8.symm))))
            have hG8t : (I15 rm 8).toInt = G8.toInt := congrArg Int32.toInt hG8
            have hG9 : I15 rm 9 = G9 := (Eq.trans (hf15.get krm rfl) (Eq.trans (hf10.get krm rfl) (Eq.trans (hf7.get krm rfl) (Eq.trans (hf4.get krm rfl) eG9.symm))))
            have hG9t : (I15 rm 9).toInt = G9.toInt := congrArg Int32.toInt hG9
            have hG10 : I15 rm 10 = G10 := (Eq.trans (hf15.get krm rfl) (Eq.trans (hf10.get krm rfl) (Eq.trans (hf7.get krm rfl) (Eq.trans (hf4.get krm rfl) eG10.symm))))
            have hG10t : (I15 rm 10).toInt = G10.toInt := congrArg Int32.toInt hG10
            exact r_vret hC hQ hlk hr (by decide) (by decide) dX10_readLake_69 ⟨_, _, rfl, rfl, ⟨hs15, hF15, hFJ15, (by first | exact Or.inl ⟨(upD (upD (upD (upD D 0 1 v7) 0 2 v10) 0 3 NOx_w3) 0 0 1), _, by unfold sLake; rw [pif_f (show ¬ D 0 0 ≠ 0 by omega), hsp7, bnd_ok, hsp10, bnd_ok, hsp15, bnd_er], hp10, tk10, ⟨by unfold SM; simp [upD, adN]; omega, nm15.cg (by simp [upD]) (by intro j; simp [upD]), pg15.cg (by simp [upD]) (by intro j; simp [upD]) (by simp [upD]) (by intro j; simp [upD])⟩, fq10⟩ | exact Or.inr ⟨kf15, qf15, by unfold sLake; rw [pif_f (show ¬ D 0 0 ≠ 0 by omega), hsp7, bnd_ok, hsp10, bnd_ok, hsp15, bnd_er], by omega, by omega, by omega⟩), (by exact om15)⟩⟩
        · refine r_iload_n hC dX10_readLake_49 1 rfl ?_
          refine r_goto hC (tgt := 54) dX10_readLake_50 (by decide) ?_
          refine r_sipush hC (v := (999)) dX10_readLake_54 (by decide) (by decide) (fun x25_ e25 t25 => ?_)
          refine r_callV hC (As := [.ref (g.2.2.1 34), .int x7_, .int x25_]) (rest := []) (ci := 10) (f_X10_readPart g (xL X) K len I10 J10 R hs10 a0 ka0 34 (by decide) x7_ x25_ mt hmt kmt nmt B n (hB.mv9 hF10 kmt (fun _ => rfl)) hBr hn p10 hp10 tk10 (by first | assumption | decide)) mT_6_1 mT_1_10 mT_5_238 mT_6_0 mP_56 okX10_readPart ⟨by decide, by decide⟩ rfl (by show kO (K a0) = _; rw [ka0]; rfl) rfl rfl (Nat.le_of_ble_eq_true rfl) ⟨by decide, by decide⟩ dX10_readLake_57 (aI2 (F := fun st M => P g X 4 60 [(2, .int x10_), (1, .int x7_), (0, .ref a0)] st _ _ M) (M := (K, len, I10, J10, R)) fun x26_ I26 J26 h26 => ?_)
          obtain ⟨hs26, hf26, hfj26, k26_0⟩ := h26
          show P g X 4 60 [(2, .int x10_), (1, .int x7_), (0, .ref a0)] [.int x26_] _ _ (K, len, I26, J26, R)
          have hF26 : Fr K [(10, 0), (10, 1), (10, 2), (11, 8), (11, 9), (11, 10), (11, 11), (11, 12), (11, 13)] I I26 := hF10.trans hf26 rfl rfl
          have hFJ26 : Fr K [(11, 14)] J J26 := hFJ10.trans hfj26 rfl rfl
          have pg26 := pg10.mv hf26 kns (fun _ => rfl)
          have nm26 := nm10.mv hfj26 knr (fun _ => rfl)
          have om26 := om10.mv hf26 rfl
          rcases k26_0 with ⟨v26, p26, hsp26, hp26, tk26, hv26, fl26⟩ | ⟨kf26, qf26, hsp26, hf026, hf126, hf226⟩
          · have fq26 : I26 a0 12 = I a0 12 := fl26.trans fq10
            rw [show x7_.toInt = max 1 v7 by omega, show x25_.toInt = 999 by omega] at hsp26
            have rg26 := (sNum_go hp10 hsp26).2
            refine r_istore_n hC (lv' := [(3, .int x26_), (2, .int x10_), (1, .int x7_), (0, .ref a0)]) dX10_readLake_60 (by decide) rfl ?_
            refine r_aload_n hC dX10_readLake_61 3 rfl ?_
            have n5_62 := tk26.e5
            refine r_geti hC 9 (ci := 10) rfl u10_in (by decide) mT_5_4 dX10_readLake_62 ka0 rfl rfl (fun x27_ e27 => ?_)
            have f27 : x27_.toInt = (I26 a0 9).toInt := by rw [e27]
            refine r_iconst hC (v := (5)) dX10_readLake_65 (by decide) (by decide) (fun x28_ e28 t28 => ?_)
            refine r_icmp_ne hC (tgt := 70) dX10_readLake_66 (by decide) (fun c29 => ?_) (fun c29 => ?_)
            rotate_left
            · exfalso; omega
            refine r_aload_n hC dX10_readLake_70 3 rfl ?_
            refine r_getr hC 4 (ci := 10) rfl u10_in (by decide) mT_4_239 dX10_readLake_71 ka0 rfl rfl hbr ?_
            refine r_iload_n hC dX10_readLake_74 2 rfl ?_
            refine r_putiN hC 0 (ci := 9) rfl u9_in tyX9_ok nmX9 (by decide) nF_0 rfl rfl rfl dX10_readLake_75 krm rfl rfl (fun I30 eI30 => ?_)
            have hs30 := hs26.put0 eI30 krm rfl rfl rfl (by decide)
            have hF30 := hF26.put eI30 krm rfl
            have tkp30 := tk26.put eI30 krm ka0 (by decide)
            have fp30 : I30 a0 12 = I a0 12 := (up2_kk eI30 krm ka0 (by decide)).trans fq26
            have pg30 := pg26.put eI30 krm kns (by decide)
            have om30 := om26.put eI30 krm (by first | exact Or.inr rfl | exact Or.inl (by decide) | exact Or.inl (by omega))
            refine r_aload_n hC dX10_readLake_78 3 rfl ?_
            refine r_getr hC 4 (ci := 10) rfl u10_in (by decide) mT_4_239 dX10_readLake_79 ka0 rfl rfl hbr ?_
            refine r_iload_n hC dX10_readLake_82 1 rfl ?_
            refine r_putiN hC 1 (ci := 9) rfl u9_in tyX9_ok nmX9 (by decide) nF_1 rfl rfl rfl dX10_readLake_83 krm rfl rfl (fun I31 eI31 => ?_)
            have hs31 := hs30.put0 eI31 krm rfl rfl rfl (by decide)
            have hF31 := hF30.put eI31 krm rfl
            have tkp31 := tkp30.put eI31 krm ka0 (by decide)
            have fp31 : I31 a0 12 = I a0 12 := (up2_kk eI31 krm ka0 (by decide)).trans fp30
            have pg31 := pg30.put eI31 krm kns (by decide)
            have om31 := om30.put eI31 krm (by first | exact Or.inr rfl | exact Or.inl (by decide) | exact Or.inl (by omega))
            refine r_aload_n hC dX10_readLake_86 3 rfl ?_
            refine r_getr hC 4 (ci := 10) rfl u10_in (by decide) mT_4_239 dX10_readLake_87 ka0 rfl rfl hbr ?_
            refine r_iload_n hC dX10_readLake_90 0 rfl ?_
            refine r_putiN hC 2 (ci := 9) rfl u9_in tyX9_ok nmX9 (by decide) nF_2 rfl rfl rfl dX10_readLake_91 krm rfl rfl (fun I32 eI32 => ?_)
            have hs32 := hs31.put0 eI32 krm rfl rfl rfl (by decide)
            have hF32 := hF31.put eI32 krm rfl
            have tkp32 := tkp31.put eI32 krm ka0 (by decide)
            have fp32 : I32 a0 12 = I a0 12 := (up2_kk eI32 krm ka0 (by decide)).trans fp31
            have pg32 := pg31.put eI32 krm kns (by decide)
            have om32 := om31.put eI32 krm (by first | exact Or.inr rfl | exact Or.inl (by decide) | exact Or.inl (by omega))
            have hG0 : I32 rm 0 = x7_ := (Eq.trans (up2_at (Or.inr (by decide)) eI32) (Eq.trans (up2_at (Or.inr (by decide)) eI31) (by rw [eI30]; exact up2_self _ _ _ _)))
            have hG0t : (I32 rm 0).toInt = x7_.toInt := congrArg Int32.toInt hG0
            have hG1 : I32 rm 1 = x10_ := (Eq.trans (up2_at (Or.inr (by decide)) eI32) (by rw [eI31]; exact up2_self _ _ _ _))
            have hG1t : (I32 rm 1).toInt = x10_.toInt := congrArg Int32.toInt hG1
            have hG2 : I32 rm 2 = x26_ := (by rw [eI32]; exact up2_self _ _ _ _)
            have hG2t : (I32 rm 2).toInt = x26_.toInt := congrArg Int32.toInt hG2
            have hG3 : I32 rm 3 = G3 := (Eq.trans (up2_at (Or.inr (by decide)) eI32) (Eq.trans (up2_at (Or.inr (by decide)) eI31) (Eq.trans (up2_at (Or.inr (by decide)) eI30) (Eq.trans (hf26.get krm rfl) (Eq.trans (hf10.get krm rfl) (Eq.trans (hf7.get krm rfl) (Eq.trans (hf4.get krm rfl) eG3.symm)))))))
            have hG3t : (I32 rm 3).toInt = G3.toInt := congrArg Int32.toInt hG3
            have hG4 : I32 rm 4 = G4 := (Eq.trans (up2_at (Or.inr (by decide)) eI32) (Eq.trans (up2_at (Or.inr (by decide)) eI31) (Eq.trans (up2_at (Or.inr (by decide)) eI30) (Eq.trans (hf26.get krm rfl) (Eq.trans (hf10.get krm rfl) (Eq.trans (hf7.get krm rfl) (Eq.trans (hf4.get krm rfl) eG4.symm)))))))
            have hG4t : (I32 rm 4).toInt = G4.toInt := congrArg Int32.toInt hG4
            have hG5 : I32 rm 5 = G5 := (Eq.trans (up2_at (Or.inr (by decide)) eI32) (Eq.trans (up2_at (Or.inr (by decide)) eI31) (Eq.trans (up2_at (Or.inr (by decide)) eI30) (Eq.trans (hf26.get krm rfl) (Eq.trans (hf10.get krm rfl) (Eq.trans (hf7.get krm rfl) (Eq.trans (hf4.get krm rfl) eG5.symm)))))))
            have hG5t : (I32 rm 5).toInt = G5.toInt := congrArg Int32.toInt hG5
            have hG6 : I32 rm 6 = G6 := (Eq.trans (up2_at (Or.inr (by decide)) eI32) (Eq.trans (up2_at (Or.inr (by decide)) eI31) (Eq.trans (up2_at (Or.inr (by decide)) eI30) (Eq.trans (hf26.get krm rfl) (Eq.trans (hf10.get krm rfl) (Eq.trans (hf7.get krm rfl) (Eq.trans (hf4.get krm rfl) eG6.symm)))))))
            have hG6t : (I32 rm 6).toInt = G6.toInt := congrArg Int32.toInt hG6
            have hG7 : I32 rm 7 = G7 := (Eq.trans (up2_at (Or.inr (by decide)) eI32) (Eq.trans (up2_at (Or.inr (by decide)) eI31) (Eq.trans (up2_at (Or.inr (by decide)) eI30) (Eq.trans (hf26.get krm rfl) (Eq.trans (hf10.get krm rfl) (Eq.trans (hf7.get krm rfl) (Eq.trans (hf4.get krm rfl) eG7.symm)))))))
            have hG7t : (I32 rm 7).toInt = G7.toInt := congrArg Int32.toInt hG7
            have hG8 : I32 rm 8 = G8 := (Eq.trans (up2_at (Or.inr (by decide)) eI32) (Eq.trans (up2_at (Or.inr (by decide)) eI31) (Eq.trans (up2_at (Or.inr (by decide)) eI30) (Eq.trans (hf26.get krm rfl) (Eq.trans (hf10.get krm rfl) (Eq.trans (hf7.get krm rfl) (Eq.trans (hf4.get krm rfl) eG8.symm)))))))
            have hG8t : (I32 rm 8).toInt = G8.toInt := congrArg Int32.toInt hG8
            have hG9 : I32 rm 9 = G9 := (Eq.trans (up2_at (Or.inr (by decide)) eI32) (Eq.trans (up2_at (Or.inr (by decide)) eI31) (Eq.trans (up2_at (Or.inr (by decide)) eI30) (Eq.trans (hf26.get krm rfl) (Eq.trans (hf10.get krm rfl) (Eq.trans (hf7.get krm rfl) (Eq.trans (hf4.get krm rfl) eG9.symm)))))))
            have hG9t : (I32 rm 9).toInt = G9.toInt := congrArg Int32.toInt hG9
            have hG10 : I32 rm 10 = G10 := (Eq.trans (up2_at (Or.inr (by decide)) eI32) (Eq.trans (up2_at (Or.inr (by decide)) eI31) (Eq.trans (up2_at (Or.inr (by decide)) eI30) (Eq.trans (hf26.get krm rfl) (Eq.trans (hf10.get krm rfl) (Eq.trans (hf7.get krm rfl) (Eq.trans (hf4.get krm rfl) eG10.symm)))))))
            have hG10t : (I32 rm 10).toInt = G10.toInt := congrArg Int32.toInt hG10
            exact r_vret hC hQ hlk hr (by decide) (by decide) dX10_readLake_94 ⟨_, _, rfl, rfl, ⟨hs32, hF32, hFJ26, (by first | exact Or.inl ⟨(upD (upD (upD (upD D 0 1 v7) 0 2 v10) 0 3 v26) 0 0 1), _, by unfold sLake; rw [pif_f (show ¬ D 0 0 ≠ 0 by omega), hsp7, bnd_ok, hsp10, bnd_ok, hsp26, bnd_ok], hp26, tkp32, ⟨by unfold SM; simp [upD, adN]; omega, nm26.cg (by simp [upD]) (by intro j; simp [upD]), pg32.cg (by simp [upD]) (by intro j; simp [upD]) (by simp [upD]) (by intro j; simp [upD])⟩, fp32⟩ | exact Or.inr ⟨NOekf, NOeqf, by unfold sLake; rw [pif_f (show ¬ D 0 0 ≠ 0 by omega), hsp7, bnd_ok, hsp10, bnd_ok, hsp26, bnd_ok], by omega, by omega, by omega⟩), (by exact om32)⟩⟩
          · rw [show x7_.toInt = max 1 v7 by omega, show x25_.toInt = 999 by omega] at hsp26
            refine r_istore_n hC (lv' := [(3, .int x26_), (2, .int x10_), (1, .int x7_), (0, .ref a0)]) dX10_readLake_60 (by decide) rfl ?_
            refine r_aload_n hC dX10_readLake_61 3 rfl ?_
            refine r_geti hC 9 (ci := 10) rfl u10_in (by decide) mT_5_4 dX10_readLake_62 ka0 rfl rfl (fun x33_ e33 => ?_)
            have f33 : x33_.toInt = (I26 a0 9).toInt := by rw [e33]
            refine r_iconst hC (v := (5)) dX10_readLake_65 (by decide) (by decide) (fun x34_ e34 t34 => ?_)
            refine r_icmp_ne hC (tgt := 70) dX10_readLake_66 (by decide) (fun c35 => ?_) (fun c35 => ?_)
            · exfalso; omega
            have hG0 : I26 rm 0 = x1_ := (Eq.trans (hf26.get krm rfl) (Eq.trans (hf10.get krm rfl) (Eq.trans (hf7.get krm rfl) (Eq.trans (hf4.get krm rfl) e1.symm))))
            have hG0t : (I26 rm 0).toInt = x1_.toInt := congrArg Int32.toInt hG0
            have hG1 : I26 rm 1 = G1 := (Eq.trans (hf26.get krm rfl) (Eq.trans (hf10.get krm rfl) (Eq.trans (hf7.get krm rfl) (Eq.trans (hf4.get krm rfl) eG1.symm))))
            have hG1t : (I26 rm 1).toInt = G1.toInt := congrArg Int32.toInt hG1
            have hG2 : I26 rm 2 = G2 := (Eq.trans (hf26.get krm rfl) (Eq.trans (hf10.get krm rfl) (Eq.trans (hf7.get krm rfl) (Eq.trans (hf4.get krm rfl) eG2.symm))))
            have hG2t : (I26 rm 2).toInt = G2.toInt := congrArg Int32.toInt hG2
            have hG3 : I26 rm 3 = G3 := (Eq.trans (hf26.get krm rfl) (Eq.trans (hf10.get krm rfl) (Eq.trans (hf7.get krm rfl) (Eq.trans (hf4.get krm rfl) eG3.symm))))
            have hG3t : (I26 rm 3).toInt = G3.toInt := congrArg Int32.toInt hG3
            have hG4 : I26 rm 4 = G4 := (Eq.trans (hf26.get krm rfl) (Eq.trans (hf10.get krm rfl) (Eq.trans (hf7.get krm rfl) (Eq.trans (hf4.get krm rfl) eG4.symm))))
            have hG4t : (I26 rm 4).toInt = G4.toInt := congrArg Int32.toInt hG4
            have hG5 : I26 rm 5 = G5 := (Eq.trans (hf26.get krm rfl) (Eq.trans (hf10.get krm rfl) (Eq.trans (hf7.get krm rfl) (Eq.trans (hf4.get krm rfl) eG5.symm))))
            have hG5t : (I26 rm 5).toInt = G5.toInt := congrArg Int32.toInt hG5
            have hG6 : I26 rm 6 = G6 := (Eq.trans (hf26.get krm rfl) (Eq.trans (hf10.get krm rfl) (Eq.trans (hf7.get krm rfl) (Eq.trans (hf4.get krm rfl) eG6.symm))))
            have hG6t : (I26 rm 6).toInt = G6.toInt := congrArg Int32.toInt hG6
            have hG7 : I26 rm 7 = G7 := (Eq.trans (hf26.get krm rfl) (Eq.trans (hf10.get krm rfl) (Eq.trans (hf7.get krm rfl) (Eq.trans (hf4.get krm rfl) eG7.symm))))
            have hG7t : (I26 rm 7).toInt = G7.toInt := congrArg Int32.toInt hG7
            have hG8 : I26 rm 8 = G8 := (Eq.trans (hf26.get krm rfl) (Eq.trans (hf10.get krm rfl) (Eq.trans (hf7.get krm rfl) (Eq.trans (hf4.get krm rfl) eG8.symm))))
            have hG8t : (I26 rm 8).toInt = G8.toInt := congrArg Int32.toInt hG8
            have hG9 : I26 rm 9 = G9 := (Eq.trans (hf26.get krm rfl) (Eq.trans (hf10.get krm rfl) (Eq.trans (hf7.get krm rfl) (Eq.trans (hf4.get krm rfl) eG9.symm))))
            have hG9t : (I26 rm 9).toInt = G9.toInt := congrArg Int32.toInt hG9
            have hG10 : I26 rm 10 = G10 := (Eq.trans (hf26.get krm rfl) (Eq.trans (hf10.get krm rfl) (Eq.trans (hf7.get krm rfl) (Eq.trans (hf4.get krm rfl) eG10.symm))))
            have hG10t : (I26 rm 10).toInt = G10.toInt := congrArg Int32.toInt hG10
            exact r_vret hC hQ hlk hr (by decide) (by decide) dX10_readLake_69 ⟨_, _, rfl, rfl, ⟨hs26, hF26, hFJ26, (by first | exact Or.inl ⟨(upD (upD (upD (upD D 0 1 v7) 0 2 v10) 0 3 NOx_w3) 0 0 1), _, by unfold sLake; rw [pif_f (show ¬ D 0 0 ≠ 0 by omega), hsp7, bnd_ok, hsp10, bnd_ok, hsp26, bnd_er], hp10, tk10, ⟨by unfold SM; simp [upD, adN]; omega, nm26.cg (by simp [upD]) (by intro j; simp [upD]), pg26.cg (by simp [upD]) (by intro j; simp [upD]) (by simp [upD]) (by intro j; simp [upD])⟩, fq10⟩ | exact Or.inr ⟨kf26, qf26, by unfold sLake; rw [pif_f (show ¬ D 0 0 ≠ 0 by omega), hsp7, bnd_ok, hsp10, bnd_ok, hsp26, bnd_er], by omega, by omega, by omega⟩), (by exact om26)⟩⟩
      · rw [show x8_.toInt = 1 by omega, show x9_.toInt = 50 by omega] at hsp10
        refine r_istore_n hC (lv' := [(2, .int x10_), (1, .int x7_), (0, .ref a0)]) dX10_readLake_40 (by decide) rfl ?_
        refine r_aload_n hC dX10_readLake_41 2 rfl ?_
        refine r_ldcS hC (i := 34) (by decide) rfl rfl dX10_readLake_42 ?_
        refine r_iload_n hC dX10_readLake_44 1 rfl ?_
        refine r_iconst hC (v := (1)) dX10_readLake_45 (by decide) (by decide) (fun x36_ e36 t36 => ?_)
        refine r_icmp_le hC (tgt := 53) dX10_readLake_46 (by decide) (fun c37 => ?_) (fun c37 => ?_)
        · refine r_iconst hC (v := (1)) dX10_readLake_53 (by decide) (by decide) (fun x38_ e38 t38 => ?_)
          refine r_sipush hC (v := (999)) dX10_readLake_54 (by decide) (by decide) (fun x39_ e39 t39 => ?_)
          refine r_callV hC (As := [.ref (g.2.2.1 34), .int x38_, .int x39_]) (rest := []) (ci := 10) (e_X10_readPart g (xL X) K len I10 J10 R hs10 a0 ka0 34 (by decide) x38_ x39_ (by omega)) mT_6_1 mT_1_10 mT_5_238 mT_6_0 mP_56 okX10_readPart ⟨by decide, by decide⟩ rfl (by show kO (K a0) = _; rw [ka0]; rfl) rfl rfl (Nat.le_of_ble_eq_true rfl) ⟨by decide, by decide⟩ dX10_readLake_57 (aI2 (F := fun st M => P g X 4 60 [(2, .int x10_), (1, .int x7_), (0, .ref a0)] st _ _ M) (M := (K, len, I10, J10, R)) fun x40_ I40 J40 h40 => ?_)
          obtain ⟨hs40, hf40, hfj40, k40_0, k40_1, k40_2⟩ := h40
          show P g X 4 60 [(2, .int x10_), (1, .int x7_), (0, .ref a0)] [.int x40_] _ _ (K, len, I40, J40, R)
          have hF40 : Fr K [(10, 0), (10, 1), (10, 2), (11, 8), (11, 9), (11, 10), (11, 11), (11, 12), (11, 13)] I I40 := hF10.trans hf40 rfl rfl
          have hFJ40 : Fr K [(11, 14)] J J40 := hFJ10.trans hfj40 rfl rfl
          have om40 := om10.mv hf40 rfl
          refine r_istore_n hC (lv' := [(3, .int x40_), (2, .int x10_), (1, .int x7_), (0, .ref a0)]) dX10_readLake_60 (by decide) rfl ?_
          refine r_aload_n hC dX10_readLake_61 3 rfl ?_
          refine r_geti hC 9 (ci := 10) rfl u10_in (by decide) mT_5_4 dX10_readLake_62 ka0 rfl rfl (fun x41_ e41 => ?_)
          have f41 : x41_.toInt = (I40 a0 9).toInt := by rw [e41]
          refine r_iconst hC (v := (5)) dX10_readLake_65 (by decide) (by decide) (fun x42_ e42 t42 => ?_)
          refine r_icmp_ne hC (tgt := 70) dX10_readLake_66 (by decide) (fun c43 => ?_) (fun c43 => ?_)
          · exfalso; omega
          have hG0 : I40 rm 0 = x1_ := (Eq.trans (hf40.get krm rfl) (Eq.trans (hf10.get krm rfl) (Eq.trans (hf7.get krm rfl) (Eq.trans (hf4.get krm rfl) e1.symm))))
          have hG0t : (I40 rm 0).toInt = x1_.toInt := congrArg Int32.toInt hG0
          have hG1 : I40 rm 1 = G1 := (Eq.trans (hf40.get krm rfl) (Eq.trans (hf10.get krm rfl) (Eq.trans (hf7.get krm rfl) (Eq.trans (hf4.get krm rfl) eG1.symm))))
          have hG1t : (I40 rm 1).toInt = G1.toInt := congrArg Int32.toInt hG1
          have hG2 : I40 rm 2 = G2 := (Eq.trans (hf40.get krm rfl) (Eq.trans (hf10.get krm rfl) (Eq.trans (hf7.get krm rfl) (Eq.trans (hf4.get krm rfl) eG2.symm))))
          have hG2t : (I40 rm 2).toInt = G2.toInt := congrArg Int32.toInt hG2
          have hG3 : I40 rm 3 = G3 := (Eq.trans (hf40.get krm rfl) (Eq.trans (hf10.get krm rfl) (Eq.trans (hf7.get krm rfl) (Eq.trans (hf4.get krm rfl) eG3.symm))))
          have hG3t : (I40 rm 3).toInt = G3.toInt := congrArg Int32.toInt hG3
          have hG4 : I40 rm 4 = G4 := (Eq.trans (hf40.get krm rfl) (Eq.trans (hf10.get krm rfl) (Eq.trans (hf7.get krm rfl) (Eq.trans (hf4.get krm rfl) eG4.symm))))
          have hG4t : (I40 rm 4).toInt = G4.toInt := congrArg Int32.toInt hG4
          have hG5 : I40 rm 5 = G5 := (Eq.trans (hf40.get krm rfl) (Eq.trans (hf10.get krm rfl) (Eq.trans (hf7.get krm rfl) (Eq.trans (hf4.get krm rfl) eG5.symm))))
          have hG5t : (I40 rm 5).toInt = G5.toInt := congrArg Int32.toInt hG5
          have hG6 : I40 rm 6 = G6 := (Eq.trans (hf40.get krm rfl) (Eq.trans (hf10.get krm rfl) (Eq.trans (hf7.get krm rfl) (Eq.trans (hf4.get krm rfl) eG6.symm))))
          have hG6t : (I40 rm 6).toInt = G6.toInt := congrArg Int32.toInt hG6
          have hG7 : I40 rm 7 = G7 := (Eq.trans (hf40.get krm rfl) (Eq.trans (hf10.get krm rfl) (Eq.trans (hf7.get krm rfl) (Eq.trans (hf4.get krm rfl) eG7.symm))))
          have hG7t : (I40 rm 7).toInt = G7.toInt := congrArg Int32.toInt hG7
          have hG8 : I40 rm 8 = G8 := (Eq.trans (hf40.get krm rfl) (Eq.trans (hf10.get krm rfl) (Eq.trans (hf7.get krm rfl) (Eq.trans (hf4.get krm rfl) eG8.symm))))
          have hG8t : (I40 rm 8).toInt = G8.toInt := congrArg Int32.toInt hG8
          have hG9 : I40 rm 9 = G9 := (Eq.trans (hf40.get krm rfl) (Eq.trans (hf10.get krm rfl) (Eq.trans (hf7.get krm rfl) (Eq.trans (hf4.get krm rfl) eG9.symm))))
          have hG9t : (I40 rm 9).toInt = G9.toInt := congrArg Int32.toInt hG9
          have hG10 : I40 rm 10 = G10 := (Eq.trans (hf40.get krm rfl) (Eq.trans (hf10.get krm rfl) (Eq.trans (hf7.get krm rfl) (Eq.trans (hf4.get krm rfl) eG10.symm))))
          have hG10t : (I40 rm 10).toInt = G10.toInt := congrArg Int32.toInt hG10
          exact r_vret hC hQ hlk hr (by decide) (by decide) dX10_readLake_69 ⟨_, _, rfl, rfl, ⟨hs40, hF40, hFJ40, (by first | exact Or.inl ⟨(upD (upD (upD (upD D 0 1 v7) 0 2 NOx_w2) 0 3 NOx_w3) 0 0 1), _, by unfold sLake; rw [pif_f (show ¬ D 0 0 ≠ 0 by omega), hsp7, bnd_ok, hsp10, bnd_er], hp7, tk7, ⟨by unfold SM; simp [upD, adN]; omega, nm10.cg (by simp [upD]) (by intro j; simp [upD]), pg10.cg (by simp [upD]) (by intro j; simp [upD]) (by simp [upD]) (by intro j; simp [upD])⟩, fq7⟩ | exact Or.inr ⟨kf10, qf10, by unfold sLake; rw [pif_f (show ¬ D 0 0 ≠ 0 by omega), hsp7, bnd_ok, hsp10, bnd_er], by omega, by omega, by omega⟩), (by exact om40)⟩⟩
        · refine r_iload_n hC dX10_readLake_49 1 rfl ?_
          refine r_goto hC (tgt := 54) dX10_readLake_50 (by decide) ?_
          refine r_sipush hC (v := (999)) dX10_readLake_54 (by decide) (by decide) (fun x44_ e44 t44 => ?_)
          refine r_callV hC (As := [.ref (g.2.2.1 34), .int x7_, .int x44_]) (rest := []) (ci := 10) (e_X10_readPart g (xL X) K len I10 J10 R hs10 a0 ka0 34 (by decide) x7_ x44_ (by omega)) mT_6_1 mT_1_10 mT_5_238 mT_6_0 mP_56 okX10_readPart ⟨by decide, by decide⟩ rfl (by show kO (K a0) = _; rw [ka0]; rfl) rfl rfl (Nat.le_of_ble_eq_true rfl) ⟨by decide, by decide⟩ dX10_readLake_57 (aI2 (F := fun st M => P g X 4 60 [(2, .int x10_), (1, .int x7_), (0, .ref a0)] st _ _ M) (M := (K, len, I10, J10, R)) fun x45_ I45 J45 h45 => ?_)
          obtain ⟨hs45, hf45, hfj45, k45_0, k45_1, k45_2⟩ := h45
          show P g X 4 60 [(2, .int x10_), (1, .int x7_), (0, .ref a0)] [.int x45_] _ _ (K, len, I45, J45, R)
          have hF45 : Fr K [(10, 0), (10, 1), (10, 2), (11, 8), (11, 9), (11, 10), (11, 11), (11, 12), (11, 13)] I I45 := hF10.trans hf45 rfl rfl
          have hFJ45 : Fr K [(11, 14)] J J45 := hFJ10.trans hfj45 rfl rfl
          have om45 := om10.mv hf45 rfl
          refine r_istore_n hC (lv' := [(3, .int x45_), (2, .int x10_), (1, .int x7_), (0, .ref a0)]) dX10_readLake_60 (by decide) rfl ?_
          refine r_aload_n hC dX10_readLake_61 3 rfl ?_
          refine r_geti hC 9 (ci := 10) rfl u10_in (by decide) mT_5_4 dX10_readLake_62 ka0 rfl rfl (fun x46_ e46 => ?_)
          have f46 : x46_.toInt = (I45 a0 9).toInt := by rw [e46]
          refine r_iconst hC (v := (5)) dX10_readLake_65 (by decide) (by decide) (fun x47_ e47 t47 => ?_)
          refine r_icmp_ne hC (tgt := 70) dX10_readLake_66 (by decide) (fun c48 => ?_) (fun c48 => ?_)
          · exfalso; omega
          have hG0 : I45 rm 0 = x1_ := (Eq.trans (hf45.get krm rfl) (Eq.trans (hf10.get krm rfl) (Eq.trans (hf7.get krm rfl) (Eq.trans (hf4.get krm rfl) e1.symm))))
          have hG0t : (I45 rm 0).toInt = x1_.toInt := congrArg Int32.toInt hG0
          have hG1 : I45 rm 1 = G1 := (Eq.trans (hf45.get krm rfl) (Eq.trans (hf10.get krm rfl) (Eq.trans (hf7.get krm rfl) (Eq.trans (hf4.get krm rfl) eG1.symm))))
          have hG1t : (I45 rm 1).toInt = G1.toInt := congrArg Int32.toInt hG1
          have hG2 : I45 rm 2 = G2 := (Eq.trans (hf45.get krm rfl) (Eq.trans (hf10.get krm rfl) (Eq.trans (hf7.get krm rfl) (Eq.trans (hf4.get krm rfl) eG2.symm))))
          have hG2t : (I45 rm 2).toInt = G2.toInt := congrArg Int32.toInt hG2
          have hG3 : I45 rm 3 = G3 := (Eq.trans (hf45.get krm rfl) (Eq.trans (hf10.get krm rfl) (Eq.trans (hf7.get krm rfl) (Eq.trans (hf4.get krm rfl) eG3.symm))))
          have hG3t : (I45 rm 3).toInt = G3.toInt := congrArg Int32.toInt hG3
          have hG4 : I45 rm 4 = G4 := (Eq.trans (hf45.get krm rfl) (Eq.trans (hf10.get krm rfl) (Eq.trans (hf7.get krm rfl) (Eq.trans (hf4.get krm rfl) eG4.symm))))
          have hG4t : (I45 rm 4).toInt = G4.toInt := congrArg Int32.toInt hG4
          have hG5 : I45 rm 5 = G5 := (Eq.trans (hf45.get krm rfl) (Eq.trans (hf10.get krm rfl) (Eq.trans (hf7.get krm rfl) (Eq.trans (hf4.get krm rfl) eG5.symm))))
          have hG5t : (I45 rm 5).toInt = G5.toInt := congrArg Int32.toInt hG5
          have hG6 : I45 rm 6 = G6 := (Eq.trans (hf45.get krm rfl) (Eq.trans (hf10.get krm rfl) (Eq.trans (hf7.get krm rfl) (Eq.trans (hf4.get krm rfl) eG6.symm))))
          have hG6t : (I45 rm 6).toInt = G6.toInt := congrArg Int32.toInt hG6
          have hG7 : I45 rm 7 = G7 := (Eq.trans (hf45.get krm rfl) (Eq.trans (hf10.get krm rfl) (Eq.trans (hf7.get krm rfl) (Eq.trans (hf4.get krm rfl) eG7.symm))))
          have hG7t : (I45 rm 7).toInt = G7.toInt := congrArg Int32.toInt hG7
          have hG8 : I45 rm 8 = G8 := (Eq.trans (hf45.get krm rfl) (Eq.trans (hf10.get krm rfl) (Eq.trans (hf7.get krm rfl) (Eq.trans (hf4.get krm rfl) eG8.symm))))
          have hG8t : (I45 rm 8).toInt = G8.toInt := congrArg Int32.toInt hG8
          have hG9 : I45 rm 9 = G9 := (Eq.trans (hf45.get krm rfl) (Eq.trans (hf10.get krm rfl) (Eq.trans (hf7.get krm rfl) (Eq.trans (hf4.get krm rfl) eG9.symm))))
          have hG9t : (I45 rm 9).toInt = G9.toInt := congrArg Int32.toInt hG9
          have hG10 : I45 rm 10 = G10 := (Eq.trans (hf45.get krm rfl) (Eq.trans (hf10.get krm rfl) (Eq.trans (hf7.get krm rfl) (Eq.trans (hf4.get krm rfl) eG10.symm))))
          have hG10t : (I45 rm 10).toInt = G10.toInt := congrArg Int32.toInt hG10
          exact r_vret hC hQ hlk hr (by decide) (by decide) dX10_readLake_69 ⟨_, _, rfl, rfl, ⟨hs45, hF45, hFJ45, (by first | exact Or.inl ⟨(upD (upD (upD (upD D 0 1 v7) 0 2 NOx_w2) 0 3 NOx_w3) 0 0 1), _, by unfold sLake; rw [pif_f (show ¬ D 0 0 ≠ 0 by omega), hsp7, bnd_ok, hsp10, bnd_er], hp7, tk7, ⟨by unfold SM; simp [upD, adN]; omega, nm10.cg (by simp [upD]) (by intro j; simp [upD]), pg10.cg (by simp [upD]) (by intro j; simp [upD]) (by simp [upD]) (by intro j; simp [upD])⟩, fq7⟩ | exact Or.inr ⟨kf10, qf10, by unfold sLake; rw [pif_f (show ¬ D 0 0 ≠ 0 by omega), hsp7, bnd_ok, hsp10, bnd_er], by omega, by omega, by omega⟩), (by exact om45)⟩⟩
    · rw [show x5_.toInt = 0 by omega, show x6_.toInt = 500 by omega] at hsp7
      refine r_istore_n hC (lv' := [(1, .int x7_), (0, .ref a0)]) dX10_readLake_30 (by decide) rfl ?_
      refine r_aload_n hC dX10_readLake_31 1 rfl ?_
      refine r_ldcS hC (i := 33) (by decide) rfl rfl dX10_readLake_32 ?_
      refine r_iconst hC (v := (1)) dX10_readLake_34 (by decide) (by decide) (fun x49_ e49 t49 => ?_)
      refine r_bipush hC (v := (50)) dX10_readLake_35 (by decide) (by decide) (fun x50_ e50 t50 => ?_)
      refine r_callV hC (As := [.ref (g.2.2.1 33), .int x49_, .int x50_]) (rest := []) (ci := 10) (e_X10_readPart g (xL X) K len I7 J7 R hs7 a0 ka0 33 (by decide) x49_ x50_ (by omega)) mT_6_1 mT_1_10 mT_5_238 mT_6_0 mP_56 okX10_readPart ⟨by decide, by decide⟩ rfl (by show kO (K a0) = _; rw [ka0]; rfl) rfl rfl (Nat.le_of_ble_eq_true rfl) ⟨by decide, by decide⟩ dX10_readLake_37 (aI2 (F := fun st M => P g X 4 40 [(1, .int x7_), (0, .ref a0)] st _ _ M) (M := (K, len, I7, J7, R)) fun x51_ I51 J51 h51 => ?_)
      obtain ⟨hs51, hf51, hfj51, k51_0, k51_1, k51_2⟩ := h51
      show P g X 4 40 [(1, .int x7_), (0, .ref a0)] [.int x51_] _ _ (K, len, I51, J51, R)
      have hF51 : Fr K [(10, 0), (10, 1), (10, 2), (11, 8), (11, 9), (11, 10), (11, 11), (11, 12), (11, 13)] I I51 := hF7.trans hf51 rfl rfl
      have hFJ51 : Fr K [(11, 14)] J J51 := hFJ7.trans hfj51 rfl rfl
      have om51 := om7.mv hf51 rfl
      refine r_istore_n hC (lv' := [(2, .int x51_), (1, .int x7_), (0, .ref a0)]) dX10_readLake_40 (by decide) rfl ?_
      refine r_aload_n hC dX10_readLake_41 2 rfl ?_
      refine r_ldcS hC (i := 34) (by decide) rfl rfl dX10_readLake_42 ?_
      refine r_iload_n hC dX10_readLake_44 1 rfl ?_
      refine r_iconst hC (v := (1)) dX10_readLake_45 (by decide) (by decide) (fun x52_ e52 t52 => ?_)
      refine r_icmp_le hC (tgt := 53) dX10_readLake_46 (by decide) (fun c53 => ?_) (fun c53 => ?_)
      · refine r_iconst hC (v := (1)) dX10_readLake_53 (by decide) (by decide) (fun x54_ e54 t54 => ?_)
        refine r_sipush hC (v := (999)) dX10_readLake_54 (by decide) (by decide) (fun x55_ e55 t55 => ?_)
        refine r_callV hC (As := [.ref (g.2.2.1 34), .int x54_, .int x55_]) (rest := []) (ci := 10) (e_X10_readPart g (xL X) K len I51 J51 R hs51 a0 ka0 34 (by decide) x54_ x55_ (by omega)) mT_6_1 mT_1_10 mT_5_238 mT_6_0 mP_56 okX10_readPart ⟨by decide, by decide⟩ rfl (by show kO (K a0) = _; rw [ka0]; rfl) rfl rfl (Nat.le_of_ble_eq_true rfl) ⟨by decide, by decide⟩ dX10_readLake_57 (aI2 (F := fun st M => P g X 4 60 [(2, .int x51_), (1, .int x7_), (0, .ref a0)] st _ _ M) (M := (K, len, I51, J51, R)) fun x56_ I56 J56 h56 => ?_)
        obtain ⟨hs56, hf56, hfj56, k56_0, k56_1, k56_2⟩ := h56
        show P g X 4 60 [(2, .int x51_), (1, .int x7_), (0, .ref a0)] [.int x56_] _ _ (K, len, I56, J56, R)
        have hF56 : Fr K [(10, 0), (10, 1), (10, 2), (11, 8), (11, 9), (11, 10), (11, 11), (11, 12), (11, 13)] I I56 := hF51.trans hf56 rfl rfl
        have hFJ56 : Fr K [(11, 14)] J J56 := hFJ51.trans hfj56 rfl rfl
        have om56 := om51.mv hf56 rfl
        refine r_istore_n hC (lv' := [(3, .int x56_), (2, .int x51_), (1, .int x7_), (0, .ref a0)]) dX10_readLake_60 (by decide) rfl ?_
        refine r_aload_n hC dX10_readLake_61 3 rfl ?_
        refine r_geti hC 9 (ci := 10) rfl u10_in (by decide) mT_5_4 dX10_readLake_62 ka0 rfl rfl (fun x57_ e57 => ?_)
        have f57 : x57_.toInt = (I56 a0 9).toInt := by rw [e57]
        refine r_iconst hC (v := (5)) dX10_readLake_65 (by decide) (by decide) (fun x58_ e58 t58 => ?_)
        refine r_icmp_ne hC (tgt := 70) dX10_readLake_66 (by decide) (fun c59 => ?_) (fun c59 => ?_)
        · exfalso; omega
        have hG0 : I56 rm 0 = x1_ := (Eq.trans (hf56.get krm rfl) (Eq.trans (hf51.get krm rfl) (Eq.trans (hf7.get krm rfl) (Eq.trans (hf4.get krm rfl) e1.symm))))
        have hG0t : (I56 rm 0).toInt = x1_.toInt := congrArg Int32.toInt hG0
        have hG1 : I56 rm 1 = G1 := (Eq.trans (hf56.get krm rfl) (Eq.trans (hf51.get krm rfl) (Eq.trans (hf7.get krm rfl) (Eq.trans (hf4.get krm rfl) eG1.symm))))
        have hG1t : (I56 rm 1).toInt = G1.toInt := congrArg Int32.toInt hG1
        have hG2 : I56 rm 2 = G2 := (Eq.trans (hf56.get krm rfl) (Eq.trans (hf51.get krm rfl) (Eq.trans (hf7.get krm rfl) (Eq.trans (hf4.get krm rfl) eG2.symm))))
        have hG2t : (I56 rm 2).toInt = G2.toInt := congrArg Int32.toInt hG2
        have hG3 : I56 rm 3 = G3 := (Eq.trans (hf56.get krm rfl) (Eq.trans (hf51.get krm rfl) (Eq.trans (hf7.get krm rfl) (Eq.trans (hf4.get krm rfl) eG3.symm))))
        have hG3t : (I56 rm 3).toInt = G3.toInt := congrArg Int32.toInt hG3
        have hG4 : I56 rm 4 = G4 := (Eq.trans (hf56.get krm rfl) (Eq.trans (hf51.get krm rfl) (Eq.trans (hf7.get krm rfl) (Eq.trans (hf4.get krm rfl) eG4.symm))))
        have hG4t : (I56 rm 4).toInt = G4.toInt := congrArg Int32.toInt hG4
        have hG5 : I56 rm 5 = G5 := (Eq.trans (hf56.get krm rfl) (Eq.trans (hf51.get krm rfl) (Eq.trans (hf7.get krm rfl) (Eq.trans (hf4.get krm rfl) eG5.symm))))
        have hG5t : (I56 rm 5).toInt = G5.toInt := congrArg Int32.toInt hG5
        have hG6 : I56 rm 6 = G6 := (Eq.trans (hf56.get krm rfl) (Eq.trans (hf51.get krm rfl) (Eq.trans (hf7.get krm rfl) (Eq.trans (hf4.get krm rfl) eG6.symm))))
        have hG6t : (I56 rm 6).toInt = G6.toInt := congrArg Int32.toInt hG6
        have hG7 : I56 rm 7 = G7 := (Eq.trans (hf56.get krm rfl) (Eq.trans (hf51.get krm rfl) (Eq.trans (hf7.get krm rfl) (Eq.trans (hf4.get krm rfl) eG7.symm))))
        have hG7t : (I56 rm 7).toInt = G7.toInt := congrArg Int32.toInt hG7
        have hG8 : I56 rm 8 = G8 := (Eq.trans (hf56.get krm rfl) (Eq.trans (hf51.get krm rfl) (Eq.trans (hf7.get krm rfl) (Eq.trans (hf4.get krm rfl) eG8.symm))))
        have hG8t : (I56 rm 8).toInt = G8.toInt := congrArg Int32.toInt hG8
        have hG9 : I56 rm 9 = G9 := (Eq.trans (hf56.get krm rfl) (Eq.trans (hf51.get krm rfl) (Eq.trans (hf7.get krm rfl) (Eq.trans (hf4.get krm rfl) eG9.symm))))
        have hG9t : (I56 rm 9).toInt = G9.toInt := congrArg Int32.toInt hG9
        have hG10 : I56 rm 10 = G10 := (Eq.trans (hf56.get krm rfl) (Eq.trans (hf51.get krm rfl) (Eq.trans (hf7.get krm rfl) (Eq.trans (hf4.get krm rfl) eG10.symm))))
        have hG10t : (I56 rm 10).toInt = G10.toInt := congrArg Int32.toInt hG10
        exact r_vret hC hQ hlk hr (by decide) (by decide) dX10_readLake_69 ⟨_, _, rfl, rfl, ⟨hs56, hF56, hFJ56, (by first | exact Or.inl ⟨(upD (upD (upD (upD D 0 1 NOx_w1) 0 2 NOx_w2) 0 3 NOx_w3) 0 0 1), _, by unfold sLake; rw [pif_f (show ¬ D 0 0 ≠ 0 by omega), hsp7, bnd_er], (nx_le hp).2, k4_0, ⟨by unfold SM; simp [upD, adN]; omega, nm7.cg (by simp [upD]) (by intro j; simp [upD]), pg7.cg (by simp [upD]) (by intro j; simp [upD]) (by simp [upD]) (by intro j; simp [upD])⟩, fp4⟩ | exact Or.inr ⟨kf7, qf7, by unfold sLake; rw [pif_f (show ¬ D 0 0 ≠ 0 by omega), hsp7, bnd_er], by omega, by omega, by omega⟩), (by exact om56)⟩⟩
      · refine r_iload_n hC dX10_readLake_49 1 rfl ?_
        refine r_goto hC (tgt := 54) dX10_readLake_50 (by decide) ?_
        refine r_sipush hC (v := (999)) dX10_readLake_54 (by decide) (by decide) (fun x60_ e60 t60 => ?_)
        refine r_callV hC (As := [.ref (g.2.2.1 34), .int x7_, .int x60_]) (rest := []) (ci := 10) (e_X10_readPart g (xL X) K len I51 J51 R hs51 a0 ka0 34 (by decide) x7_ x60_ (by omega)) mT_6_1 mT_1_10 mT_5_238 mT_6_0 mP_56 okX10_readPart ⟨by decide, by decide⟩ rfl (by show kO (K a0) = _; rw [ka0]; rfl) rfl rfl (Nat.le_of_ble_eq_true rfl) ⟨by decide, by decide⟩ dX10_readLake_57 (aI2 (F := fun st M => P g X 4 60 [(2, .int x51_), (1, .int x7_), (0, .ref a0)] st _ _ M) (M := (K, len, I51, J51, R)) fun x61_ I61 J61 h61 => ?_)
        obtain ⟨hs61, hf61, hfj61, k61_0, k61_1, k61_2⟩ := h61
        show P g X 4 60 [(2, .int x51_), (1, .int x7_), (0, .ref a0)] [.int x61_] _ _ (K, len, I61, J61, R)
        have hF61 : Fr K [(10, 0), (10, 1), (10, 2), (11, 8), (11, 9), (11, 10), (11, 11), (11, 12), (11, 13)] I I61 := hF51.trans hf61 rfl rfl
        have hFJ61 : Fr K [(11, 14)] J J61 := hFJ51.trans hfj61 rfl rfl
        have om61 := om51.mv hf61 rfl
        refine r_istore_n hC (lv' := [(3, .int x61_), (2, .int x51_), (1, .int x7_), (0, .ref a0)]) dX10_readLake_60 (by decide) rfl ?_
        refine r_aload_n hC dX10_readLake_61 3 rfl ?_
        refine r_geti hC 9 (ci := 10) rfl u10_in (by decide) mT_5_4 dX10_readLake_62 ka0 rfl rfl (fun x62_ e62 => ?_)
        have f62 : x62_.toInt = (I61 a0 9).toInt := by rw [e62]
        refine r_iconst hC (v := (5)) dX10_readLake_65 (by decide) (by decide) (fun x63_ e63 t63 => ?_)
        refine r_icmp_ne hC (tgt := 70) dX10_readLake_66 (by decide) (fun c64 => ?_) (fun c64 => ?_)
        · exfalso; omega
        have hG0 : I61 rm 0 = x1_ := (Eq.trans (hf61.get krm rfl) (Eq.trans (hf51.get krm rfl) (Eq.trans (hf7.get krm rfl) (Eq.trans (hf4.get krm rfl) e1.symm))))
        have hG0t : (I61 rm 0).toInt = x1_.toInt := congrArg Int32.toInt hG0
        have hG1 : I61 rm 1 = G1 := (Eq.trans (hf61.get krm rfl) (Eq.trans (hf51.get krm rfl) (Eq.trans (hf7.get krm rfl) (Eq.trans (hf4.get krm rfl) eG1.symm))))
        have hG1t : (I61 rm 1).toInt = G1.toInt := congrArg Int32.toInt hG1
        have hG2 : I61 rm 2 = G2 := (Eq.trans (hf61.get krm rfl) (Eq.trans (hf51.get krm rfl) (Eq.trans (hf7.get krm rfl) (Eq.trans (hf4.get krm rfl) eG2.symm))))
        have hG2t : (I61 rm 2).toInt = G2.toInt := congrArg Int32.toInt hG2
        have hG3 : I61 rm 3 = G3 := (Eq.trans (hf61.get krm rfl) (Eq.trans (hf51.get krm rfl) (Eq.trans (hf7.get krm rfl) (Eq.trans (hf4.get krm rfl) eG3.symm))))
        have hG3t : (I61 rm 3).toInt = G3.toInt := congrArg Int32.toInt hG3
        have hG4 : I61 rm 4 = G4 := (Eq.trans (hf61.get krm rfl) (Eq.trans (hf51.get krm rfl) (Eq.trans (hf7.get krm rfl) (Eq.trans (hf4.get krm rfl) eG4.symm))))
        have hG4t : (I61 rm 4).toInt = G4.toInt := congrArg Int32.toInt hG4
        have hG5 : I61 rm 5 = G5 := (Eq.trans (hf61.get krm rfl) (Eq.trans (hf51.get krm rfl) (Eq.trans (hf7.get krm rfl) (Eq.trans (hf4.get krm rfl) eG5.symm))))
        have hG5t : (I61 rm 5).toInt = G5.toInt := congrArg Int32.toInt hG5
        have hG6 : I61 rm 6 = G6 := (Eq.trans (hf61.get krm rfl) (Eq.trans (hf51.get krm rfl) (Eq.trans (hf7.get krm rfl) (Eq.trans (hf4.get krm rfl) eG6.symm))))
        have hG6t : (I61 rm 6).toInt = G6.toInt := congrArg Int32.toInt hG6
        have hG7 : I61 rm 7 = G7 := (Eq.trans (hf61.get krm rfl) (Eq.trans (hf51.get krm rfl) (Eq.trans (hf7.get krm rfl) (Eq.trans (hf4.get krm rfl) eG7.symm))))
        have hG7t : (I61 rm 7).toInt = G7.toInt := congrArg Int32.toInt hG7
        have hG8 : I61 rm 8 = G8 := (Eq.trans (hf61.get krm rfl) (Eq.trans (hf51.get krm rfl) (Eq.trans (hf7.get krm rfl) (Eq.trans (hf4.get krm rfl) eG8.symm))))
        have hG8t : (I61 rm 8).toInt = G8.toInt := congrArg Int32.toInt hG8
        have hG9 : I61 rm 9 = G9 := (Eq.trans (hf61.get krm rfl) (Eq.trans (hf51.get krm rfl) (Eq.trans (hf7.get krm rfl) (Eq.trans (hf4.get krm rfl) eG9.symm))))
        have hG9t : (I61 rm 9).toInt = G9.toInt := congrArg Int32.toInt hG9
        have hG10 : I61 rm 10 = G10 := (Eq.trans (hf61.get krm rfl) (Eq.trans (hf51.get krm rfl) (Eq.trans (hf7.get krm rfl) (Eq.trans (hf4.get krm rfl) eG10.symm))))
        have hG10t : (I61 rm 10).toInt = G10.toInt := congrArg Int32.toInt hG10
        exact r_vret hC hQ hlk hr (by decide) (by decide) dX10_readLake_69 ⟨_, _, rfl, rfl, ⟨hs61, hF61, hFJ61, (by first | exact Or.inl ⟨(upD (upD (upD (upD D 0 1 NOx_w1) 0 2 NOx_w2) 0 3 NOx_w3) 0 0 1), _, by unfold sLake; rw [pif_f (show ¬ D 0 0 ≠ 0 by omega), hsp7, bnd_er], (nx_le hp).2, k4_0, ⟨by unfold SM; simp [upD, adN]; omega, nm7.cg (by simp [upD]) (by intro j; simp [upD]), pg7.cg (by simp [upD]) (by intro j; simp [upD]) (by simp [upD]) (by intro j; simp [upD])⟩, fp4⟩ | exact Or.inr ⟨kf7, qf7, by unfold sLake; rw [pif_f (show ¬ D 0 0 ≠ 0 by omega), hsp7, bnd_er], by omega, by omega, by omega⟩), (by exact om61)⟩⟩
  · refine r_aload_n hC dX10_readLake_11 0 rfl ?_
    refine r_iconst hC (v := (3)) dX10_readLake_12 (by decide) (by decide) (fun x65_ e65 t65 => ?_)
    refine r_callV hC (As := [.int x65_]) (rest := []) (ci := 10) (f_X10_wrong g (xL X) K len I J R hs a0 ka0 x65_ (tkm.e5)) mT_5_236 mT_1_10 mT_5_233 mT_5_235 mP_55 okX10_wrong ⟨by decide, by decide⟩ rfl (by show kO (K a0) = _; rw [ka0]; rfl) rfl rfl (Nat.le_of_ble_eq_true rfl) ⟨by decide, by decide⟩ dX10_readLake_13 (aV1 (F := fun st M => P g X 4 16 [(0, .ref a0)] st _ _ M) (M := (K, len, I, J, R)) fun I66 h66 => ?_)
    obtain ⟨hs66, hf66, k66_0, k66_1, k66_2⟩ := h66
    show P g X 4 16 [(0, .ref a0)] [] _ _ (K, len, I66, J, R)
    have hF66 : Fr K [(10, 0), (10, 1), (10, 2), (11, 8), (11, 9), (11, 10), (11, 11), (11, 12), (11, 13)] I I66 := hF.trans hf66 rfl rfl
    have pg66 := pg.mv hf66 kns (fun _ => rfl)
    have om66 := om.mv hf66 rfl
    have hwp66 := tkm.2.1
    refine r_aload_n hC dX10_readLake_16 0 rfl ?_
    refine r_callV hC (As := []) (rest := []) (ci := 10) (e_X10_goesOn g (xL X) K len I66 J R hs66 a0 ka0 (by omega)) mT_5_199 mT_1_10 mT_5_196 mT_5_198 mP_49 okX10_goesOn ⟨by decide, by decide⟩ rfl (by show kO (K a0) = _; rw [ka0]; rfl) rfl rfl (Nat.le_of_ble_eq_true rfl) ⟨by decide, by decide⟩ dX10_readLake_17 (aV2 (F := fun st M => P g X 4 20 [(0, .ref a0)] st _ _ M) (M := (K, len, I66, J, R)) fun I67 J67 h67 => ?_)
    obtain ⟨hs67, hf67, hfj67, k67_0, k67_1, k67_2⟩ := h67
    show P g X 4 20 [(0, .ref a0)] [] _ _ (K, len, I67, J67, R)
    have hF67 : Fr K [(10, 0), (10, 1), (10, 2), (11, 8), (11, 9), (11, 10), (11, 11), (11, 12), (11, 13)] I I67 := hF66.trans hf67 rfl rfl
    have hFJ67 : Fr K [(11, 14)] J J67 := hFJ.trans hfj67 rfl rfl
    have om67 := om66.mv hf67 rfl
    refine r_aload_n hC dX10_readLake_20 0 rfl ?_
    refine r_ldcS hC (i := 32) (by decide) rfl rfl dX10_readLake_21 ?_
    refine r_iconst hC (v := (0)) dX10_readLake_23 (by decide) (by decide) (fun x68_ e68 t68 => ?_)
    refine r_sipush hC (v := (500)) dX10_readLake_24 (by decide) (by decide) (fun x69_ e69 t69 => ?_)
    refine r_callV hC (As := [.ref (g.2.2.1 32), .int x68_, .int x69_]) (rest := []) (ci := 10) (e_X10_readPart g (xL X) K len I67 J67 R hs67 a0 ka0 32 (by decide) x68_ x69_ (by omega)) mT_6_1 mT_1_10 mT_5_238 mT_6_0 mP_56 okX10_readPart ⟨by decide, by decide⟩ rfl (by show kO (K a0) = _; rw [ka0]; rfl) rfl rfl (Nat.le_of_ble_eq_true rfl) ⟨by decide, by decide⟩ dX10_readLake_27 (aI2 (F := fun st M => P g X 4 30 [(0, .ref a0)] st _ _ M) (M := (K, len, I67, J67, R)) fun x70_ I70 J70 h70 => ?_)
    obtain ⟨hs70, hf70, hfj70, k70_0, k70_1, k70_2⟩ := h70
    show P g X 4 30 [(0, .ref a0)] [.int x70_] _ _ (K, len, I70, J70, R)
    have hF70 : Fr K [(10, 0), (10, 1), (10, 2), (11, 8), (11, 9), (11, 10), (11, 11), (11, 12), (11, 13)] I I70 := hF67.trans hf70 rfl rfl
    have hFJ70 : Fr K [(11, 14)] J J70 := hFJ67.trans hfj70 rfl rfl
    have om70 := om67.mv hf70 rfl
    refine r_istore_n hC (lv' := [(1, .int x70_), (0, .ref a0)]) dX10_readLake_30 (by decide) rfl ?_
    refine r_aload_n hC dX10_readLake_31 1 rfl ?_
    refine r_ldcS hC (i := 33) (by decide) rfl rfl dX10_readLake_32 ?_
    refine r_iconst hC (v := (1)) dX10_readLake_34 (by decide) (by decide) (fun x71_ e71 t71 => ?_)
    refine r_bipush hC (v := (50)) dX10_readLake_35 (by decide) (by decide) (fun x72_ e72 t72 => ?_)
    refine r_callV hC (As := [.ref (g.2.2.1 33), .int x71_, .int x72_]) (rest := []) (ci := 10) (e_X10_readPart g (xL X) K len I70 J70 R hs70 a0 ka0 33 (by decide) x71_ x72_ (by omega)) mT_6_1 mT_1_10 mT_5_238 mT_6_0 mP_56 okX10_readPart ⟨by decide, by decide⟩ rfl (by show kO (K a0) = _; rw [ka0]; rfl) rfl rfl (Nat.le_of_ble_eq_true rfl) ⟨by decide, by decide⟩ dX10_readLake_37 (aI2 (F := fun st M => P g X 4 40 [(1, .int x70_), (0, .ref a0)] st _ _ M) (M := (K, len, I70, J70, R)) fun x73_ I73 J73 h73 => ?_)
    obtain ⟨hs73, hf73, hfj73, k73_0, k73_1, k73_2⟩ := h73
    show P g X 4 40 [(1, .int x70_), (0, .ref a0)] [.int x73_] _ _ (K, len, I73, J73, R)
    have hF73 : Fr K [(10, 0), (10, 1), (10, 2), (11, 8), (11, 9), (11, 10), (11, 11), (11, 12), (11, 13)] I I73 := hF70.trans hf73 rfl rfl
    have hFJ73 : Fr K [(11, 14)] J J73 := hFJ70.trans hfj73 rfl rfl
    have om73 := om70.mv hf73 rfl
    refine r_istore_n hC (lv' := [(2, .int x73_), (1, .int x70_), (0, .ref a0)]) dX10_readLake_40 (by decide) rfl ?_
    refine r_aload_n hC dX10_readLake_41 2 rfl ?_
    refine r_ldcS hC (i := 34) (by decide) rfl rfl dX10_readLake_42 ?_
    refine r_iload_n hC dX10_readLake_44 1 rfl ?_
    refine r_iconst hC (v := (1)) dX10_readLake_45 (by decide) (by decide) (fun x74_ e74 t74 => ?_)
    refine r_icmp_le hC (tgt := 53) dX10_readLake_46 (by decide) (fun c75 => ?_) (fun c75 => ?_)
    · refine r_iconst hC (v := (1)) dX10_readLake_53 (by decide) (by decide) (fun x76_ e76 t76 => ?_)
      refine r_sipush hC (v := (999)) dX10_readLake_54 (by decide) (by decide) (fun x77_ e77 t77 => ?_)
      refine r_callV hC (As := [.ref (g.2.2.1 34), .int x76_, .int x77_]) (rest := []) (ci := 10) (e_X10_readPart g (xL X) K len I73 J73 R hs73 a0 ka0 34 (by decide) x76_ x77_ (by omega)) mT_6_1 mT_1_10 mT_5_238 mT_6_0 mP_56 okX10_readPart ⟨by decide, by decide⟩ rfl (by show kO (K a0) = _; rw [ka0]; rfl) rfl rfl (Nat.le_of_ble_eq_true rfl) ⟨by decide, by decide⟩ dX10_readLake_57 (aI2 (F := fun st M => P g X 4 60 [(2, .int x73_), (1, .int x70_), (0, .ref a0)] st _ _ M) (M := (K, len, I73, J73, R)) fun x78_ I78 J78 h78 => ?_)
      obtain ⟨hs78, hf78, hfj78, k78_0, k78_1, k78_2⟩ := h78
      show P g X 4 60 [(2, .int x73_), (1, .int x70_), (0, .ref a0)] [.int x78_] _ _ (K, len, I78, J78, R)
      have hF78 : Fr K [(10, 0), (10, 1), (10, 2), (11, 8), (11, 9), (11, 10), (11, 11), (11, 12), (11, 13)] I I78 := hF73.trans hf78 rfl rfl
      have hFJ78 : Fr K [(11, 14)] J J78 := hFJ73.trans hfj78 rfl rfl
      have om78 := om73.mv hf78 rfl
      refine r_istore_n hC (lv' := [(3, .int x78_), (2, .int x73_), (1, .int x70_), (0, .ref a0)]) dX10_readLake_60 (by decide) rfl ?_
      refine r_aload_n hC dX10_readLake_61 3 rfl ?_
      refine r_geti hC 9 (ci := 10) rfl u10_in (by decide) mT_5_4 dX10_readLake_62 ka0 rfl rfl (fun x79_ e79 => ?_)
      have f79 : x79_.toInt = (I78 a0 9).toInt := by rw [e79]
      refine r_iconst hC (v := (5)) dX10_readLake_65 (by decide) (by decide) (fun x80_ e80 t80 => ?_)
      refine r_icmp_ne hC (tgt := 70) dX10_readLake_66 (by decide) (fun c81 => ?_) (fun c81 => ?_)
      · exfalso; omega
      have hG0 : I78 rm 0 = x1_ := (Eq.trans (hf78.get krm rfl) (Eq.trans (hf73.get krm rfl) (Eq.trans (hf70.get krm rfl) (Eq.trans (hf67.get krm rfl) (Eq.trans (hf66.get krm rfl) e1.symm)))))
      have hG0t : (I78 rm 0).toInt = x1_.toInt := congrArg Int32.toInt hG0
      have hG1 : I78 rm 1 = G1 := (Eq.trans (hf78.get krm rfl) (Eq.trans (hf73.get krm rfl) (Eq.trans (hf70.get krm rfl) (Eq.trans (hf67.get krm rfl) (Eq.trans (hf66.get krm rfl) eG1.symm)))))
      have hG1t : (I78 rm 1).toInt = G1.toInt := congrArg Int32.toInt hG1
      have hG2 : I78 rm 2 = G2 := (Eq.trans (hf78.get krm rfl) (Eq.trans (hf73.get krm rfl) (Eq.trans (hf70.get krm rfl) (Eq.trans (hf67.get krm rfl) (Eq.trans (hf66.get krm rfl) eG2.symm)))))
      have hG2t : (I78 rm 2).toInt = G2.toInt := congrArg Int32.toInt hG2
      have hG3 : I78 rm 3 = G3 := (Eq.trans (hf78.get krm rfl) (Eq.trans (hf73.get krm rfl) (Eq.trans (hf70.get krm rfl) (Eq.trans (hf67.get krm rfl) (Eq.trans (hf66.get krm rfl) eG3.symm)))))
      have hG3t : (I78 rm 3).toInt = G3.toInt := congrArg Int32.toInt hG3
      have hG4 : I78 rm 4 = G4 := (Eq.trans (hf78.get krm rfl) (Eq.trans (hf73.get krm rfl) (Eq.trans (hf70.get krm rfl) (Eq.trans (hf67.get krm rfl) (Eq.trans (hf66.get krm rfl) eG4.symm)))))
      have hG4t : (I78 rm 4).toInt = G4.toInt := congrArg Int32.toInt hG4
      have hG5 : I78 rm 5 = G5 := (Eq.trans (hf78.get krm rfl) (Eq.trans (hf73.get krm rfl) (Eq.trans (hf70.get krm rfl) (Eq.trans (hf67.get krm rfl) (Eq.trans (hf66.get krm rfl) eG5.symm)))))
      have hG5t : (I78 rm 5).toInt = G5.toInt := congrArg Int32.toInt hG5
      have hG6 : I78 rm 6 = G6 := (Eq.trans (hf78.get krm rfl) (Eq.trans (hf73.get krm rfl) (Eq.trans (hf70.get krm rfl) (Eq.trans (hf67.get krm rfl) (Eq.trans (hf66.get krm rfl) eG6.symm)))))
      have hG6t : (I78 rm 6).toInt = G6.toInt := congrArg Int32.toInt hG6
      have hG7 : I78 rm 7 = G7 := (Eq.trans (hf78.get krm rfl) (Eq.trans (hf73.get krm rfl) (Eq.trans (hf70.get krm rfl) (Eq.trans (hf67.get krm rfl) (Eq.trans (hf66.get krm rfl) eG7.symm)))))
      have hG7t : (I78 rm 7).toInt = G7.toInt := congrArg Int32.toInt hG7
      have hG8 : I78 rm 8 = G8 := (Eq.trans (hf78.get krm rfl) (Eq.trans (hf73.get krm rfl) (Eq.trans (hf70.get krm rfl) (Eq.trans (hf67.get krm rfl) (Eq.trans (hf66.get krm rfl) eG8.symm)))))
      have hG8t : (I78 rm 8).toInt = G8.toInt := congrArg Int32.toInt hG8
      have hG9 : I78 rm 9 = G9 := (Eq.trans (hf78.get krm rfl) (Eq.trans (hf73.get krm rfl) (Eq.trans (hf70.get krm rfl) (Eq.trans (hf67.get krm rfl) (Eq.trans (hf66.get krm rfl) eG9.symm)))))
      have hG9t : (I78 rm 9).toInt = G9.toInt := congrArg Int32.toInt hG9
      have hG10 : I78 rm 10 = G10 := (Eq.trans (hf78.get krm rfl) (Eq.trans (hf73.get krm rfl) (Eq.trans (hf70.get krm rfl) (Eq.trans (hf67.get krm rfl) (Eq.trans (hf66.get krm rfl) eG10.symm)))))
      have hG10t : (I78 rm 10).toInt = G10.toInt := congrArg Int32.toInt hG10
      exact r_vret hC hQ hlk hr (by decide) (by decide) dX10_readLake_69 ⟨_, _, rfl, rfl, ⟨hs78, hF78, hFJ78, (by first | exact Or.inl ⟨(upD (upD (upD (upD D 0 1 NOx_w1) 0 2 NOx_w2) 0 3 NOx_w3) 0 0 1), _, by unfold sLake; rw [pif_t (show D 0 0 ≠ 0 by omega)], hp, tkm, ⟨by unfold SM; simp [upD, adN]; omega, nm.cg (by simp [upD]) (by intro j; simp [upD]), pg66.cg (by simp [upD]) (by intro j; simp [upD]) (by simp [upD]) (by intro j; simp [upD])⟩, rfl⟩ | exact Or.inr ⟨3, (pl B n p), by unfold sLake; rw [pif_t (show D 0 0 ≠ 0 by omega)], by omega, by omega, by omega⟩), (by exact om78)⟩⟩
    · refine r_iload_n hC dX10_readLake_49 1 rfl ?_
      refine r_goto hC (tgt := 54) dX10_readLake_50 (by decide) ?_
      refine r_sipush hC (v := (999)) dX10_readLake_54 (by decide) (by decide) (fun x82_ e82 t82 => ?_)
      refine r_callV hC (As := [.ref (g.2.2.1 34), .int x70_, .int x82_]) (rest := []) (ci := 10) (e_X10_readPart g (xL X) K len I73 J73 R hs73 a0 ka0 34 (by decide) x70_ x82_ (by omega)) mT_6_1 mT_1_10 mT_5_238 mT_6_0 mP_56 okX10_readPart ⟨by decide, by decide⟩ rfl (by show kO (K a0) = _; rw [ka0]; rfl) rfl rfl (Nat.le_of_ble_eq_true rfl) ⟨by decide, by decide⟩ dX10_readLake_57 (aI2 (F := fun st M => P g X 4 60 [(2, .int x73_), (1, .int x70_), (0, .ref a0)] st _ _ M) (M := (K, len, I73, J73, R)) fun x83_ I83 J83 h83 => ?_)
      obtain ⟨hs83, hf83, hfj83, k83_0, k83_1, k83_2⟩ := h83
      show P g X 4 60 [(2, .int x73_), (1, .int x70_), (0, .ref a0)] [.int x83_] _ _ (K, len, I83, J83, R)
      have hF83 : Fr K [(10, 0), (10, 1), (10, 2), (11, 8), (11, 9), (11, 10), (11, 11), (11, 12), (11, 13)] I I83 := hF73.trans hf83 rfl rfl
      have hFJ83 : Fr K [(11, 14)] J J83 := hFJ73.trans hfj83 rfl rfl
      have om83 := om73.mv hf83 rfl
      refine r_istore_n hC (lv' := [(3, .int x83_), (2, .int x73_), (1, .int x70_), (0, .ref a0)]) dX10_readLake_60 (by decide) rfl ?_
      refine r_aload_n hC dX10_readLake_61 3 rfl ?_
      refine r_geti hC 9 (ci := 10) rfl u10_in (by decide) mT_5_4 dX10_readLake_62 ka0 rfl rfl (fun x84_ e84 => ?_)
      have f84 : x84_.toInt = (I83 a0 9).toInt := by rw [e84]
      refine r_iconst hC (v := (5)) dX10_readLake_65 (by decide) (by decide) (fun x85_ e85 t85 => ?_)
      refine r_icmp_ne hC (tgt := 70) dX10_readLake_66 (by decide) (fun c86 => ?_) (fun c86 => ?_)
      · exfalso; omega
      have hG0 : I83 rm 0 = x1_ := (Eq.trans (hf83.get krm rfl) (Eq.trans (hf73.get krm rfl) (Eq.trans (hf70.get krm rfl) (Eq.trans (hf67.get krm rfl) (Eq.trans (hf66.get krm rfl) e1.symm)))))
      have hG0t : (I83 rm 0).toInt = x1_.toInt := congrArg Int32.toInt hG0
      have hG1 : I83 rm 1 = G1 := (Eq.trans (hf83.get krm rfl) (Eq.trans (hf73.get krm rfl) (Eq.trans (hf70.get krm rfl) (Eq.trans (hf67.get krm rfl) (Eq.trans (hf66.get krm rfl) eG1.symm)))))
      have hG1t : (I83 rm 1).toInt = G1.toInt := congrArg Int32.toInt hG1
      have hG2 : I83 rm 2 = G2 := (Eq.trans (hf83.get krm rfl) (Eq.trans (hf73.get krm rfl) (Eq.trans (hf70.get krm rfl) (Eq.trans (hf67.get krm rfl) (Eq.trans (hf66.get krm rfl) eG2.symm)))))
      have hG2t : (I83 rm 2).toInt = G2.toInt := congrArg Int32.toInt hG2
      have hG3 : I83 rm 3 = G3 := (Eq.trans (hf83.get krm rfl) (Eq.trans (hf73.get krm rfl) (Eq.trans (hf70.get krm rfl) (Eq.trans (hf67.get krm rfl) (Eq.trans (hf66.get krm rfl) eG3.symm)))))
      have hG3t : (I83 rm 3).toInt = G3.toInt := congrArg Int32.toInt hG3
      have hG4 : I83 rm 4 = G4 := (Eq.trans (hf83.get krm rfl) (Eq.trans (hf73.get krm rfl) (Eq.trans (hf70.get krm rfl) (Eq.trans (hf67.get krm rfl) (Eq.trans (hf66.get krm rfl) eG4.symm)))))
      have hG4t : (I83 rm 4).toInt = G4.toInt := congrArg Int32.toInt hG4
      have hG5 : I83 rm 5 = G5 := (Eq.trans (hf83.get krm rfl) (Eq.trans (hf73.get krm rfl) (Eq.trans (hf70.get krm rfl) (Eq.trans (hf67.get krm rfl) (Eq.trans (hf66.get krm rfl) eG5.symm)))))
      have hG5t : (I83 rm 5).toInt = G5.toInt := congrArg Int32.toInt hG5
      have hG6 : I83 rm 6 = G6 := (Eq.trans (hf83.get krm rfl) (Eq.trans (hf73.get krm rfl) (Eq.trans (hf70.get krm rfl) (Eq.trans (hf67.get krm rfl) (Eq.trans (hf66.get krm rfl) eG6.symm)))))
      have hG6t : (I83 rm 6).toInt = G6.toInt := congrArg Int32.toInt hG6
      have hG7 : I83 rm 7 = G7 := (Eq.trans (hf83.get krm rfl) (Eq.trans (hf73.get krm rfl) (Eq.trans (hf70.get krm rfl) (Eq.trans (hf67.get krm rfl) (Eq.trans (hf66.get krm rfl) eG7.symm)))))
      have hG7t : (I83 rm 7).toInt = G7.toInt := congrArg Int32.toInt hG7
      have hG8 : I83 rm 8 = G8 := (Eq.trans (hf83.get krm rfl) (Eq.trans (hf73.get krm rfl) (Eq.trans (hf70.get krm rfl) (Eq.trans (hf67.get krm rfl) (Eq.trans (hf66.get krm rfl) eG8.symm)))))
      have hG8t : (I83 rm 8).toInt = G8.toInt := congrArg Int32.toInt hG8
      have hG9 : I83 rm 9 = G9 := (Eq.trans (hf83.get krm rfl) (Eq.trans (hf73.get krm rfl) (Eq.trans (hf70.get krm rfl) (Eq.trans (hf67.get krm rfl) (Eq.trans (hf66.get krm rfl) eG9.symm)))))
      have hG9t : (I83 rm 9).toInt = G9.toInt := congrArg Int32.toInt hG9
      have hG10 : I83 rm 10 = G10 := (Eq.trans (hf83.get krm rfl) (Eq.trans (hf73.get krm rfl) (Eq.trans (hf70.get krm rfl) (Eq.trans (hf67.get krm rfl) (Eq.trans (hf66.get krm rfl) eG10.symm)))))
      have hG10t : (I83 rm 10).toInt = G10.toInt := congrArg Int32.toInt hG10
      exact r_vret hC hQ hlk hr (by decide) (by decide) dX10_readLake_69 ⟨_, _, rfl, rfl, ⟨hs83, hF83, hFJ83, (by first | exact Or.inl ⟨(upD (upD (upD (upD D 0 1 NOx_w1) 0 2 NOx_w2) 0 3 NOx_w3) 0 0 1), _, by unfold sLake; rw [pif_t (show D 0 0 ≠ 0 by omega)], hp, tkm, ⟨by unfold SM; simp [upD, adN]; omega, nm.cg (by simp [upD]) (by intro j; simp [upD]), pg66.cg (by simp [upD]) (by intro j; simp [upD]) (by simp [upD]) (by intro j; simp [upD])⟩, rfl⟩ | exact Or.inr ⟨3, (pl B n p), by unfold sLake; rw [pif_t (show D 0 0 ≠ 0 by omega)], by omega, by omega, by omega⟩), (by exact om83)⟩⟩
set_option maxHeartbeats 4000000 in
set_option maxRecDepth 100000 in
theorem f_X10_readPeg (g : GG) (l : Launch) (K len : Nat → Nat) (I : Nat → Nat → Int32) (J : Nat → Nat → Int64) (R : Nat → Nat → Option Nat) (hs : Sf K len I R) (a0 : Nat) (ka0 : K a0 = 11) (rm : Nat) (hbr : R a0 4 = some rm) (krm : K rm = 10) (mt : Nat) (hmt : R a0 5 = some mt) (kmt : K mt = 49) (nmt : len mt = 900) (B : Nat → Int) (n : Nat) (hB : BT B n mt I) (hBr : ∀ j : Nat, j < n → -128 ≤ B j ∧ B j ≤ 127) (hn : n ≤ 900) (p : Nat) (hp : p ≤ n) (tkm : TkM B n a0 p I J) (nr : Nat) (hnr : R rm 25 = some nr) (knr : K nr = 82) (lnr : len nr = 19) (ns : Nat) (hns : R rm 26 = some ns) (kns : K ns = 83) (lns : len ns = 19) (D : DD) (hD : DI D) (sm : SM D rm I) (nm : NmM D nr J) (pg : PgI D ns I) (p0 : kd B n p = 1) : Ct g l yX10_readPeg cX10_readPeg 3 (Option.none : Option Jvm.ClassFile.FieldType) rmX10_readPeg [.ref a0] (K, len, I, J, R) (pV2 (K, len, I, J, R) (fun I' J' => Sf K len I' R ∧ Fr K [(10, 3), (10, 10), (11, 8), (11, 9), (11, 10), (11, 11), (11, 12), (11, 13), (70, 999), (71, 999), (83, 999), (84, 999)] I I' ∧ Fr K [(11, 14), (82, 999)] J J' ∧ ((∃ (D' : DD) (p' : Nat), sPeg B n p D = .ok (D', p') ∧ p' ≤ n ∧ TkM B n a0 p' I' J' ∧ RpM D' rm nr ns I' J' ∧ I' a0 12 = I a0 12) ∨ (∃ (kf : Int) (qf : Nat), sPeg B n p D = .error (kf, qf) ∧ (I' a0 9).toInt = 5 ∧ (I' a0 12).toInt = kf ∧ (I' a0 13).toInt = qf)) ∧ (OM K rm I I'))) := by
  refine Ct_intro (by decide +kernel) (Nat.le_of_ble_eq_true rfl) (fun X hC hL hKK hNm hr hlk hQ => ?_)
  subst hL
  have hC : Cx g X cX10_readPeg "HillTapModel" 3 rmX10_readPeg := hC
  show P g X 3 0 [(0, .ref a0)] [] 0 0 (K, len, I, J, R)
  have hF : Fr K [(10, 3), (10, 10), (11, 8), (11, 9), (11, 10), (11, 11), (11, 12), (11, 13), (70, 999), (71, 999), (83, 999), (84, 999)] I I := Fr.refl
  have hFJ : Fr K [(11, 14), (82, 999)] J J := Fr.refl
  have ek1 := tkm.e1
  have ek2 := tkm.e2
  have ek3 := tkm.e3
  have ek4 := tkm.e4
  have ek10 := tkm.2.1
  have ek11 := tkm.2.2.2.2.2
  obtain ⟨hD0, ⟨hD1, hD2⟩, ⟨hD3, hD4⟩, ⟨hD5, hD6⟩, ⟨hD7, hD8⟩, ⟨hD9, hD10⟩, hD11, hD12⟩ := id hD
  obtain ⟨sm0, sm3, sm4, sm5, sm6, sm7, sm8, sm9, sm10⟩ := id sm
  obtain ⟨G0, eG0⟩ : ∃ z : Int32, z = I rm 0 := ⟨_, rfl⟩
  have fG0 : G0.toInt = (I rm 0).toInt := by rw [eG0]
  obtain ⟨G1, eG1⟩ : ∃ z : Int32, z = I rm 1 := ⟨_, rfl⟩
  have fG1 : G1.toInt = (I rm 1).toInt := by rw [eG1]
  obtain ⟨G2, eG2⟩ : ∃ z : Int32, z = I rm 2 := ⟨_, rfl⟩
  have fG2 : G2.toInt = (I rm 2).toInt := by rw [eG2]
  obtain ⟨G3, eG3⟩ : ∃ z : Int32, z = I rm 3 := ⟨_, rfl⟩
  have fG3 : G3.toInt = (I rm 3).toInt := by rw [eG3]
  have rG3 := hs.rng krm rfl eG3
  obtain ⟨G4, eG4⟩ : ∃ z : Int32, z = I rm 4 := ⟨_, rfl⟩
  have fG4 : G4.toInt = (I rm 4).toInt := by rw [eG4]
  have rG4 := hs.rng krm rfl eG4
  obtain ⟨G5, eG5⟩ : ∃ z : Int32, z = I rm 5 := ⟨_, rfl⟩
  have fG5 : G5.toInt = (I rm 5).toInt := by rw [eG5]
  have rG5 := hs.rng krm rfl eG5
  obtain ⟨G6, eG6⟩ : ∃ z : Int32, z = I rm 6 := ⟨_, rfl⟩
  have fG6 : G6.toInt = (I rm 6).toInt := by rw [eG6]
  have rG6 := hs.rng krm rfl eG6
  obtain ⟨G7, eG7⟩ : ∃ z : Int32, z = I rm 7 := ⟨_, rfl⟩
  have fG7 : G7.toInt = (I rm 7).toInt := by rw [eG7]
  have rG7 := hs.rng krm rfl eG7
  obtain ⟨G8, eG8⟩ : ∃ z : Int32, z = I rm 8 := ⟨_, rfl⟩
  have fG8 : G8.toInt = (I rm 8).toInt := by rw [eG8]
  have rG8 := hs.rng krm rfl eG8
  obtain ⟨G9, eG9⟩ : ∃ z : Int32, z = I rm 9 := ⟨_, rfl⟩
  have fG9 : G9.toInt = (I rm 9).toInt := by rw [eG9]
  have rG9 := hs.rng krm rfl eG9
  obtain ⟨G10, eG10⟩ : ∃ z : Int32, z = I rm 10 := ⟨_, rfl⟩
  have fG10 : G10.toInt = (I rm 10).toInt := by rw [eG10]
  have rG10 := hs.rng krm rfl eG10
  have om : OM K rm I I := OM.rf
  refine r_aload_n hC dX10_readPeg_0 0 rfl ?_
  refine r_aload_n hC dX10_readPeg_1 0 rfl ?_
  refine r_getr hC 4 (ci := 10) rfl u10_in (by decide) mT_4_239 dX10_readPeg_2 ka0 rfl rfl hbr ?_
  refine r_getiN hC 3 (ci := 9) rfl u9_in (by decide) nF_3 dX10_readPeg_5 krm rfl rfl (fun x1_ e1 => ?_)
  have r1 := hs.rng krm rfl e1
  have f1 : x1_.toInt = (I rm 3).toInt := by rw [e1]
  have w1 : x1_ = G3 := by rw [e1]; exact eG3.symm
  have wt1 : x1_.toInt = G3.toInt := by rw [w1]
  refine r_iconst hC (v := (5)) dX10_readPeg_8 (by decide) (by decide) (fun x2_ e2 t2 => ?_)
  refine r_callV hC (As := [.int x1_, .int x2_]) (rest := []) (ci := 10) (f_X10_begins g (xL X) K len I J R hs a0 ka0 x1_ x2_ mt hmt kmt nmt B n (hB.mv9 hF kmt (fun _ => rfl)) hBr hn p hp tkm (by omega)) mT_6_19 mT_1_10 mT_6_16 mT_6_18 mP_59 okX10_begins ⟨by decide, by decide⟩ rfl (by show kO (K a0) = _; rw [ka0]; rfl) rfl rfl (Nat.le_of_ble_eq_true rfl) ⟨by decide, by decide⟩ dX10_readPeg_9 (aV2 (F := fun st M => P g X 3 12 [(0, .ref a0)] st _ _ M) (M := (K, len, I, J, R)) fun I3 J3 h3 => ?_)
  obtain ⟨hs3, hf3, hfj3, k3_0⟩ := h3
  show P g X 3 12 [(0, .ref a0)] [] _ _ (K, len, I3, J3, R)
  have hF3 : Fr K [(10, 3), (10, 10), (11, 8), (11, 9), (11, 10), (11, 11), (11, 12), (11, 13), (70, 999), (71, 999), (83, 999), (84, 999)] I I3 := hF.trans hf3 rfl rfl
  have hFJ3 : Fr K [(11, 14), (82, 999)] J J3 := hFJ.trans hfj3 rfl rfl
  have pg3 := pg.mv hf3 kns (fun _ => rfl)
  have nm3 := nm.mv hfj3 knr (fun _ => rfl)
  have om3 := om.mv hf3 rfl
  rcases k3_0 with ⟨hr3, tk3, fl3⟩ | ⟨hr3, hf03, hf13, hf23⟩
  · have fq3 : I3 a0 12 = I a0 12 := fl3.trans rfl
    refine r_aload_n hC dX10_readPeg_12 0 rfl ?_
    refine r_iconst hC (v := (0)) dX10_readPeg_13 (by decide) (by decide) (fun x4_ e4 t4 => ?_)
    refine r_aload_n hC dX10_readPeg_14 0 rfl ?_
    refine r_getr hC 4 (ci := 10) rfl u10_in (by decide) mT_4_239 dX10_readPeg_15 ka0 rfl rfl hbr ?_
    refine r_getiN hC 3 (ci := 9) rfl u9_in (by decide) nF_3 dX10_readPeg_18 krm rfl rfl (fun x5_ e5 => ?_)
    have r5 := hs3.rng krm rfl e5
    have f5 : x5_.toInt = (I3 rm 3).toInt := by rw [e5]
    have w5 : x5_ = x1_ := by rw [e5]; exact (Eq.trans (hf3.get krm rfl) e1.symm)
    have wt5 : x5_.toInt = x1_.toInt := by rw [w5]
    have q10 : I3 rm 10 = G10 := (Eq.trans (hf3.get krm rfl) eG10.symm)
    have q10t : (I3 rm 10).toInt = G10.toInt := congrArg Int32.toInt q10
    refine r_callV hC (As := [.int x4_, .int x5_]) (rest := []) (ci := 10) (f_X10_readFresh g (xL X) K len I3 J3 R hs3 a0 ka0 x4_ x5_ rm hbr krm mt hmt kmt nmt B n (hB.mv9 hF3 kmt (fun _ => rfl)) hBr hn (nx B n p) (nx_le hp).2 tk3 nr hnr knr lnr ns hns kns lns D hD (by omega) nm3 (by omega)) mT_6_23 mT_1_10 mT_6_20 mT_6_22 mP_60 okX10_readFresh ⟨by decide, by decide⟩ rfl (by show kO (K a0) = _; rw [ka0]; rfl) rfl rfl (Nat.le_of_ble_eq_true rfl) ⟨by decide, by decide⟩ dX10_readPeg_21 (aV2 (F := fun st M => P g X 3 24 [(0, .ref a0)] st _ _ M) (M := (K, len, I3, J3, R)) fun I6 J6 h6 => ?_)
    obtain ⟨hs6, hf6, hfj6, k6_0, k6_1⟩ := h6
    show P g X 3 24 [(0, .ref a0)] [] _ _ (K, len, I6, J6, R)
    have hF6 : Fr K [(10, 3), (10, 10), (11, 8), (11, 9), (11, 10), (11, 11), (11, 12), (11, 13), (70, 999), (71, 999), (83, 999), (84, 999)] I I6 := hF3.trans hf6 rfl rfl
    have hFJ6 : Fr K [(11, 14), (82, 999)] J J6 := hFJ3.trans hfj6 rfl rfl
    have om6 := om3.tr k6_1
    rcases k6_0 with ⟨hsp6, tk6, nmF6, hten6, od6, nw6, fl6⟩ | ⟨kf6, qf6, hsp6, hf06, hf16, hf26⟩
    · have fq6 : I6 a0 12 = I a0 12 := fl6.trans fq3
      have pgs6 := PgI.sm (pg3) od6
      have G10_6 : (I6 rm 10).toInt = D 0 10 + 1 := hten6
      obtain ⟨N1, eN1⟩ : ∃ z : Int32, z = I6 rm 10 := ⟨_, rfl⟩
      have fN1 : N1.toInt = (I6 rm 10).toInt := by rw [eN1]
      have rN1 := hs6.rng krm rfl eN1
      refine r_aload_n hC dX10_readPeg_24 0 rfl ?_
      refine r_ldcS hC (i := 41) (by decide) rfl rfl dX10_readPeg_25 ?_
      refine r_iconst hC (v := (0)) dX10_readPeg_27 (by decide) (by decide) (fun x7_ e7 t7 => ?_)
      refine r_sipush hC (v := (999)) dX10_readPeg_28 (by decide) (by decide) (fun x8_ e8 t8 => ?_)
      refine r_callV hC (As := [.ref (g.2.2.1 41), .int x7_, .int x8_]) (rest := []) (ci := 10) (f_X10_readPart g (xL X) K len I6 J6 R hs6 a0 ka0 41 (by decide) x7_ x8_ mt hmt kmt nmt B n (hB.mv9 hF6 kmt (fun _ => rfl)) hBr hn (nx B n (nx B n p)) (nx_le (nx_le hp).2).2 tk6 (by first | assumption | decide)) mT_6_1 mT_1_10 mT_5_238 mT_6_0 mP_56 okX10_readPart ⟨by decide, by decide⟩ rfl (by show kO (K a0) = _; rw [ka0]; rfl) rfl rfl (Nat.le_of_ble_eq_true rfl) ⟨by decide, by decide⟩ dX10_readPeg_31 (aI2 (F := fun st M => P g X 3 34 [(0, .ref a0)] st _ _ M) (M := (K, len, I6, J6, R)) fun x9_ I9 J9 h9 => ?_)
      obtain ⟨hs9, hf9, hfj9, k9_0⟩ := h9
      show P g X 3 34 [(0, .ref a0)] [.int x9_] _ _ (K, len, I9, J9, R)
      have hF9 : Fr K [(10, 3), (10, 10), (11, 8), (11, 9), (11, 10), (11, 11), (11, 12), (11, 13), (70, 999), (71, 999), (83, 999), (84, 999)] I I9 := hF6.trans hf9 rfl rfl
      have hFJ9 : Fr K [(11, 14), (82, 999)] J J9 := hFJ6.trans hfj9 rfl rfl
      have pg9 := pgs6.mv hf9 kns (fun _ => rfl)
      have nw9 := nwmv nw6 hf9 kns rfl
      have nm9 := nmF6.mv hfj9 knr (fun _ => rfl)
      have om9 := om6.mv hf9 rfl
      rcases k9_0 with ⟨v9, p9, hsp9, hp9, tk9, hv9, fl9⟩ | ⟨kf9, qf9, hsp9, hf09, hf19, hf29⟩
      · have fq9 : I9 a0 12 = I a0 12 := fl9.trans fq6
        rw [show x7_.toInt = 0 by omega, show x8_.toInt = 999 by omega] at hsp9
        have rg9 := (sNum_go (nx_le (nx_le hp).2).2 hsp9).2
        refine r_istore_n hC (lv' := [(1, .int x9_), (0, .ref a0)]) dX10_readPeg_34 (by decide) rfl ?_
        refine r_aload_n hC dX10_readPeg_35 1 rfl ?_
        refine r_ldcS hC (i := 42) (by decide) rfl rfl dX10_readPeg_36 ?_
        refine r_iconst hC (v := (0)) dX10_readPeg_38 (by decide) (by decide) (fun x10_ e10 t10 => ?_)
        refine r_sipush hC (v := (999)) dX10_readPeg_39 (by decide) (by decide) (fun x11_ e11 t11 => ?_)
        refine r_callV hC (As := [.ref (g.2.2.1 42), .int x10_, .int x11_]) (rest := []) (ci := 10) (f_X10_readPart g (xL X) K len I9 J9 R hs9 a0 ka0 42 (by decide) x10_ x11_ mt hmt kmt nmt B n (hB.mv9 hF9 kmt (fun _ => rfl)) hBr hn p9 hp9 tk9 (by first | assumption | decide)) mT_6_1 mT_1_10 mT_5_238 mT_6_0 mP_56 okX10_readPart ⟨by decide, by decide⟩ rfl (by show kO (K a0) = _; rw [ka0]; rfl) rfl rfl (Nat.le_of_ble_eq_true rfl) ⟨by decide, by decide⟩ dX10_readPeg_42 (aI2 (F := fun st M => P g X 3 45 [(1, .int x9_), (0, .ref a0)] st _ _ M) (M := (K, len, I9, J9, R)) fun x12_ I12 J12 h12 => ?_)
        obtain ⟨hs12, hf12, hfj12, k12_0⟩ := h12
        show P g X 3 45 [(1, .int x9_), (0, .ref a0)] [.int x12_] _ _ (K, len, I12, J12, R)
        have hF12 : Fr K [(10, 3), (10, 10), (11, 8), (11, 9), (11, 10), (11, 11), (11, 12), (11, 13), (70, 999), (71, 999), (83, 999), (84, 999)] I I12 := hF9.trans hf12 rfl rfl
        have hFJ12 : Fr K [(11, 14), (82, 999)] J J12 := hFJ9.trans hfj12 rfl rfl
        have pg12 := pg9.mv hf12 kns (fun _ => rfl)
        have nw12 := nwmv nw9 hf12 kns rfl
        have nm12 := nm9.mv hfj12 knr (fun _ => rfl)
        have om12 := om9.mv hf12 rfl
        rcases k12_0 with ⟨v12, p12, hsp12, hp12, tk12, hv12, fl12⟩ | ⟨kf12, qf12, hsp12, hf012, hf112, hf212⟩
        · have fq12 : I12 a0 12 = I a0 12 := fl12.trans fq9
          rw [show x10_.toInt = 0 by omega, show x11_.toInt = 999 by omega] at hsp12
          have rg12 := (sNum_go hp9 hsp12).2
          refine r_istore_n hC (lv' := [(2, .int x12_), (1, .int x9_), (0, .ref a0)]) dX10_readPeg_45 (by decide) rfl ?_
          refine r_aload_n hC dX10_readPeg_46 2 rfl ?_
          have n5_47 := tk12.e5
          refine r_geti hC 9 (ci := 10) rfl u10_in (by decide) mT_5_4 dX10_readPeg_47 ka0 rfl rfl (fun x13_ e13 => ?_)
          have f13 : x13_.toInt = (I12 a0 9).toInt := by rw [e13]
          refine r_iconst hC (v := (5)) dX10_readPeg_50 (by decide) (by decide) (fun x14_ e14 t14 => ?_)
          refine r_icmp_ne hC (tgt := 55) dX10_readPeg_51 (by decide) (fun c15 => ?_) (fun c15 => ?_)
          rotate_left
          · exfalso; omega
          refine r_aload_n hC dX10_readPeg_55 2 rfl ?_
          refine r_getr hC 4 (ci := 10) rfl u10_in (by decide) mT_4_239 dX10_readPeg_56 ka0 rfl rfl hbr ?_
          obtain ⟨a16_, hb16, hk16, hn16⟩ := hs12.row krm 11 70 5 (by decide) (by decide)
          refine r_getrN hC 11 (ci := 9) rfl u9_in (by decide) nF_11 dX10_readPeg_59 krm rfl rfl hb16 ?_
          refine r_aload_n hC dX10_readPeg_62 2 rfl ?_
          refine r_getr hC 4 (ci := 10) rfl u10_in (by decide) mT_4_239 dX10_readPeg_63 ka0 rfl rfl hbr ?_
          refine r_getiN hC 3 (ci := 9) rfl u9_in (by decide) nF_3 dX10_readPeg_66 krm rfl rfl (fun x17_ e17 => ?_)
          have r17 := hs12.rng krm rfl e17
          have f17 : x17_.toInt = (I12 rm 3).toInt := by rw [e17]
          have w17 : x17_ = x5_ := by rw [e17]; exact (Eq.trans (hf12.get krm rfl) (Eq.trans (hf9.get krm rfl) (Eq.trans (hf6.get krm rfl) e5.symm)))
          have wt17 : x17_.toInt = x5_.toInt := by rw [w17]
          refine r_iload_n hC dX10_readPeg_69 1 rfl ?_
          refine x_iastore hC hk16 hn16 (by decide) rfl rfl dX10_readPeg_70 (by omega) (by omega) (fun I18 eI18 => ?_)
          have hs18 := hs12.put0 eI18 hk16 (rng_arr (by decide) _) rfl (xF_arr (by decide) _) (by decide)
          have hF18 := hF12.put eI18 hk16 (inS_arr rfl _)
          have tkp18 := tk12.put eI18 hk16 ka0 (by decide)
          have fp18 : I18 a0 12 = I a0 12 := (up2_kk eI18 hk16 ka0 (by decide)).trans fq12
          have pg18 := pg12.put eI18 hk16 kns (by decide)
          have nw18 := nwput nw12 eI18 hk16 kns (by decide)
          have om18 := om12.put eI18 hk16 (by first | exact Or.inr rfl | exact Or.inl (by decide) | exact Or.inl (by omega))
          refine r_aload_n hC dX10_readPeg_71 2 rfl ?_
          refine r_getr hC 4 (ci := 10) rfl u10_in (by decide) mT_4_239 dX10_readPeg_72 ka0 rfl rfl hbr ?_
          obtain ⟨a19_, hb19, hk19, hn19⟩ := hs18.row krm 12 71 5 (by decide) (by decide)
          refine r_getrN hC 12 (ci := 9) rfl u9_in (by decide) nF_12 dX10_readPeg_75 krm rfl rfl hb19 ?_
          refine r_aload_n hC dX10_readPeg_78 2 rfl ?_
          refine r_getr hC 4 (ci := 10) rfl u10_in (by decide) mT_4_239 dX10_readPeg_79 ka0 rfl rfl hbr ?_
          refine r_getiN hC 3 (ci := 9) rfl u9_in (by decide) nF_3 dX10_readPeg_82 krm rfl rfl (fun x20_ e20 => ?_)
          have r20 := hs18.rng krm rfl e20
          have f20 : x20_.toInt = (I18 rm 3).toInt := by rw [e20]
          have w20 : x20_ = x17_ := by rw [e20]; exact (Eq.trans (up2_kk eI18 hk16 krm (by decide)) e17.symm)
          have wt20 : x20_.toInt = x17_.toInt := by rw [w20]
          refine r_iload_n hC dX10_readPeg_85 0 rfl ?_
          refine x_iastore hC hk19 hn19 (by decide) rfl rfl dX10_readPeg_86 (by omega) (by omega) (fun I21 eI21 => ?_)
          have hs21 := hs18.put0 eI21 hk19 (rng_arr (by decide) _) rfl (xF_arr (by decide) _) (by decide)
          have hF21 := hF18.put eI21 hk19 (inS_arr rfl _)
          have tkp21 := tkp18.put eI21 hk19 ka0 (by decide)
          have fp21 : I21 a0 12 = I a0 12 := (up2_kk eI21 hk19 ka0 (by decide)).trans fp18
          have pg21 := pg18.put eI21 hk19 kns (by decide)
          have nw21 := nwput nw18 eI21 hk19 kns (by decide)
          have om21 := om18.put eI21 hk19 (by first | exact Or.inr rfl | exact Or.inl (by decide) | exact Or.inl (by omega))
          refine r_aload_n hC dX10_readPeg_87 2 rfl ?_
          refine r_getr hC 4 (ci := 10) rfl u10_in (by decide) mT_4_239 dX10_readPeg_88 ka0 rfl rfl hbr ?_
          refine r_dup hC dX10_readPeg_91 rfl ?_
          refine r_getiN hC 3 (ci := 9) rfl u9_in (by decide) nF_3 dX10_readPeg_92 krm rfl rfl (fun x22_ e22 => ?_)
          have r22 := hs21.rng krm rfl e22
          have f22 : x22_.toInt = (I21 rm 3).toInt := by rw [e22]
          have w22 : x22_ = x20_ := by rw [e22]; exact (Eq.trans (up2_kk eI21 hk19 krm (by decide)) e20.symm)
          have wt22 : x22_.toInt = x20_.toInt := by rw [w22]
          refine r_iconst hC (v := (1)) dX10_readPeg_95 (by decide) (by decide) (fun x23_ e23 t23 => ?_)
          refine r_iadd hC dX10_readPeg_96 (fun x24_ e24 => ?_)
          try have t24 : x24_.toInt = x22_.toInt + x23_.toInt := by rw [e24]; exact ti_add (by omega) (by omega)
          refine r_putiN hC 3 (ci := 9) rfl u9_in tyX9_ok nmX9 (by decide) nF_3 rfl rfl rfl dX10_readPeg_97 krm rfl rfl (fun I25 eI25 => ?_)
          have hs25 := hs21.put1 eI25 krm rfl (by omega) (by omega) rfl rfl (by decide)
          have hF25 := hF21.put eI25 krm rfl
          have tkp25 := tkp21.put eI25 krm ka0 (by decide)
          have fp25 : I25 a0 12 = I a0 12 := (up2_kk eI25 krm ka0 (by decide)).trans fp21
          have pg25 := pg21.put eI25 krm kns (by decide)
          have nw25 := nwput nw21 eI25 krm kns (by decide)
          have om25 := om21.put eI25 krm (by first | exact Or.inr rfl | exact Or.inl (by decide) | exact Or.inl (by omega))
          have hG0 : I25 rm 0 = G0 := (Eq.trans (up2_at (Or.inr (by decide)) eI25) (Eq.trans (up2_kk eI21 hk19 krm (by decide)) (Eq.trans (up2_kk eI18 hk16 krm (by decide)) (Eq.trans (hf12.get krm rfl) (Eq.trans (hf9.get krm rfl) (Eq.trans (hf6.get krm rfl) (Eq.trans (hf3.get krm rfl) eG0.symm)))))))
          have hG0t : (I25 rm 0).toInt = G0.toInt := congrArg Int32.toInt hG0
          have hG1 : I25 rm 1 = G1 := (Eq.trans (up2_at (Or.inr (by decide)) eI25) (Eq.trans (up2_kk eI21 hk19 krm (by decide)) (Eq.trans (up2_kk eI18 hk16 krm (by decide)) (Eq.trans (hf12.get krm rfl) (Eq.trans (hf9.get krm rfl) (Eq.trans (hf6.get krm rfl) (Eq.trans (hf3.get krm rfl) eG1.symm)))))))
          have hG1t : (I25 rm 1).toInt = G1.toInt := congrArg Int32.toInt hG1
          have hG2 : I25 rm 2 = G2 := (Eq.trans (up2_at (Or.inr (by decide)) eI25) (Eq.trans (up2_kk eI21 hk19 krm (by decide)) (Eq.trans (up2_kk eI18 hk16 krm (by decide)) (Eq.trans (hf12.get krm rfl) (Eq.trans (hf9.get krm rfl) (Eq.trans (hf6.get krm rfl) (Eq.trans (hf3.get krm rfl) eG2.symm)))))))
          have hG2t : (I25 rm 2).toInt = G2.toInt := congrArg Int32.toInt hG2
          have hG3 : I25 rm 3 = x24_ := (by rw [eI25]; exact up2_self _ _ _ _)
          have hG3t : (I25 rm 3).toInt = x24_.toInt := congrArg Int32.toInt hG3
          have hG4 : I25 rm 4 = G4 := (Eq.trans (up2_at (Or.inr (by decide)) eI25) (Eq.trans (up2_kk eI21 hk19 krm (by decide)) (Eq.trans (up2_kk eI18 hk16 krm (by decide)) (Eq.trans (hf12.get krm rfl) (Eq.trans (hf9.get krm rfl) (Eq.trans (hf6.get krm rfl) (Eq.trans (hf3.get krm rfl) eG4.symm)))))))
          have hG4t : (I25 rm 4).toInt = G4.toInt := congrArg Int32.toInt hG4
          have hG5 : I25 rm 5 = G5 := (Eq.trans (up2_at (Or.inr (by decide)) eI25) (Eq.trans (up2_kk eI21 hk19 krm (by decide)) (Eq.trans (up2_kk eI18 hk16 krm (by decide)) (Eq.trans (hf12.get krm rfl) (Eq.trans (hf9.get krm rfl) (Eq.trans (hf6.get krm rfl) (Eq.trans (hf3.get krm rfl) eG5.symm)))))))
          have hG5t : (I25 rm 5).toInt = G5.toInt := congrArg Int32.toInt hG5
          have hG6 : I25 rm 6 = G6 := (Eq.trans (up2_at (Or.inr (by decide)) eI25) (Eq.trans (up2_kk eI21 hk19 krm (by decide)) (Eq.trans (up2_kk eI18 hk16 krm (by decide)) (Eq.trans (hf12.get krm rfl) (Eq.trans (hf9.get krm rfl) (Eq.trans (hf6.get krm rfl) (Eq.trans (hf3.get krm rfl) eG6.symm)))))))
          have hG6t : (I25 rm 6).toInt = G6.toInt := congrArg Int32.toInt hG6
          have hG7 : I25 rm 7 = G7 := (Eq.trans (up2_at (Or.inr (by decide)) eI25) (Eq.trans (up2_kk eI21 hk19 krm (by decide)) (Eq.trans (up2_kk eI18 hk16 krm (by decide)) (Eq.trans (hf12.get krm rfl) (Eq.trans (hf9.get krm rfl) (Eq.trans (hf6.get krm rfl) (Eq.trans (hf3.get krm rfl) eG7.symm)))))))
          have hG7t : (I25 rm 7).toInt = G7.toInt := congrArg Int32.toInt hG7
          have hG8 : I25 rm 8 = G8 := (Eq.trans (up2_at (Or.inr (by decide)) eI25) (Eq.trans (up2_kk eI21 hk19 krm (by decide)) (Eq.trans (up2_kk eI18 hk16 krm (by decide)) (Eq.trans (hf12.get krm rfl) (Eq.trans (hf9.get krm rfl) (Eq.trans (hf6.get krm rfl) (Eq.trans (hf3.get krm rfl) eG8.symm)))))))
          have hG8t : (I25 rm 8).toInt = G8.toInt := congrArg Int32.toInt hG8
          have hG9 : I25 rm 9 = G9 := (Eq.trans (up2_at (Or.inr (by decide)) eI25) (Eq.trans (up2_kk eI21 hk19 krm (by decide)) (Eq.trans (up2_kk eI18 hk16 krm (by decide)) (Eq.trans (hf12.get krm rfl) (Eq.trans (hf9.get krm rfl) (Eq.trans (hf6.get krm rfl) (Eq.trans (hf3.get krm rfl) eG9.symm)))))))
          have hG9t : (I25 rm 9).toInt = G9.toInt := congrArg Int32.toInt hG9
          have hG10 : I25 rm 10 = N1 := (Eq.trans (up2_at (Or.inr (by decide)) eI25) (Eq.trans (up2_kk eI21 hk19 krm (by decide)) (Eq.trans (up2_kk eI18 hk16 krm (by decide)) (Eq.trans (hf12.get krm rfl) (Eq.trans (hf9.get krm rfl) eN1.symm)))))
          have hG10t : (I25 rm 10).toInt = N1.toInt := congrArg Int32.toInt hG10
          exact r_vret hC hQ hlk hr (by decide) (by decide) dX10_readPeg_100 ⟨_, _, rfl, rfl, ⟨hs25, hF25, hFJ12, (by first | exact Or.inl ⟨(upD (upD (adN D (vl B n (nx B n p))) 23 ((adN D (vl B n (nx B n p))) 0 5).toNat (vl B n (nx B n p))) 0 5 ((adN D (vl B n (nx B n p))) 0 5 + 1)), _, by unfold sPeg; rw [pif_f (show ¬ 5 ≤ D 0 5 by omega), hsp6, bnd_ok, hsp9, bnd_ok, hsp12, bnd_ok], hp12, tkp25, ⟨by unfold SM; simp [upD, adN]; omega, nm12.cg (by simp [upD]) (by intro j; simp [upD]), pg25.peg (by omega) (by omega) (sFresh_new hsp6) (nw25.trans (by omega))⟩, fp25⟩ | exact Or.inr ⟨NOekf, NOeqf, by unfold sPeg; rw [pif_f (show ¬ 5 ≤ D 0 5 by omega), hsp6, bnd_ok, hsp9, bnd_ok, hsp12, bnd_ok], by omega, by omega, by omega⟩), (by exact om25)⟩⟩
        · rw [show x10_.toInt = 0 by omega, show x11_.toInt = 999 by omega] at hsp12
          refine r_istore_n hC (lv' := [(2, .int x12_), (1, .int x9_), (0, .ref a0)]) dX10_readPeg_45 (by decide) rfl ?_
          refine r_aload_n hC dX10_readPeg_46 2 rfl ?_
          refine r_geti hC 9 (ci := 10) rfl u10_in (by decide) mT_5_4 dX10_readPeg_47 ka0 rfl rfl (fun x26_ e26 => ?_)
          have f26 : x26_.toInt = (I12 a0 9).toInt := by rw [e26]
          refine r_iconst hC (v := (5)) dX10_readPeg_50 (by decide) (by decide) (fun x27_ e27 t27 => ?_)
          refine r_icmp_ne hC (tgt := 55) dX10_readPeg_51 (by decide) (fun c28 => ?_) (fun c28 => ?_)
          · exfalso; omega
          have hG0 : I12 rm 0 = G0 := (Eq.trans (hf12.get krm rfl) (Eq.trans (hf9.get krm rfl) (Eq.trans (hf6.get krm rfl) (Eq.trans (hf3.get krm rfl) eG0.symm))))
          have hG0t : (I12 rm 0).toInt = G0.toInt := congrArg Int32.toInt hG0
          have hG1 : I12 rm 1 = G1 := (Eq.trans (hf12.get krm rfl) (Eq.trans (hf9.get krm rfl) (Eq.trans (hf6.get krm rfl) (Eq.trans (hf3.get krm rfl) eG1.symm))))
          have hG1t : (I12 rm 1).toInt = G1.toInt := congrArg Int32.toInt hG1
          have hG2 : I12 rm 2 = G2 := (Eq.trans (hf12.get krm rfl) (Eq.trans (hf9.get krm rfl) (Eq.trans (hf6.get krm rfl) (Eq.trans (hf3.get krm rfl) eG2.symm))))
          have hG2t : (I12 rm 2).toInt = G2.toInt := congrArg Int32.toInt hG2
          have hG3 : I12 rm 3 = x5_ := (Eq.trans (hf12.get krm rfl) (Eq.trans (hf9.get krm rfl) (Eq.trans (hf6.get krm rfl) e5.symm)))
          have hG3t : (I12 rm 3).toInt = x5_.toInt := congrArg Int32.toInt hG3
          have hG4 : I12 rm 4 = G4 := (Eq.trans (hf12.get krm rfl) (Eq.trans (hf9.get krm rfl) (Eq.trans (hf6.get krm rfl) (Eq.trans (hf3.get krm rfl) eG4.symm))))
          have hG4t : (I12 rm 4).toInt = G4.toInt := congrArg Int32.toInt hG4
          have hG5 : I12 rm 5 = G5 := (Eq.trans (hf12.get krm rfl) (Eq.trans (hf9.get krm rfl) (Eq.trans (hf6.get krm rfl) (Eq.trans (hf3.get krm rfl) eG5.symm))))
          have hG5t : (I12 rm 5).toInt = G5.toInt := congrArg Int32.toInt hG5
          have hG6 : I12 rm 6 = G6 := (Eq.trans (hf12.get krm rfl) (Eq.trans (hf9.get krm rfl) (Eq.trans (hf6.get krm rfl) (Eq.trans (hf3.get krm rfl) eG6.symm))))
          have hG6t : (I12 rm 6).toInt = G6.toInt := congrArg Int32.toInt hG6
          have hG7 : I12 rm 7 = G7 := (Eq.trans (hf12.get krm rfl) (Eq.trans (hf9.get krm rfl) (Eq.trans (hf6.get krm rfl) (Eq.trans (hf3.get krm rfl) eG7.symm))))
          have hG7t : (I12 rm 7).toInt = G7.toInt := congrArg Int32.toInt hG7
          have hG8 : I12 rm 8 = G8 := (Eq.trans (hf12.get krm rfl) (Eq.trans (hf9.get krm rfl) (Eq.trans (hf6.get krm rfl) (Eq.trans (hf3.get krm rfl) eG8.symm))))
          have hG8t : (I12 rm 8).toInt = G8.toInt := congrArg Int32.toInt hG8
          have hG9 : I12 rm 9 = G9 := (Eq.trans (hf12.get krm rfl) (Eq.trans (hf9.get krm rfl) (Eq.trans (hf6.get krm rfl) (Eq.trans (hf3.get krm rfl) eG9.symm))))
          have hG9t : (I12 rm 9).toInt = G9.toInt := congrArg Int32.toInt hG9
          have hG10 : I12 rm 10 = N1 := (Eq.trans (hf12.get krm rfl) (Eq.trans (hf9.get krm rfl) eN1.symm))
          have hG10t : (I12 rm 10).toInt = N1.toInt := congrArg Int32.toInt hG10
          exact r_vret hC hQ hlk hr (by decide) (by decide) dX10_readPeg_54 ⟨_, _, rfl, rfl, ⟨hs12, hF12, hFJ12, (by first | exact Or.inl ⟨(upD (upD (adN D (vl B n (nx B n p))) 23 ((adN D (vl B n (nx B n p))) 0 5).toNat (vl B n (nx B n p))) 0 5 ((adN D (vl B n (nx B n p))) 0 5 + 1)), _, by unfold sPeg; rw [pif_f (show ¬ 5 ≤ D 0 5 by omega), hsp6, bnd_ok, hsp9, bnd_ok, hsp12, bnd_er], hp9, tk9, ⟨by unfold SM; simp [upD, adN]; omega, nm12.cg (by simp [upD]) (by intro j; simp [upD]), pg12.peg (by omega) (by omega) (sFresh_new hsp6) (nw12.trans (by omega))⟩, fq9⟩ | exact Or.inr ⟨kf12, qf12, by unfold sPeg; rw [pif_f (show ¬ 5 ≤ D 0 5 by omega), hsp6, bnd_ok, hsp9, bnd_ok, hsp12, bnd_er], by omega, by omega, by omega⟩), (by exact om12)⟩⟩
      · rw [show x7_.toInt = 0 by omega, show x8_.toInt = 999 by omega] at hsp9
        refine r_istore_n hC (lv' := [(1, .int x9_), (0, .ref a0)]) dX10_readPeg_34 (by decide) rfl ?_
        refine r_aload_n hC dX10_readPeg_35 1 rfl ?_
        refine r_ldcS hC (i := 42) (by decide) rfl rfl dX10_readPeg_36 ?_
        refine r_iconst hC (v := (0)) dX10_readPeg_38 (by decide) (by decide) (fun x29_ e29 t29 => ?_)
        refine r_sipush hC (v := (999)) dX10_readPeg_39 (by decide) (by decide) (fun x30_ e30 t30 => ?_)
        refine r_callV hC (As := [.ref (g.2.2.1 42), .int x29_, .int x30_]) (rest := []) (ci := 10) (e_X10_readPart g (xL X) K len I9 J9 R hs9 a0 ka0 42 (by decide) x29_ x30_ (by omega)) mT_6_1 mT_1_10 mT_5_238 mT_6_0 mP_56 okX10_readPart ⟨by decide, by decide⟩ rfl (by show kO (K a0) = _; rw [ka0]; rfl) rfl rfl (Nat.le_of_ble_eq_true rfl) ⟨by decide, by decide⟩ dX10_readPeg_42 (aI2 (F := fun st M => P g X 3 45 [(1, .int x9_), (0, .ref a0)] st _ _ M) (M := (K, len, I9, J9, R)) fun x31_ I31 J31 h31 => ?_)
        obtain ⟨hs31, hf31, hfj31, k31_0, k31_1, k31_2⟩ := h31
        show P g X 3 45 [(1, .int x9_), (0, .ref a0)] [.int x31_] _ _ (K, len, I31, J31, R)
        have hF31 : Fr K [(10, 3), (10, 10), (11, 8), (11, 9), (11, 10), (11, 11), (11, 12), (11, 13), (70, 999), (71, 999), (83, 999), (84, 999)] I I31 := hF9.trans hf31 rfl rfl
        have hFJ31 : Fr K [(11, 14), (82, 999)] J J31 := hFJ9.trans hfj31 rfl rfl
        have om31 := om9.mv hf31 rfl
        refine r_istore_n hC (lv' := [(2, .int x31_), (1, .int x9_), (0, .ref a0)]) dX10_readPeg_45 (by decide) rfl ?_
        refine r_aload_n hC dX10_readPeg_46 2 rfl ?_
        refine r_geti hC 9 (ci := 10) rfl u10_in (by decide) mT_5_4 dX10_readPeg_47 ka0 rfl rfl (fun x32_ e32 => ?_)
        have f32 : x32_.toInt = (I31 a0 9).toInt := by rw [e32]
        refine r_iconst hC (v := (5)) dX10_readPeg_50 (by decide) (by decide) (fun x33_ e33 t33 => ?_)
        refine r_icmp_ne hC (tgt := 55) dX10_readPeg_51 (by decide) (fun c34 => ?_) (fun c34 => ?_)
        · exfalso; omega
        have hG0 : I31 rm 0 = G0 := (Eq.trans (hf31.get krm rfl) (Eq.trans (hf9.get krm rfl) (Eq.trans (hf6.get krm rfl) (Eq.trans (hf3.get krm rfl) eG0.symm))))
        have hG0t : (I31 rm 0).toInt = G0.toInt := congrArg Int32.toInt hG0
        have hG1 : I31 rm 1 = G1 := (Eq.trans (hf31.get krm rfl) (Eq.trans (hf9.get krm rfl) (Eq.trans (hf6.get krm rfl) (Eq.trans (hf3.get krm rfl) eG1.symm))))
        have hG1t : (I31 rm 1).toInt = G1.toInt := congrArg Int32.toInt hG1
        have hG2 : I31 rm 2 = G2 := (Eq.trans (hf31.get krm rfl) (Eq.trans (hf9.get krm rfl) (Eq.trans (hf6.get krm rfl) (Eq.trans (hf3.get krm rfl) eG2.symm))))
        have hG2t : (I31 rm 2).toInt = G2.toInt := congrArg Int32.toInt hG2
        have hG3 : I31 rm 3 = x5_ := (Eq.trans (hf31.get krm rfl) (Eq.trans (hf9.get krm rfl) (Eq.trans (hf6.get krm rfl) e5.symm)))
        have hG3t : (I31 rm 3).toInt = x5_.toInt := congrArg Int32.toInt hG3
        have hG4 : I31 rm 4 = G4 := (Eq.trans (hf31.get krm rfl) (Eq.trans (hf9.get krm rfl) (Eq.trans (hf6.get krm rfl) (Eq.trans (hf3.get krm rfl) eG4.symm))))
        have hG4t : (I31 rm 4).toInt = G4.toInt := congrArg Int32.toInt hG4
        have hG5 : I31 rm 5 = G5 := (Eq.trans (hf31.get krm rfl) (Eq.trans (hf9.get krm rfl) (Eq.trans (hf6.get krm rfl) (Eq.trans (hf3.get krm rfl) eG5.symm))))
        have hG5t : (I31 rm 5).toInt = G5.toInt := congrArg Int32.toInt hG5
        have hG6 : I31 rm 6 = G6 := (Eq.trans (hf31.get krm rfl) (Eq.trans (hf9.get krm rfl) (Eq.trans (hf6.get krm rfl) (Eq.trans (hf3.get krm rfl) eG6.symm))))
        have hG6t : (I31 rm 6).toInt = G6.toInt := congrArg Int32.toInt hG6
        have hG7 : I31 rm 7 = G7 := (Eq.trans (hf31.get krm rfl) (Eq.trans (hf9.get krm rfl) (Eq.trans (hf6.get krm rfl) (Eq.trans (hf3.get krm rfl) eG7.symm))))
        have hG7t : (I31 rm 7).toInt = G7.toInt := congrArg Int32.toInt hG7
        have hG8 : I31 rm 8 = G8 := (Eq.trans (hf31.get krm rfl) (Eq.trans (hf9.get krm rfl) (Eq.trans (hf6.get krm rfl) (Eq.trans (hf3.get krm rfl) eG8.symm))))
        have hG8t : (I31 rm 8).toInt = G8.toInt := congrArg Int32.toInt hG8
        have hG9 : I31 rm 9 = G9 := (Eq.trans (hf31.get krm rfl) (Eq.trans (hf9.get krm rfl) (Eq.trans (hf6.get krm rfl) (Eq.trans (hf3.get krm rfl) eG9.symm))))
        have hG9t : (I31 rm 9).toInt = G9.toInt := congrArg Int32.toInt hG9
        have hG10 : I31 rm 10 = N1 := (Eq.trans (hf31.get krm rfl) (Eq.trans (hf9.get krm rfl) eN1.symm))
        have hG10t : (I31 rm 10).toInt = N1.toInt := congrArg Int32.toInt hG10
        exact r_vret hC hQ hlk hr (by decide) (by decide) dX10_readPeg_54 ⟨_, _, rfl, rfl, ⟨hs31, hF31, hFJ31, (by first | exact Or.inl ⟨(upD (upD (adN D (vl B n (nx B n p))) 23 ((adN D (vl B n (nx B n p))) 0 5).toNat (vl B n (nx B n p))) 0 5 ((adN D (vl B n (nx B n p))) 0 5 + 1)), _, by unfold sPeg; rw [pif_f (show ¬ 5 ≤ D 0 5 by omega), hsp6, bnd_ok, hsp9, bnd_er], (nx_le (nx_le hp).2).2, tk6, ⟨by unfold SM; simp [upD, adN]; omega, nm9.cg (by simp [upD]) (by intro j; simp [upD]), pg9.peg (by omega) (by omega) (sFresh_new hsp6) (nw9.trans (by omega))⟩, fq6⟩ | exact Or.inr ⟨kf9, qf9, by unfold sPeg; rw [pif_f (show ¬ 5 ≤ D 0 5 by omega), hsp6, bnd_ok, hsp9, bnd_er], by omega, by omega, by omega⟩), (by exact om31)⟩⟩
    · obtain ⟨N1, eN1⟩ : ∃ z : Int32, z = I6 rm 10 := ⟨_, rfl⟩
      have fN1 : N1.toInt = (I6 rm 10).toInt := by rw [eN1]
      have rN1 := hs6.rng krm rfl eN1
      refine r_aload_n hC dX10_readPeg_24 0 rfl ?_
      refine r_ldcS hC (i := 41) (by decide) rfl rfl dX10_readPeg_25 ?_
      refine r_iconst hC (v := (0)) dX10_readPeg_27 (by decide) (by decide) (fun x35_ e35 t35 => ?_)
      refine r_sipush hC (v := (999)) dX10_readPeg_28 (by decide) (by decide) (fun x36_ e36 t36 => ?_)
      refine r_callV hC (As := [.ref (g.2.2.1 41), .int x35_, .int x36_]) (rest := []) (ci := 10) (e_X10_readPart g (xL X) K len I6 J6 R hs6 a0 ka0 41 (by decide) x35_ x36_ (by omega)) mT_6_1 mT_1_10 mT_5_238 mT_6_0 mP_56 okX10_readPart ⟨by decide, by decide⟩ rfl (by show kO (K a0) = _; rw [ka0]; rfl) rfl rfl (Nat.le_of_ble_eq_true rfl) ⟨by decide, by decide⟩ dX10_readPeg_31 (aI2 (F := fun st M => P g X 3 34 [(0, .ref a0)] st _ _ M) (M := (K, len, I6, J6, R)) fun x37_ I37 J37 h37 => ?_)
      obtain ⟨hs37, hf37, hfj37, k37_0, k37_1, k37_2⟩ := h37
      show P g X 3 34 [(0, .ref a0)] [.int x37_] _ _ (K, len, I37, J37, R)
      have hF37 : Fr K [(10, 3), (10, 10), (11, 8), (11, 9), (11, 10), (11, 11), (11, 12), (11, 13), (70, 999), (71, 999), (83, 999), (84, 999)] I I37 := hF6.trans hf37 rfl rfl
      have hFJ37 : Fr K [(11, 14), (82, 999)] J J37 := hFJ6.trans hfj37 rfl rfl
      have om37 := om6.mv hf37 rfl
      refine r_istore_n hC (lv' := [(1, .int x37_), (0, .ref a0)]) dX10_readPeg_34 (by decide) rfl ?_
      refine r_aload_n hC dX10_readPeg_35 1 rfl ?_
      refine r_ldcS hC (i := 42) (by decide) rfl rfl dX10_readPeg_36 ?_
      refine r_iconst hC (v := (0)) dX10_readPeg_38 (by decide) (by decide) (fun x38_ e38 t38 => ?_)
      refine r_sipush hC (v := (999)) dX10_readPeg_39 (by decide) (by decide) (fun x39_ e39 t39 => ?_)
      refine r_callV hC (As := [.ref (g.2.2.1 42), .int x38_, .int x39_]) (rest := []) (ci := 10) (e_X10_readPart g (xL X) K len I37 J37 R hs37 a0 ka0 42 (by decide) x38_ x39_ (by omega)) mT_6_1 mT_1_10 mT_5_238 mT_6_0 mP_56 okX10_readPart ⟨by decide, by decide⟩ rfl (by show kO (K a0) = _; rw [ka0]; rfl) rfl rfl (Nat.le_of_ble_eq_true rfl) ⟨by decide, by decide⟩ dX10_readPeg_42 (aI2 (F := fun st M => P g X 3 45 [(1, .int x37_), (0, .ref a0)] st _ _ M) (M := (K, len, I37, J37, R)) fun x40_ I40 J40 h40 => ?_)
      obtain ⟨hs40, hf40, hfj40, k40_0, k40_1, k40_2⟩ := h40
      show P g X 3 45 [(1, .int x37_), (0, .ref a0)] [.int x40_] _ _ (K, len, I40, J40, R)
      have hF40 : Fr K [(10, 3), (10, 10), (11, 8), (11, 9), (11, 10), (11, 11), (11, 12), (11, 13), (70, 999), (71, 999), (83, 999), (84, 999)] I I40 := hF37.trans hf40 rfl rfl
      have hFJ40 : Fr K [(11, 14), (82, 999)] J J40 := hFJ37.trans hfj40 rfl rfl
      have om40 := om37.mv hf40 rfl
      refine r_istore_n hC (lv' := [(2, .int x40_), (1, .int x37_), (0, .ref a0)]) dX10_readPeg_45 (by decide) rfl ?_
      refine r_aload_n hC dX10_readPeg_46 2 rfl ?_
      refine r_geti hC 9 (ci := 10) rfl u10_in (by decide) mT_5_4 dX10_readPeg_47 ka0 rfl rfl (fun x41_ e41 => ?_)
      have f41 : x41_.toInt = (I40 a0 9).toInt := by rw [e41]
      refine r_iconst hC (v := (5)) dX10_readPeg_50 (by decide) (by decide) (fun x42_ e42 t42 => ?_)
      refine r_icmp_ne hC (tgt := 55) dX10_readPeg_51 (by decide) (fun c43 => ?_) (fun c43 => ?_)
      · exfalso; omega
      have hG0 : I40 rm 0 = G0 := (Eq.trans (hf40.get krm rfl) (Eq.trans (hf37.get krm rfl) (Eq.trans (hf6.get krm rfl) (Eq.trans (hf3.get krm rfl) eG0.symm))))
      have hG0t : (I40 rm 0).toInt = G0.toInt := congrArg Int32.toInt hG0
      have hG1 : I40 rm 1 = G1 := (Eq.trans (hf40.get krm rfl) (Eq.trans (hf37.get krm rfl) (Eq.trans (hf6.get krm rfl) (Eq.trans (hf3.get krm rfl) eG1.symm))))
      have hG1t : (I40 rm 1).toInt = G1.toInt := congrArg Int32.toInt hG1
      have hG2 : I40 rm 2 = G2 := (Eq.trans (hf40.get krm rfl) (Eq.trans (hf37.get krm rfl) (Eq.trans (hf6.get krm rfl) (Eq.trans (hf3.get krm rfl) eG2.symm))))
      have hG2t : (I40 rm 2).toInt = G2.toInt := congrArg Int32.toInt hG2
      have hG3 : I40 rm 3 = x5_ := (Eq.trans (hf40.get krm rfl) (Eq.trans (hf37.get krm rfl) (Eq.trans (hf6.get krm rfl) e5.symm)))
      have hG3t : (I40 rm 3).toInt = x5_.toInt := congrArg Int32.toInt hG3
      have hG4 : I40 rm 4 = G4 := (Eq.trans (hf40.get krm rfl) (Eq.trans (hf37.get krm rfl) (Eq.trans (hf6.get krm rfl) (Eq.trans (hf3.get krm rfl) eG4.symm))))
      have hG4t : (I40 rm 4).toInt = G4.toInt := congrArg Int32.toInt hG4
      have hG5 : I40 rm 5 = G5 := (Eq.trans (hf40.get krm rfl) (Eq.trans (hf37.get krm rfl) (Eq.trans (hf6.get krm rfl) (Eq.trans (hf3.get krm rfl) eG5.symm))))
      have hG5t : (I40 rm 5).toInt = G5.toInt := congrArg Int32.toInt hG5
      have hG6 : I40 rm 6 = G6 := (Eq.trans (hf40.get krm rfl) (Eq.trans (hf37.get krm rfl) (Eq.trans (hf6.get krm rfl) (Eq.trans (hf3.get krm rfl) eG6.symm))))
      have hG6t : (I40 rm 6).toInt = G6.toInt := congrArg Int32.toInt hG6
      have hG7 : I40 rm 7 = G7 := (Eq.trans (hf40.get krm rfl) (Eq.trans (hf37.get krm rfl) (Eq.trans (hf6.get krm rfl) (Eq.trans (hf3.get krm rfl) eG7.symm))))
      have hG7t : (I40 rm 7).toInt = G7.toInt := congrArg Int32.toInt hG7
      have hG8 : I40 rm 8 = G8 := (Eq.trans (hf40.get krm rfl) (Eq.trans (hf37.get krm rfl) (Eq.trans (hf6.get krm rfl) (Eq.trans (hf3.get krm rfl) eG8.symm))))
      have hG8t : (I40 rm 8).toInt = G8.toInt := congrArg Int32.toInt hG8
      have hG9 : I40 rm 9 = G9 := (Eq.trans (hf40.get krm rfl) (Eq.trans (hf37.get krm rfl) (Eq.trans (hf6.get krm rfl) (Eq.trans (hf3.get krm rfl) eG9.symm))))
      have hG9t : (I40 rm 9).toInt = G9.toInt := congrArg Int32.toInt hG9
      have hG10 : I40 rm 10 = N1 := (Eq.trans (hf40.get krm rfl) (Eq.trans (hf37.get krm rfl) eN1.symm))
      have hG10t : (I40 rm 10).toInt = N1.toInt := congrArg Int32.toInt hG10
      exact r_vret hC hQ hlk hr (by decide) (by decide) dX10_readPeg_54 ⟨_, _, rfl, rfl, ⟨hs40, hF40, hFJ40, (by first | exact Or.inl ⟨(upD (upD NOF 23 (NOF 0 5).toNat NOvnm) 0 5 (NOF 0 5 + 1)), _, by unfold sPeg; rw [pif_f (show ¬ 5 ≤ D 0 5 by omega), hsp6, bnd_er], (nx_le hp).2, tk3, ⟨by unfold SM; simp [upD, adN]; omega, nm3.cg (by simp [upD]) (by intro j; simp [upD]), pg3.peg (by omega) (by omega) (sFresh_new hsp) (NOnw.trans (by omega))⟩, fq3⟩ | exact Or.inr ⟨kf6, qf6, by unfold sPeg; rw [pif_f (show ¬ 5 ≤ D 0 5 by omega), hsp6, bnd_er], by omega, by omega, by omega⟩), (by exact om40)⟩⟩
  · refine r_aload_n hC dX10_readPeg_12 0 rfl ?_
    refine r_iconst hC (v := (0)) dX10_readPeg_13 (by decide) (by decide) (fun x44_ e44 t44 => ?_)
    refine r_aload_n hC dX10_readPeg_14 0 rfl ?_
    refine r_getr hC 4 (ci := 10) rfl u10_in (by decide) mT_4_239 dX10_readPeg_15 ka0 rfl rfl hbr ?_
    refine r_getiN hC 3 (ci := 9) rfl u9_in (by decide) nF_3 dX10_readPeg_18 krm rfl rfl (fun x45_ e45 => ?_)
    have r45 := hs3.rng krm rfl e45
    have f45 : x45_.toInt = (I3 rm 3).toInt := by rw [e45]
    have w45 : x45_ = x1_ := by rw [e45]; exact (Eq.trans (hf3.get krm rfl) e1.symm)
    have wt45 : x45_.toInt = x1_.toInt := by rw [w45]
    have q10 : I3 rm 10 = G10 := (Eq.trans (hf3.get krm rfl) eG10.symm)
    have q10t : (I3 rm 10).toInt = G10.toInt := congrArg Int32.toInt q10
    refine r_callV hC (As := [.int x44_, .int x45_]) (rest := []) (ci := 10) (e_X10_readFresh g (xL X) K len I3 J3 R hs3 a0 ka0 x44_ x45_ rm hbr krm (by omega)) mT_6_23 mT_1_10 mT_6_20 mT_6_22 mP_60 okX10_readFresh ⟨by decide, by decide⟩ rfl (by show kO (K a0) = _; rw [ka0]; rfl) rfl rfl (Nat.le_of_ble_eq_true rfl) ⟨by decide, by decide⟩ dX10_readPeg_21 (aV2 (F := fun st M => P g X 3 24 [(0, .ref a0)] st _ _ M) (M := (K, len, I3, J3, R)) fun I46 J46 h46 => ?_)
    obtain ⟨hs46, hf46, hfj46, k46_0, k46_1, k46_2, k46_3⟩ := h46
    show P g X 3 24 [(0, .ref a0)] [] _ _ (K, len, I46, J46, R)
    have hF46 : Fr K [(10, 3), (10, 10), (11, 8), (11, 9), (11, 10), (11, 11), (11, 12), (11, 13), (70, 999), (71, 999), (83, 999), (84, 999)] I I46 := hF3.trans hf46 rfl rfl
    have hFJ46 : Fr K [(11, 14), (82, 999)] J J46 := hFJ3.trans hfj46 rfl rfl
    have om46 := om3.tr k46_3
    obtain ⟨N1, eN1⟩ : ∃ z : Int32, z = I46 rm 10 := ⟨_, rfl⟩
    have fN1 : N1.toInt = (I46 rm 10).toInt := by rw [eN1]
    have rN1 := hs46.rng krm rfl eN1
    refine r_aload_n hC dX10_readPeg_24 0 rfl ?_
    refine r_ldcS hC (i := 41) (by decide) rfl rfl dX10_readPeg_25 ?_
    refine r_iconst hC (v := (0)) dX10_readPeg_27 (by decide) (by decide) (fun x47_ e47 t47 => ?_)
    refine r_sipush hC (v := (999)) dX10_readPeg_28 (by decide) (by decide) (fun x48_ e48 t48 => ?_)
    refine r_callV hC (As := [.ref (g.2.2.1 41), .int x47_, .int x48_]) (rest := []) (ci := 10) (e_X10_readPart g (xL X) K len I46 J46 R hs46 a0 ka0 41 (by decide) x47_ x48_ (by omega)) mT_6_1 mT_1_10 mT_5_238 mT_6_0 mP_56 okX10_readPart ⟨by decide, by decide⟩ rfl (by show kO (K a0) = _; rw [ka0]; rfl) rfl rfl (Nat.le_of_ble_eq_true rfl) ⟨by decide, by decide⟩ dX10_readPeg_31 (aI2 (F := fun st M => P g X 3 34 [(0, .ref a0)] st _ _ M) (M := (K, len, I46, J46, R)) fun x49_ I49 J49 h49 => ?_)
    obtain ⟨hs49, hf49, hfj49, k49_0, k49_1, k49_2⟩ := h49
    show P g X 3 34 [(0, .ref a0)] [.int x49_] _ _ (K, len, I49, J49, R)
    have hF49 : Fr K [(10, 3), (10, 10), (11, 8), (11, 9), (11, 10), (11, 11), (11, 12), (11, 13), (70, 999), (71, 999), (83, 999), (84, 999)] I I49 := hF46.trans hf49 rfl rfl
    have hFJ49 : Fr K [(11, 14), (82, 999)] J J49 := hFJ46.trans hfj49 rfl rfl
    have om49 := om46.mv hf49 rfl
    refine r_istore_n hC (lv' := [(1, .int x49_), (0, .ref a0)]) dX10_readPeg_34 (by decide) rfl ?_
    refine r_aload_n hC dX10_readPeg_35 1 rfl ?_
    refine r_ldcS hC (i := 42) (by decide) rfl rfl dX10_readPeg_36 ?_
    refine r_iconst hC (v := (0)) dX10_readPeg_38 (by decide) (by decide) (fun x50_ e50 t50 => ?_)
    refine r_sipush hC (v := (999)) dX10_readPeg_39 (by decide) (by decide) (fun x51_ e51 t51 => ?_)
    refine r_callV hC (As := [.ref (g.2.2.1 42), .int x50_, .int x51_]) (rest := []) (ci := 10) (e_X10_readPart g (xL X) K len I49 J49 R hs49 a0 ka0 42 (by decide) x50_ x51_ (by omega)) mT_6_1 mT_1_10 mT_5_238 mT_6_0 mP_56 okX10_readPart ⟨by decide, by decide⟩ rfl (by show kO (K a0) = _; rw [ka0]; rfl) rfl rfl (Nat.le_of_ble_eq_true rfl) ⟨by decide, by decide⟩ dX10_readPeg_42 (aI2 (F := fun st M => P g X 3 45 [(1, .int x49_), (0, .ref a0)] st _ _ M) (M := (K, len, I49, J49, R)) fun x52_ I52 J52 h52 => ?_)
    obtain ⟨hs52, hf52, hfj52, k52_0, k52_1, k52_2⟩ := h52
    show P g X 3 45 [(1, .int x49_), (0, .ref a0)] [.int x52_] _ _ (K, len, I52, J52, R)
    have hF52 : Fr K [(10, 3), (10, 10), (11, 8), (11, 9), (11, 10), (11, 11), (11, 12), (11, 13), (70, 999), (71, 999), (83, 999), (84, 999)] I I52 := hF49.trans hf52 rfl rfl
    have hFJ52 : Fr K [(11, 14), (82, 999)] J J52 := hFJ49.trans hfj52 rfl rfl
    have om52 := om49.mv hf52 rfl
    refine r_istore_n hC (lv' := [(2, .int x52_), (1, .int x49_), (0, .ref a0)]) dX10_readPeg_45 (by decide) rfl ?_
    refine r_aload_n hC dX10_readPeg_46 2 rfl ?_
    refine r_geti hC 9 (ci := 10) rfl u10_in (by decide) mT_5_4 dX10_readPeg_47 ka0 rfl rfl (fun x53_ e53 => ?_)
    have f53 : x53_.toInt = (I52 a0 9).toInt := by rw [e53]
    refine r_iconst hC (v := (5)) dX10_readPeg_50 (by decide) (by decide) (fun x54_ e54 t54 => ?_)
    refine r_icmp_ne hC (tgt := 55) dX10_readPeg_51 (by decide) (fun c55 => ?_) (fun c55 => ?_)
    · exfalso; omega
    have hG0 : I52 rm 0 = G0 := (Eq.trans (hf52.get krm rfl) (Eq.trans (hf49.get krm rfl) (Eq.trans (hf46.get krm rfl) (Eq.trans (hf3.get krm rfl) eG0.symm))))
    have hG0t : (I52 rm 0).toInt = G0.toInt := congrArg Int32.toInt hG0
    have hG1 : I52 rm 1 = G1 := (Eq.trans (hf52.get krm rfl) (Eq.trans (hf49.get krm rfl) (Eq.trans (hf46.get krm rfl) (Eq.trans (hf3.get krm rfl) eG1.symm))))
    have hG1t : (I52 rm 1).toInt = G1.toInt := congrArg Int32.toInt hG1
    have hG2 : I52 rm 2 = G2 := (Eq.trans (hf52.get krm rfl) (Eq.trans (hf49.get krm rfl) (Eq.trans (hf46.get krm rfl) (Eq.trans (hf3.get krm rfl) eG2.symm))))
    have hG2t : (I52 rm 2).toInt = G2.toInt := congrArg Int32.toInt hG2
    have hG3 : I52 rm 3 = x45_ := (Eq.trans (hf52.get krm rfl) (Eq.trans (hf49.get krm rfl) (Eq.trans (hf46.get krm rfl) e45.symm)))
    have hG3t : (I52 rm 3).toInt = x45_.toInt := congrArg Int32.toInt hG3
    have hG4 : I52 rm 4 = G4 := (Eq.trans (hf52.get krm rfl) (Eq.trans (hf49.get krm rfl) (Eq.trans (hf46.get krm rfl) (Eq.trans (hf3.get krm rfl) eG4.symm))))
    have hG4t : (I52 rm 4).toInt = G4.toInt := congrArg Int32.toInt hG4
    have hG5 : I52 rm 5 = G5 := (Eq.trans (hf52.get krm rfl) (Eq.trans (hf49.get krm rfl) (Eq.trans (hf46.get krm rfl) (Eq.trans (hf3.get krm rfl) eG5.symm))))
    have hG5t : (I52 rm 5).toInt = G5.toInt := congrArg Int32.toInt hG5
    have hG6 : I52 rm 6 = G6 := (Eq.trans (hf52.get krm rfl) (Eq.trans (hf49.get krm rfl) (Eq.trans (hf46.get krm rfl) (Eq.trans (hf3.get krm rfl) eG6.symm))))
    have hG6t : (I52 rm 6).toInt = G6.toInt := congrArg Int32.toInt hG6
    have hG7 : I52 rm 7 = G7 := (Eq.trans (hf52.get krm rfl) (Eq.trans (hf49.get krm rfl) (Eq.trans (hf46.get krm rfl) (Eq.trans (hf3.get krm rfl) eG7.symm))))
    have hG7t : (I52 rm 7).toInt = G7.toInt := congrArg Int32.toInt hG7
    have hG8 : I52 rm 8 = G8 := (Eq.trans (hf52.get krm rfl) (Eq.trans (hf49.get krm rfl) (Eq.trans (hf46.get krm rfl) (Eq.trans (hf3.get krm rfl) eG8.symm))))
    have hG8t : (I52 rm 8).toInt = G8.toInt := congrArg Int32.toInt hG8
    have hG9 : I52 rm 9 = G9 := (Eq.trans (hf52.get krm rfl) (Eq.trans (hf49.get krm rfl) (Eq.trans (hf46.get krm rfl) (Eq.trans (hf3.get krm rfl) eG9.symm))))
    have hG9t : (I52 rm 9).toInt = G9.toInt := congrArg Int32.toInt hG9
    have hG10 : I52 rm 10 = N1 := (Eq.trans (hf52.get krm rfl) (Eq.trans (hf49.get krm rfl) eN1.symm))
    have hG10t : (I52 rm 10).toInt = N1.toInt := congrArg Int32.toInt hG10
    exact r_vret hC hQ hlk hr (by decide) (by decide) dX10_readPeg_54 ⟨_, _, rfl, rfl, ⟨hs52, hF52, hFJ52, (by first | exact Or.inl ⟨(upD (upD NOF 23 (NOF 0 5).toNat NOvnm) 0 5 (NOF 0 5 + 1)), _, by unfold sPeg; rw [pif_t (show 5 ≤ D 0 5 by omega)], hp, tkm, ⟨by unfold SM; simp [upD, adN]; omega, nm3.cg (by simp [upD]) (by intro j; simp [upD]), pg3.peg (by omega) (by omega) (sFresh_new hsp) (NOnw.trans (by omega))⟩, rfl⟩ | exact Or.inr ⟨5, (pl B n p), by unfold sPeg; rw [pif_t (show 5 ≤ D 0 5 by omega)], by omega, by omega, by omega⟩), (by exact om52)⟩⟩
set_option maxHeartbeats 4000000 in
set_option maxRecDepth 100000 in
theorem f_X10_readFrom (g : GG) (l : Launch) (K len : Nat → Nat) (I : Nat → Nat → Int32) (J : Nat → Nat → Int64) (R : Nat → Nat → Option Nat) (hs : Sf K len I R) (a0 : Nat) (ka0 : K a0 = 11) (rm : Nat) (hbr : R a0 4 = some rm) (krm : K rm = 10) (mt : Nat) (hmt : R a0 5 = some mt) (kmt : K mt = 49) (nmt : len mt = 900) (B : Nat → Int) (n : Nat) (hB : BT B n mt I) (hBr : ∀ j : Nat, j < n → -128 ≤ B j ∧ B j ≤ 127) (hn : n ≤ 900) (p : Nat) (hp : p ≤ n) (tkm : TkM B n a0 p I J) (nr : Nat) (hnr : R rm 25 = some nr) (knr : K nr = 82) (lnr : len nr = 19) (ns : Nat) (hns : R rm 26 = some ns) (kns : K ns = 83) (lns : len ns = 19) (D : DD) (hD : DI D) (sm : SM D rm I) (nm : NmM D nr J) (pg : PgI D ns I) (p0 : kd B n p = 1) : Ct g l yX10_readFrom cX10_readFrom 3 (Option.none : Option Jvm.ClassFile.FieldType) rmX10_readFrom [.ref a0] (K, len, I, J, R) (pV2 (K, len, I, J, R) (fun I' J' => Sf K len I' R ∧ Fr K [(10, 4), (10, 5), (11, 8), (11, 9), (11, 10), (11, 11), (11, 12), (11, 13), (72, 999), (73, 999)] I I' ∧ Fr K [(11, 14)] J J' ∧ ((∃ (D' : DD) (p' : Nat), sFrom B n p D = .ok (D', p') ∧ p' ≤ n ∧ TkM B n a0 p' I' J' ∧ RpM D' rm nr ns I' J' ∧ I' a0 12 = I a0 12) ∨ (∃ (kf : Int) (qf : Nat), sFrom B n p D = .error (kf, qf) ∧ (I' a0 9).toInt = 5 ∧ (I' a0 12).toInt = kf ∧ (I' a0 13).toInt = qf)) ∧ (OM K rm I I'))) := by
  refine Ct_intro (by decide +kernel) (Nat.le_of_ble_eq_true rfl) (fun X hC hL hKK hNm hr hlk hQ => ?_)
  subst hL
  have hC : Cx g X cX10_readFrom "HillTapModel" 3 rmX10_readFrom := hC
  show P g X 3 0 [(0, .ref a0)] [] 0 0 (K, len, I, J, R)
  have hF : Fr K [(10, 4), (10, 5), (11, 8), (11, 9), (11, 10), (11, 11), (11, 12), (11, 13), (72, 999), (73, 999)] I I := Fr.refl
  have hFJ : Fr K [(11, 14)] J J := Fr.refl
  have ek1 := tkm.e1
  have ek2 := tkm.e2
  have ek3 := tkm.e3
  have ek4 := tkm.e4
  have ek10 := tkm.2.1
  have ek11 := tkm.2.2.2.2.2
  obtain ⟨hD0, ⟨hD1, hD2⟩, ⟨hD3, hD4⟩, ⟨hD5, hD6⟩, ⟨hD7, hD8⟩, ⟨hD9, hD10⟩, hD11, hD12⟩ := id hD
  obtain ⟨sm0, sm3, sm4, sm5, sm6, sm7, sm8, sm9, sm10⟩ := id sm
  obtain ⟨G0, eG0⟩ : ∃ z : Int32, z = I rm 0 := ⟨_, rfl⟩
  have fG0 : G0.toInt = (I rm 0).toInt := by rw [eG0]
  obtain ⟨G1, eG1⟩ : ∃ z : Int32, z = I rm 1 := ⟨_, rfl⟩
  have fG1 : G1.toInt = (I rm 1).toInt := by rw [eG1]
  obtain ⟨G2, eG2⟩ : ∃ z : Int32, z = I rm 2 := ⟨_, rfl⟩
  have fG2 : G2.toInt = (I rm 2).toInt := by rw [eG2]
  obtain ⟨G3, eG3⟩ : ∃ z : Int32, z = I rm 3 := ⟨_, rfl⟩
  have fG3 : G3.toInt = (I rm 3).toInt := by rw [eG3]
  have rG3 := hs.rng krm rfl eG3
  obtain ⟨G4, eG4⟩ : ∃ z : Int32, z = I rm 4 := ⟨_, rfl⟩
  have fG4 : G4.toInt = (I rm 4).toInt := by rw [eG4]
  have rG4 := hs.rng krm rfl eG4
  obtain ⟨G5, eG5⟩ : ∃ z : Int32, z = I rm 5 := ⟨_, rfl⟩
  have fG5 : G5.toInt = (I rm 5).toInt := by rw [eG5]
  have rG5 := hs.rng krm rfl eG5
  obtain ⟨G6, eG6⟩ : ∃ z : Int32, z = I rm 6 := ⟨_, rfl⟩
  have fG6 : G6.toInt = (I rm 6).toInt := by rw [eG6]
  have rG6 := hs.rng krm rfl eG6
  obtain ⟨G7, eG7⟩ : ∃ z : Int32, z = I rm 7 := ⟨_, rfl⟩
  have fG7 : G7.toInt = (I rm 7).toInt := by rw [eG7]
  have rG7 := hs.rng krm rfl eG7
  obtain ⟨G8, eG8⟩ : ∃ z : Int32, z = I rm 8 := ⟨_, rfl⟩
  have fG8 : G8.toInt = (I rm 8).toInt := by rw [eG8]
  have rG8 := hs.rng krm rfl eG8
  obtain ⟨G9, eG9⟩ : ∃ z : Int32, z = I rm 9 := ⟨_, rfl⟩
  have fG9 : G9.toInt = (I rm 9).toInt := by rw [eG9]
  have rG9 := hs.rng krm rfl eG9
  obtain ⟨G10, eG10⟩ : ∃ z : Int32, z = I rm 10 := ⟨_, rfl⟩
  have fG10 : G10.toInt = (I rm 10).toInt := by rw [eG10]
  have rG10 := hs.rng krm rfl eG10
  have om : OM K rm I I := OM.rf
  refine r_aload_n hC dX10_readFrom_0 0 rfl ?_
  refine r_aload_n hC dX10_readFrom_1 0 rfl ?_
  refine r_getr hC 4 (ci := 10) rfl u10_in (by decide) mT_4_239 dX10_readFrom_2 ka0 rfl rfl hbr ?_
  refine r_getiN hC 4 (ci := 9) rfl u9_in (by decide) nF_4 dX10_readFrom_5 krm rfl rfl (fun x1_ e1 => ?_)
  have r1 := hs.rng krm rfl e1
  have f1 : x1_.toInt = (I rm 4).toInt := by rw [e1]
  have w1 : x1_ = G4 := by rw [e1]; exact eG4.symm
  have wt1 : x1_.toInt = G4.toInt := by rw [w1]
  refine r_bipush hC (v := (8)) dX10_readFrom_8 (by decide) (by decide) (fun x2_ e2 t2 => ?_)
  refine r_callV hC (As := [.int x1_, .int x2_]) (rest := []) (ci := 10) (f_X10_begins g (xL X) K len I J R hs a0 ka0 x1_ x2_ mt hmt kmt nmt B n (hB.mv9 hF kmt (fun _ => rfl)) hBr hn p hp tkm (by omega)) mT_6_19 mT_1_10 mT_6_16 mT_6_18 mP_59 okX10_begins ⟨by decide, by decide⟩ rfl (by show kO (K a0) = _; rw [ka0]; rfl) rfl rfl (Nat.le_of_ble_eq_true rfl) ⟨by decide, by decide⟩ dX10_readFrom_10 (aV2 (F := fun st M => P g X 3 13 [(0, .ref a0)] st _ _ M) (M := (K, len, I, J, R)) fun I3 J3 h3 => ?_)
  obtain ⟨hs3, hf3, hfj3, k3_0⟩ := h3
  show P g X 3 13 [(0, .ref a0)] [] _ _ (K, len, I3, J3, R)
  have hF3 : Fr K [(10, 4), (10, 5), (11, 8), (11, 9), (11, 10), (11, 11), (11, 12), (11, 13), (72, 999), (73, 999)] I I3 := hF.trans hf3 rfl rfl
  have hFJ3 : Fr K [(11, 14)] J J3 := hFJ.trans hfj3 rfl rfl
  have pg3 := pg.mv hf3 kns (fun _ => rfl)
  have nm3 := nm.mv hfj3 knr (fun _ => rfl)
  have om3 := om.mv hf3 rfl
  rcases k3_0 with ⟨hr3, tk3, fl3⟩ | ⟨hr3, hf03, hf13, hf23⟩
  · have fq3 : I3 a0 12 = I a0 12 := fl3.trans rfl
    refine r_aload_n hC dX10_readFrom_13 0 rfl ?_
    refine r_iconst hC (v := (0)) dX10_readFrom_14 (by decide) (by decide) (fun x4_ e4 t4 => ?_)
    refine r_bipush hC (v := (59)) dX10_readFrom_15 (by decide) (by decide) (fun x5_ e5 t5 => ?_)
    refine r_callV hC (As := [.int x4_, .int x5_]) (rest := []) (ci := 10) (f_X10_readWhole g (xL X) K len I3 J3 R hs3 a0 ka0 x4_ x5_ mt hmt kmt nmt B n (hB.mv9 hF3 kmt (fun _ => rfl)) hBr hn (nx B n p) (nx_le hp).2 tk3) mT_6_5 mT_1_10 mT_6_2 mT_6_4 mP_57 okX10_readWhole ⟨by decide, by decide⟩ rfl (by show kO (K a0) = _; rw [ka0]; rfl) rfl rfl (Nat.le_of_ble_eq_true rfl) ⟨by decide, by decide⟩ dX10_readFrom_17 (aI2 (F := fun st M => P g X 3 20 [(0, .ref a0)] st _ _ M) (M := (K, len, I3, J3, R)) fun x6_ I6 J6 h6 => ?_)
    obtain ⟨hs6, hf6, hfj6, k6_0⟩ := h6
    show P g X 3 20 [(0, .ref a0)] [.int x6_] _ _ (K, len, I6, J6, R)
    have hF6 : Fr K [(10, 4), (10, 5), (11, 8), (11, 9), (11, 10), (11, 11), (11, 12), (11, 13), (72, 999), (73, 999)] I I6 := hF3.trans hf6 rfl rfl
    have hFJ6 : Fr K [(11, 14)] J J6 := hFJ3.trans hfj6 rfl rfl
    have pg6 := pg3.mv hf6 kns (fun _ => rfl)
    have nm6 := nm3.mv hfj6 knr (fun _ => rfl)
    have om6 := om3.mv hf6 rfl
    rcases k6_0 with ⟨v6, p6, hsp6, hp6, tk6, hv6, fl6⟩ | ⟨kf6, qf6, hsp6, hf06, hf16, hf26⟩
    · have fq6 : I6 a0 12 = I a0 12 := fl6.trans fq3
      rw [show x4_.toInt = 0 by omega, show x5_.toInt = 59 by omega] at hsp6
      have rg6 := (sWhole_go (nx_le hp).2 hsp6).2
      refine r_istore_n hC (lv' := [(1, .int x6_), (0, .ref a0)]) dX10_readFrom_20 (by decide) rfl ?_
      refine r_aload_n hC dX10_readFrom_21 1 rfl ?_
      refine r_ldcS hC (i := 43) (by decide) rfl rfl dX10_readFrom_22 ?_
      refine r_iconst hC (v := (0)) dX10_readFrom_24 (by decide) (by decide) (fun x7_ e7 t7 => ?_)
      refine r_sipush hC (v := (999)) dX10_readFrom_25 (by decide) (by decide) (fun x8_ e8 t8 => ?_)
      refine r_callV hC (As := [.ref (g.2.2.1 43), .int x7_, .int x8_]) (rest := []) (ci := 10) (f_X10_readPart g (xL X) K len I6 J6 R hs6 a0 ka0 43 (by decide) x7_ x8_ mt hmt kmt nmt B n (hB.mv9 hF6 kmt (fun _ => rfl)) hBr hn p6 hp6 tk6 (by first | assumption | decide)) mT_6_1 mT_1_10 mT_5_238 mT_6_0 mP_56 okX10_readPart ⟨by decide, by decide⟩ rfl (by show kO (K a0) = _; rw [ka0]; rfl) rfl rfl (Nat.le_of_ble_eq_true rfl) ⟨by decide, by decide⟩ dX10_readFrom_28 (aI2 (F := fun st M => P g X 3 31 [(1, .int x6_), (0, .ref a0)] st _ _ M) (M := (K, len, I6, J6, R)) fun x9_ I9 J9 h9 => ?_)
      obtain ⟨hs9, hf9, hfj9, k9_0⟩ := h9
      show P g X 3 31 [(1, .int x6_), (0, .ref a0)] [.int x9_] _ _ (K, len, I9, J9, R)
      have hF9 : Fr K [(10, 4), (10, 5), (11, 8), (11, 9), (11, 10), (11, 11), (11, 12), (11, 13), (72, 999), (73, 999)] I I9 := hF6.trans hf9 rfl rfl
      have hFJ9 : Fr K [(11, 14)] J J9 := hFJ6.trans hfj9 rfl rfl
      have pg9 := pg6.mv hf9 kns (fun _ => rfl)
      have nm9 := nm6.mv hfj9 knr (fun _ => rfl)
      have om9 := om6.mv hf9 rfl
      rcases k9_0 with ⟨v9, p9, hsp9, hp9, tk9, hv9, fl9⟩ | ⟨kf9, qf9, hsp9, hf09, hf19, hf29⟩
      · have fq9 : I9 a0 12 = I a0 12 := fl9.trans fq6
        rw [show x7_.toInt = 0 by omega, show x8_.toInt = 999 by omega] at hsp9
        have rg9 := (sNum_go hp6 hsp9).2
        refine r_istore_n hC (lv' := [(2, .int x9_), (1, .int x6_), (0, .ref a0)]) dX10_readFrom_31 (by decide) rfl ?_
        refine r_aload_n hC dX10_readFrom_32 2 rfl ?_
        have n5_33 := tk9.e5
        refine r_geti hC 9 (ci := 10) rfl u10_in (by decide) mT_5_4 dX10_readFrom_33 ka0 rfl rfl (fun x10_ e10 => ?_)
        have f10 : x10_.toInt = (I9 a0 9).toInt := by rw [e10]
        refine r_iconst hC (v := (5)) dX10_readFrom_36 (by decide) (by decide) (fun x11_ e11 t11 => ?_)
        refine r_icmp_ne hC (tgt := 41) dX10_readFrom_37 (by decide) (fun c12 => ?_) (fun c12 => ?_)
        rotate_left
        · exfalso; omega
        refine r_aload_n hC dX10_readFrom_41 2 rfl ?_
        refine r_getr hC 4 (ci := 10) rfl u10_in (by decide) mT_4_239 dX10_readFrom_42 ka0 rfl rfl hbr ?_
        obtain ⟨a13_, hb13, hk13, hn13⟩ := hs9.row krm 13 72 16 (by decide) (by decide)
        refine r_getrN hC 13 (ci := 9) rfl u9_in (by decide) nF_13 dX10_readFrom_45 krm rfl rfl hb13 ?_
        refine r_aload_n hC dX10_readFrom_48 2 rfl ?_
        refine r_getr hC 4 (ci := 10) rfl u10_in (by decide) mT_4_239 dX10_readFrom_49 ka0 rfl rfl hbr ?_
        refine r_getiN hC 4 (ci := 9) rfl u9_in (by decide) nF_4 dX10_readFrom_52 krm rfl rfl (fun x14_ e14 => ?_)
        have r14 := hs9.rng krm rfl e14
        have f14 : x14_.toInt = (I9 rm 4).toInt := by rw [e14]
        have w14 : x14_ = x1_ := by rw [e14]; exact (Eq.trans (hf9.get krm rfl) (Eq.trans (hf6.get krm rfl) (Eq.trans (hf3.get krm rfl) e1.symm)))
        have wt14 : x14_.toInt = x1_.toInt := by rw [w14]
        refine r_iload_n hC dX10_readFrom_55 1 rfl ?_
        refine x_iastore hC hk13 hn13 (by decide) rfl rfl dX10_readFrom_56 (by omega) (by omega) (fun I15 eI15 => ?_)
        have hs15 := hs9.put0 eI15 hk13 (rng_arr (by decide) _) rfl (xF_arr (by decide) _) (by decide)
        have hF15 := hF9.put eI15 hk13 (inS_arr rfl _)
        have tkp15 := tk9.put eI15 hk13 ka0 (by decide)
        have fp15 : I15 a0 12 = I a0 12 := (up2_kk eI15 hk13 ka0 (by decide)).trans fq9
        have pg15 := pg9.put eI15 hk13 kns (by decide)
        have om15 := om9.put eI15 hk13 (by first | exact Or.inr rfl | exact Or.inl (by decide) | exact Or.inl (by omega))
        refine r_aload_n hC dX10_readFrom_57 2 rfl ?_
        refine r_getr hC 4 (ci := 10) rfl u10_in (by decide) mT_4_239 dX10_readFrom_58 ka0 rfl rfl hbr ?_
        obtain ⟨a16_, hb16, hk16, hn16⟩ := hs15.row krm 14 73 16 (by decide) (by decide)
        refine r_getrN hC 14 (ci := 9) rfl u9_in (by decide) nF_14 dX10_readFrom_61 krm rfl rfl hb16 ?_
        refine r_aload_n hC dX10_readFrom_64 2 rfl ?_
        refine r_getr hC 4 (ci := 10) rfl u10_in (by decide) mT_4_239 dX10_readFrom_65 ka0 rfl rfl hbr ?_
        refine r_getiN hC 4 (ci := 9) rfl u9_in (by decide) nF_4 dX10_readFrom_68 krm rfl rfl (fun x17_ e17 => ?_)
        have r17 := hs15.rng krm rfl e17
        have f17 : x17_.toInt = (I15 rm 4).toInt := by rw [e17]
        have w17 : x17_ = x14_ := by rw [e17]; exact (Eq.trans (up2_kk eI15 hk13 krm (by decide)) e14.symm)
        have wt17 : x17_.toInt = x14_.toInt := by rw [w17]
        refine r_iload_n hC dX10_readFrom_71 0 rfl ?_
        refine x_iastore hC hk16 hn16 (by decide) rfl rfl dX10_readFrom_72 (by omega) (by omega) (fun I18 eI18 => ?_)
        have hs18 := hs15.put0 eI18 hk16 (rng_arr (by decide) _) rfl (xF_arr (by decide) _) (by decide)
        have hF18 := hF15.put eI18 hk16 (inS_arr rfl _)
        have tkp18 := tkp15.put eI18 hk16 ka0 (by decide)
        have fp18 : I18 a0 12 = I a0 12 := (up2_kk eI18 hk16 ka0 (by decide)).trans fp15
        have pg18 := pg15.put eI18 hk16 kns (by decide)
        have om18 := om15.put eI18 hk16 (by first | exact Or.inr rfl | exact Or.inl (by decide) | exact Or.inl (by omega))
        refine r_aload_n hC dX10_readFrom_73 2 rfl ?_
        refine r_getr hC 4 (ci := 10) rfl u10_in (by decide) mT_4_239 dX10_readFrom_74 ka0 rfl rfl hbr ?_
        refine r_dup hC dX10_readFrom_77 rfl ?_
        refine r_getiN hC 4 (ci := 9) rfl u9_in (by decide) nF_4 dX10_readFrom_78 krm rfl rfl (fun x19_ e19 => ?_)
        have r19 := hs18.rng krm rfl e19
        have f19 : x19_.toInt = (I18 rm 4).toInt := by rw [e19]
        have w19 : x19_ = x17_ := by rw [e19]; exact (Eq.trans (up2_kk eI18 hk16 krm (by decide)) e17.symm)
        have wt19 : x19_.toInt = x17_.toInt := by rw [w19]
        refine r_iconst hC (v := (1)) dX10_readFrom_81 (by decide) (by decide) (fun x20_ e20 t20 => ?_)
        refine r_iadd hC dX10_readFrom_82 (fun x21_ e21 => ?_)
        try have t21 : x21_.toInt = x19_.toInt + x20_.toInt := by rw [e21]; exact ti_add (by omega) (by omega)
        refine r_putiN hC 4 (ci := 9) rfl u9_in tyX9_ok nmX9 (by decide) nF_4 rfl rfl rfl dX10_readFrom_83 krm rfl rfl (fun I22 eI22 => ?_)
        have hs22 : Sf K len I22 R := hs18.putA4 eI22 krm (by omega) (by omega) (by have h9 := hs18.told krm; omega)
        have hF22 := hF18.put eI22 krm rfl
        have tkp22 := tkp18.put eI22 krm ka0 (by decide)
        have fp22 : I22 a0 12 = I a0 12 := (up2_kk eI22 krm ka0 (by decide)).trans fp18
        have pg22 := pg18.put eI22 krm kns (by decide)
        have om22 := om18.put eI22 krm (by first | exact Or.inr rfl | exact Or.inl (by decide) | exact Or.inl (by omega))
        refine r_aload_n hC dX10_readFrom_86 2 rfl ?_
        refine r_getr hC 4 (ci := 10) rfl u10_in (by decide) mT_4_239 dX10_readFrom_87 ka0 rfl rfl hbr ?_
        refine r_aload_n hC dX10_readFrom_90 2 rfl ?_
        refine r_getr hC 4 (ci := 10) rfl u10_in (by decide) mT_4_239 dX10_readFrom_91 ka0 rfl rfl hbr ?_
        refine r_getiN hC 4 (ci := 9) rfl u9_in (by decide) nF_4 dX10_readFrom_94 krm rfl rfl (fun x23_ e23 => ?_)
        have r23 := hs22.rng krm rfl e23
        have f23 : x23_.toInt = (I22 rm 4).toInt := by rw [e23]
        have w23 : x23_ = x21_ := by rw [e23]; exact (by rw [eI22]; exact up2_self _ _ _ _)
        have wt23 : x23_.toInt = x21_.toInt := by rw [w23]
        refine r_putiN hC 5 (ci := 9) rfl u9_in tyX9_ok nmX9 (by decide) nF_5 rfl rfl rfl dX10_readFrom_97 krm rfl rfl (fun I24 eI24 => ?_)
        have hs24 : Sf K len I24 R := hs22.putA5 eI24 krm (by omega) (by omega) (by omega)
        have hF24 := hF22.put eI24 krm rfl
        have tkp24 := tkp22.put eI24 krm ka0 (by decide)
        have fp24 : I24 a0 12 = I a0 12 := (up2_kk eI24 krm ka0 (by decide)).trans fp22
        have pg24 := pg22.put eI24 krm kns (by decide)
        have om24 := om22.put eI24 krm (by first | exact Or.inr rfl | exact Or.inl (by decide) | exact Or.inl (by omega))
        have hG0 : I24 rm 0 = G0 := (Eq.trans (up2_at (Or.inr (by decide)) eI24) (Eq.trans (up2_at (Or.inr (by decide)) eI22) (Eq.trans (up2_kk eI18 hk16 krm (by decide)) (Eq.trans (up2_kk eI15 hk13 krm (by decide)) (Eq.trans (hf9.get krm rfl) (Eq.trans (hf6.get krm rfl) (Eq.trans (hf3.get krm rfl) eG0.symm)))))))
        have hG0t : (I24 rm 0).toInt = G0.toInt := congrArg Int32.toInt hG0
        have hG1 : I24 rm 1 = G1 := (Eq.trans (up2_at (Or.inr (by decide)) eI24) (Eq.trans (up2_at (Or.inr (by decide)) eI22) (Eq.trans (up2_kk eI18 hk16 krm (by decide)) (Eq.trans (up2_kk eI15 hk13 krm (by decide)) (Eq.trans (hf9.get krm rfl) (Eq.trans (hf6.get krm rfl) (Eq.trans (hf3.get krm rfl) eG1.symm)))))))
        have hG1t : (I24 rm 1).toInt = G1.toInt := congrArg Int32.toInt hG1
        have hG2 : I24 rm 2 = G2 := (Eq.trans (up2_at (Or.inr (by decide)) eI24) (Eq.trans (up2_at (Or.inr (by decide)) eI22) (Eq.trans (up2_kk eI18 hk16 krm (by decide)) (Eq.trans (up2_kk eI15 hk13 krm (by decide)) (Eq.trans (hf9.get krm rfl) (Eq.trans (hf6.get krm rfl) (Eq.trans (hf3.get krm rfl) eG2.symm)))))))
        have hG2t : (I24 rm 2).toInt = G2.toInt := congrArg Int32.toInt hG2
        have hG3 : I24 rm 3 = G3 := (Eq.trans (up2_at (Or.inr (by decide)) eI24) (Eq.trans (up2_at (Or.inr (by decide)) eI22) (Eq.trans (up2_kk eI18 hk16 krm (by decide)) (Eq.trans (up2_kk eI15 hk13 krm (by decide)) (Eq.trans (hf9.get krm rfl) (Eq.trans (hf6.get krm rfl) (Eq.trans (hf3.get krm rfl) eG3.symm)))))))
        have hG3t : (I24 rm 3).toInt = G3.toInt := congrArg Int32.toInt hG3
        have hG4 : I24 rm 4 = x23_ := (Eq.trans (up2_at (Or.inr (by decide)) eI24) e23.symm)
        have hG4t : (I24 rm 4).toInt = x23_.toInt := congrArg Int32.toInt hG4
        have hG5 : I24 rm 5 = x23_ := (by rw [eI24]; exact up2_self _ _ _ _)
        have hG5t : (I24 rm 5).toInt = x23_.toInt := congrArg Int32.toInt hG5
        have hG6 : I24 rm 6 = G6 := (Eq.trans (up2_at (Or.inr (by decide)) eI24) (Eq.trans (up2_at (Or.inr (by decide)) eI22) (Eq.trans (up2_kk eI18 hk16 krm (by decide)) (Eq.trans (up2_kk eI15 hk13 krm (by decide)) (Eq.trans (hf9.get krm rfl) (Eq.trans (hf6.get krm rfl) (Eq.trans (hf3.get krm rfl) eG6.symm)))))))
        have hG6t : (I24 rm 6).toInt = G6.toInt := congrArg Int32.toInt hG6
        have hG7 : I24 rm 7 = G7 := (Eq.trans (up2_at (Or.inr (by decide)) eI24) (Eq.trans (up2_at (Or.inr (by decide)) eI22) (Eq.trans (up2_kk eI18 hk16 krm (by decide)) (Eq.trans (up2_kk eI15 hk13 krm (by decide)) (Eq.trans (hf9.get krm rfl) (Eq.trans (hf6.get krm rfl) (Eq.trans (hf3.get krm rfl) eG7.symm)))))))
        have hG7t : (I24 rm 7).toInt = G7.toInt := congrArg Int32.toInt hG7
        have hG8 : I24 rm 8 = G8 := (Eq.trans (up2_at (Or.inr (by decide)) eI24) (Eq.trans (up2_at (Or.inr (by decide)) eI22) (Eq.trans (up2_kk eI18 hk16 krm (by decide)) (Eq.trans (up2_kk eI15 hk13 krm (by decide)) (Eq.trans (hf9.get krm rfl) (Eq.trans (hf6.get krm rfl) (Eq.trans (hf3.get krm rfl) eG8.symm)))))))
        have hG8t : (I24 rm 8).toInt = G8.toInt := congrArg Int32.toInt hG8
        have hG9 : I24 rm 9 = G9 := (Eq.trans (up2_at (Or.inr (by decide)) eI24) (Eq.trans (up2_at (Or.inr (by decide)) eI22) (Eq.trans (up2_kk eI18 hk16 krm (by decide)) (Eq.trans (up2_kk eI15 hk13 krm (by decide)) (Eq.trans (hf9.get krm rfl) (Eq.trans (hf6.get krm rfl) (Eq.trans (hf3.get krm rfl) eG9.symm)))))))
        have hG9t : (I24 rm 9).toInt = G9.toInt := congrArg Int32.toInt hG9
        have hG10 : I24 rm 10 = G10 := (Eq.trans (up2_at (Or.inr (by decide)) eI24) (Eq.trans (up2_at (Or.inr (by decide)) eI22) (Eq.trans (up2_kk eI18 hk16 krm (by decide)) (Eq.trans (up2_kk eI15 hk13 krm (by decide)) (Eq.trans (hf9.get krm rfl) (Eq.trans (hf6.get krm rfl) (Eq.trans (hf3.get krm rfl) eG10.symm)))))))
        have hG10t : (I24 rm 10).toInt = G10.toInt := congrArg Int32.toInt hG10
        exact r_vret hC hQ hlk hr (by decide) (by decide) dX10_readFrom_100 ⟨_, _, rfl, rfl, ⟨hs24, hF24, hFJ9, (by first | exact Or.inl ⟨(upD D 0 4 (D 0 4 + 1)), _, by unfold sFrom; rw [pif_f (show ¬ 8 ≤ D 0 4 by omega), hsp6, bnd_ok, hsp9, bnd_ok], hp9, tkp24, ⟨by unfold SM; simp [upD, adN]; omega, nm9.cg (by simp [upD]) (by intro j; simp [upD]), pg24.cg (by simp [upD]) (by intro j; simp [upD]) (by simp [upD]) (by intro j; simp [upD])⟩, fp24⟩ | exact Or.inr ⟨NOekf, NOeqf, by unfold sFrom; rw [pif_f (show ¬ 8 ≤ D 0 4 by omega), hsp6, bnd_ok, hsp9, bnd_ok], by omega, by omega, by omega⟩), (by exact om24)⟩⟩
      · rw [show x7_.toInt = 0 by omega, show x8_.toInt = 999 by omega] at hsp9
        refine r_istore_n hC (lv' := [(2, .int x9_), (1, .int x6_), (0, .ref a0)]) dX10_readFrom_31 (by decide) rfl ?_
        refine r_aload_n hC dX10_readFrom_32 2 rfl ?_
        refine r_geti hC 9 (ci := 10) rfl u10_in (by decide) mT_5_4 dX10_readFrom_33 ka0 rfl rfl (fun x25_ e25 => ?_)
        have f25 : x25_.toInt = (I9 a0 9).toInt := by rw [e25]
        refine r_iconst hC (v := (5)) dX10_readFrom_36 (by decide) (by decide) (fun x26_ e26 t26 => ?_)
        refine r_icmp_ne hC (tgt := 41) dX10_readFrom_37 (by decide) (fun c27 => ?_) (fun c27 => ?_)
        · exfalso; omega
        have hG0 : I9 rm 0 = G0 := (Eq.trans (hf9.get krm rfl) (Eq.trans (hf6.get krm rfl) (Eq.trans (hf3.get krm rfl) eG0.symm)))
        have hG0t : (I9 rm 0).toInt = G0.toInt := congrArg Int32.toInt hG0
        have hG1 : I9 rm 1 = G1 := (Eq.trans (hf9.get krm rfl) (Eq.trans (hf6.get krm rfl) (Eq.trans (hf3.get krm rfl) eG1.symm)))
        have hG1t : (I9 rm 1).toInt = G1.toInt := congrArg Int32.toInt hG1
        have hG2 : I9 rm 2 = G2 := (Eq.trans (hf9.get krm rfl) (Eq.trans (hf6.get krm rfl) (Eq.trans (hf3.get krm rfl) eG2.symm)))
        have hG2t : (I9 rm 2).toInt = G2.toInt := congrArg Int32.toInt hG2
        have hG3 : I9 rm 3 = G3 := (Eq.trans (hf9.get krm rfl) (Eq.trans (hf6.get krm rfl) (Eq.trans (hf3.get krm rfl) eG3.symm)))
        have hG3t : (I9 rm 3).toInt = G3.toInt := congrArg Int32.toInt hG3
        have hG4 : I9 rm 4 = x1_ := (Eq.trans (hf9.get krm rfl) (Eq.trans (hf6.get krm rfl) (Eq.trans (hf3.get krm rfl) e1.symm)))
        have hG4t : (I9 rm 4).toInt = x1_.toInt := congrArg Int32.toInt hG4
        have hG5 : I9 rm 5 = G5 := (Eq.trans (hf9.get krm rfl) (Eq.trans (hf6.get krm rfl) (Eq.trans (hf3.get krm rfl) eG5.symm)))
        have hG5t : (I9 rm 5).toInt = G5.toInt := congrArg Int32.toInt hG5
        have hG6 : I9 rm 6 = G6 := (Eq.trans (hf9.get krm rfl) (Eq.trans (hf6.get krm rfl) (Eq.trans (hf3.get krm rfl) eG6.symm)))
        have hG6t : (I9 rm 6).toInt = G6.toInt := congrArg Int32.toInt hG6
        have hG7 : I9 rm 7 = G7 := (Eq.trans (hf9.get krm rfl) (Eq.trans (hf6.get krm rfl) (Eq.trans (hf3.get krm rfl) eG7.symm)))
        have hG7t : (I9 rm 7).toInt = G7.toInt := congrArg Int32.toInt hG7
        have hG8 : I9 rm 8 = G8 := (Eq.trans (hf9.get krm rfl) (Eq.trans (hf6.get krm rfl) (Eq.trans (hf3.get krm rfl) eG8.symm)))
        have hG8t : (I9 rm 8).toInt = G8.toInt := congrArg Int32.toInt hG8
        have hG9 : I9 rm 9 = G9 := (Eq.trans (hf9.get krm rfl) (Eq.trans (hf6.get krm rfl) (Eq.trans (hf3.get krm rfl) eG9.symm)))
        have hG9t : (I9 rm 9).toInt = G9.toInt := congrArg Int32.toInt hG9
        have hG10 : I9 rm 10 = G10 := (Eq.trans (hf9.get krm rfl) (Eq.trans (hf6.get krm rfl) (Eq.trans (hf3.get krm rfl) eG10.symm)))
        have hG10t : (I9 rm 10).toInt = G10.toInt := congrArg Int32.toInt hG10
        exact r_vret hC hQ hlk hr (by decide) (by decide) dX10_readFrom_40 ⟨_, _, rfl, rfl, ⟨hs9, hF9, hFJ9, (by first | exact Or.inl ⟨(upD D 0 4 (D 0 4 + 1)), _, by unfold sFrom; rw [pif_f (show ¬ 8 ≤ D 0 4 by omega), hsp6, bnd_ok, hsp9, bnd_er], hp6, tk6, ⟨by unfold SM; simp [upD, adN]; omega, nm9.cg (by simp [upD]) (by intro j; simp [upD]), pg9.cg (by simp [upD]) (by intro j; simp [upD]) (by simp [upD]) (by intro j; simp [upD])⟩, fq6⟩ | exact Or.inr ⟨kf9, qf9, by unfold sFrom; rw [pif_f (show ¬ 8 ≤ D 0 4 by omega), hsp6, bnd_ok, hsp9, bnd_er], by omega, by omega, by omega⟩), (by exact om9)⟩⟩
    · rw [show x4_.toInt = 0 by omega, show x5_.toInt = 59 by omega] at hsp6
      refine r_istore_n hC (lv' := [(1, .int x6_), (0, .ref a0)]) dX10_readFrom_20 (by decide) rfl ?_
      refine r_aload_n hC dX10_readFrom_21 1 rfl ?_
      refine r_ldcS hC (i := 43) (by decide) rfl rfl dX10_readFrom_22 ?_
      refine r_iconst hC (v := (0)) dX10_readFrom_24 (by decide) (by decide) (fun x28_ e28 t28 => ?_)
      refine r_sipush hC (v := (999)) dX10_readFrom_25 (by decide) (by decide) (fun x29_ e29 t29 => ?_)
      refine r_callV hC (As := [.ref (g.2.2.1 43), .int x28_, .int x29_]) (rest := []) (ci := 10) (e_X10_readPart g (xL X) K len I6 J6 R hs6 a0 ka0 43 (by decide) x28_ x29_ (by omega)) mT_6_1 mT_1_10 mT_5_238 mT_6_0 mP_56 okX10_readPart ⟨by decide, by decide⟩ rfl (by show kO (K a0) = _; rw [ka0]; rfl) rfl rfl (Nat.le_of_ble_eq_true rfl) ⟨by decide, by decide⟩ dX10_readFrom_28 (aI2 (F := fun st M => P g X 3 31 [(1, .int x6_), (0, .ref a0)] st _ _ M) (M := (K, len, I6, J6, R)) fun x30_ I30 J30 h30 => ?_)
      obtain ⟨hs30, hf30, hfj30, k30_0, k30_1, k30_2⟩ := h30
      show P g X 3 31 [(1, .int x6_), (0, .ref a0)] [.int x30_] _ _ (K, len, I30, J30, R)
      have hF30 : Fr K [(10, 4), (10, 5), (11, 8), (11, 9), (11, 10), (11, 11), (11, 12), (11, 13), (72, 999), (73, 999)] I I30 := hF6.trans hf30 rfl rfl
      have hFJ30 : Fr K [(11, 14)] J J30 := hFJ6.trans hfj30 rfl rfl
      have om30 := om6.mv hf30 rfl
      refine r_istore_n hC (lv' := [(2, .int x30_), (1, .int x6_), (0, .ref a0)]) dX10_readFrom_31 (by decide) rfl ?_
      refine r_aload_n hC dX10_readFrom_32 2 rfl ?_
      refine r_geti hC 9 (ci := 10) rfl u10_in (by decide) mT_5_4 dX10_readFrom_33 ka0 rfl rfl (fun x31_ e31 => ?_)
      have f31 : x31_.toInt = (I30 a0 9).toInt := by rw [e31]
      refine r_iconst hC (v := (5)) dX10_readFrom_36 (by decide) (by decide) (fun x32_ e32 t32 => ?_)
      refine r_icmp_ne hC (tgt := 41) dX10_readFrom_37 (by decide) (fun c33 => ?_) (fun c33 => ?_)
      · exfalso; omega
      have hG0 : I30 rm 0 = G0 := (Eq.trans (hf30.get krm rfl) (Eq.trans (hf6.get krm rfl) (Eq.trans (hf3.get krm rfl) eG0.symm)))
      have hG0t : (I30 rm 0).toInt = G0.toInt := congrArg Int32.toInt hG0
      have hG1 : I30 rm 1 = G1 := (Eq.trans (hf30.get krm rfl) (Eq.trans (hf6.get krm rfl) (Eq.trans (hf3.get krm rfl) eG1.symm)))
      have hG1t : (I30 rm 1).toInt = G1.toInt := congrArg Int32.toInt hG1
      have hG2 : I30 rm 2 = G2 := (Eq.trans (hf30.get krm rfl) (Eq.trans (hf6.get krm rfl) (Eq.trans (hf3.get krm rfl) eG2.symm)))
      have hG2t : (I30 rm 2).toInt = G2.toInt := congrArg Int32.toInt hG2
      have hG3 : I30 rm 3 = G3 := (Eq.trans (hf30.get krm rfl) (Eq.trans (hf6.get krm rfl) (Eq.trans (hf3.get krm rfl) eG3.symm)))
      have hG3t : (I30 rm 3).toInt = G3.toInt := congrArg Int32.toInt hG3
      have hG4 : I30 rm 4 = x1_ := (Eq.trans (hf30.get krm rfl) (Eq.trans (hf6.get krm rfl) (Eq.trans (hf3.get krm rfl) e1.symm)))
      have hG4t : (I30 rm 4).toInt = x1_.toInt := congrArg Int32.toInt hG4
      have hG5 : I30 rm 5 = G5 := (Eq.trans (hf30.get krm rfl) (Eq.trans (hf6.get krm rfl) (Eq.trans (hf3.get krm rfl) eG5.symm)))
      have hG5t : (I30 rm 5).toInt = G5.toInt := congrArg Int32.toInt hG5
      have hG6 : I30 rm 6 = G6 := (Eq.trans (hf30.get krm rfl) (Eq.trans (hf6.get krm rfl) (Eq.trans (hf3.get krm rfl) eG6.symm)))
      have hG6t : (I30 rm 6).toInt = G6.toInt := congrArg Int32.toInt hG6
      have hG7 : I30 rm 7 = G7 := (Eq.trans (hf30.get krm rfl) (Eq.trans (hf6.get krm rfl) (Eq.trans (hf3.get krm rfl) eG7.symm)))
      have hG7t : (I30 rm 7).toInt = G7.toInt := congrArg Int32.toInt hG7
      have hG8 : I30 rm 8 = G8 := (Eq.trans (hf30.get krm rfl) (Eq.trans (hf6.get krm rfl) (Eq.trans (hf3.get krm rfl) eG8.symm)))
      have hG8t : (I30 rm 8).toInt = G8.toInt := congrArg Int32.toInt hG8
      have hG9 : I30 rm 9 = G9 := (Eq.trans (hf30.get krm rfl) (Eq.trans (hf6.get krm rfl) (Eq.trans (hf3.get krm rfl) eG9.symm)))
      have hG9t : (I30 rm 9).toInt = G9.toInt := congrArg Int32.toInt hG9
      have hG10 : I30 rm 10 = G10 := (Eq.trans (hf30.get krm rfl) (Eq.trans (hf6.get krm rfl) (Eq.trans (hf3.get krm rfl) eG10.symm)))
      have hG10t : (I30 rm 10).toInt = G10.toInt := congrArg Int32.toInt hG10
      exact r_vret hC hQ hlk hr (by decide) (by decide) dX10_readFrom_40 ⟨_, _, rfl, rfl, ⟨hs30, hF30, hFJ30, (by first | exact Or.inl ⟨(upD D 0 4 (D 0 4 + 1)), _, by unfold sFrom; rw [pif_f (show ¬ 8 ≤ D 0 4 by omega), hsp6, bnd_er], (nx_le hp).2, tk3, ⟨by unfold SM; simp [upD, adN]; omega, nm6.cg (by simp [upD]) (by intro j; simp [upD]), pg6.cg (by simp [upD]) (by intro j; simp [upD]) (by simp [upD]) (by intro j; simp [upD])⟩, fq3⟩ | exact Or.inr ⟨kf6, qf6, by unfold sFrom; rw [pif_f (show ¬ 8 ≤ D 0 4 by omega), hsp6, bnd_er], by omega, by omega, by omega⟩), (by exact om30)⟩⟩
  · refine r_aload_n hC dX10_readFrom_13 0 rfl ?_
    refine r_iconst hC (v := (0)) dX10_readFrom_14 (by decide) (by decide) (fun x34_ e34 t34 => ?_)
    refine r_bipush hC (v := (59)) dX10_readFrom_15 (by decide) (by decide) (fun x35_ e35 t35 => ?_)
    refine r_callV hC (As := [.int x34_, .int x35_]) (rest := []) (ci := 10) (e_X10_readWhole g (xL X) K len I3 J3 R hs3 a0 ka0 x34_ x35_ (by omega)) mT_6_5 mT_1_10 mT_6_2 mT_6_4 mP_57 okX10_readWhole ⟨by decide, by decide⟩ rfl (by show kO (K a0) = _; rw [ka0]; rfl) rfl rfl (Nat.le_of_ble_eq_true rfl) ⟨by decide, by decide⟩ dX10_readFrom_17 (aI2 (F := fun st M => P g X 3 20 [(0, .ref a0)] st _ _ M) (M := (K, len, I3, J3, R)) fun x36_ I36 J36 h36 => ?_)
    obtain ⟨hs36, hf36, hfj36, k36_0, k36_1, k36_2⟩ := h36
    show P g X 3 20 [(0, .ref a0)] [.int x36_] _ _ (K, len, I36, J36, R)
    have hF36 : Fr K [(10, 4), (10, 5), (11, 8), (11, 9), (11, 10), (11, 11), (11, 12), (11, 13), (72, 999), (73, 999)] I I36 := hF3.trans hf36 rfl rfl
    have hFJ36 : Fr K [(11, 14)] J J36 := hFJ3.trans hfj36 rfl rfl
    have om36 := om3.mv hf36 rfl
    refine r_istore_n hC (lv' := [(1, .int x36_), (0, .ref a0)]) dX10_readFrom_20 (by decide) rfl ?_
    refine r_aload_n hC dX10_readFrom_21 1 rfl ?_
    refine r_ldcS hC (i := 43) (by decide) rfl rfl dX10_readFrom_22 ?_
    refine r_iconst hC (v := (0)) dX10_readFrom_24 (by decide) (by decide) (fun x37_ e37 t37 => ?_)
    refine r_sipush hC (v := (999)) dX10_readFrom_25 (by decide) (by decide) (fun x38_ e38 t38 => ?_)
    refine r_callV hC (As := [.ref (g.2.2.1 43), .int x37_, .int x38_]) (rest := []) (ci := 10) (e_X10_readPart g (xL X) K len I36 J36 R hs36 a0 ka0 43 (by decide) x37_ x38_ (by omega)) mT_6_1 mT_1_10 mT_5_238 mT_6_0 mP_56 okX10_readPart ⟨by decide, by decide⟩ rfl (by show kO (K a0) = _; rw [ka0]; rfl) rfl rfl (Nat.le_of_ble_eq_true rfl) ⟨by decide, by decide⟩ dX10_readFrom_28 (aI2 (F := fun st M => P g X 3 31 [(1, .int x36_), (0, .ref a0)] st _ _ M) (M := (K, len, I36, J36, R)) fun x39_ I39 J39 h39 => ?_)
    obtain ⟨hs39, hf39, hfj39, k39_0, k39_1, k39_2⟩ := h39
    show P g X 3 31 [(1, .int x36_), (0, .ref a0)] [.int x39_] _ _ (K, len, I39, J39, R)
    have hF39 : Fr K [(10, 4), (10, 5), (11, 8), (11, 9), (11, 10), (11, 11), (11, 12), (11, 13), (72, 999), (73, 999)] I I39 := hF36.trans hf39 rfl rfl
    have hFJ39 : Fr K [(11, 14)] J J39 := hFJ36.trans hfj39 rfl rfl
    have om39 := om36.mv hf39 rfl
    refine r_istore_n hC (lv' := [(2, .int x39_), (1, .int x36_), (0, .ref a0)]) dX10_readFrom_31 (by decide) rfl ?_
    refine r_aload_n hC dX10_readFrom_32 2 rfl ?_
    refine r_geti hC 9 (ci := 10) rfl u10_in (by decide) mT_5_4 dX10_readFrom_33 ka0 rfl rfl (fun x40_ e40 => ?_)
    have f40 : x40_.toInt = (I39 a0 9).toInt := by rw [e40]
    refine r_iconst hC (v := (5)) dX10_readFrom_36 (by decide) (by decide) (fun x41_ e41 t41 => ?_)
    refine r_icmp_ne hC (tgt := 41) dX10_readFrom_37 (by decide) (fun c42 => ?_) (fun c42 => ?_)
    · exfalso; omega
    have hG0 : I39 rm 0 = G0 := (Eq.trans (hf39.get krm rfl) (Eq.trans (hf36.get krm rfl) (Eq.trans (hf3.get krm rfl) eG0.symm)))
    have hG0t : (I39 rm 0).toInt = G0.toInt := congrArg Int32.toInt hG0
    have hG1 : I39 rm 1 = G1 := (Eq.trans (hf39.get krm rfl) (Eq.trans (hf36.get krm rfl) (Eq.trans (hf3.get krm rfl) eG1.symm)))
    have hG1t : (I39 rm 1).toInt = G1.toInt := congrArg Int32.toInt hG1
    have hG2 : I39 rm 2 = G2 := (Eq.trans (hf39.get krm rfl) (Eq.trans (hf36.get krm rfl) (Eq.trans (hf3.get krm rfl) eG2.symm)))
    have hG2t : (I39 rm 2).toInt = G2.toInt := congrArg Int32.toInt hG2
    have hG3 : I39 rm 3 = G3 := (Eq.trans (hf39.get krm rfl) (Eq.trans (hf36.get krm rfl) (Eq.trans (hf3.get krm rfl) eG3.symm)))
    have hG3t : (I39 rm 3).toInt = G3.toInt := congrArg Int32.toInt hG3
    have hG4 : I39 rm 4 = x1_ := (Eq.trans (hf39.get krm rfl) (Eq.trans (hf36.get krm rfl) (Eq.trans (hf3.get krm rfl) e1.symm)))
    have hG4t : (I39 rm 4).toInt = x1_.toInt := congrArg Int32.toInt hG4
    have hG5 : I39 rm 5 = G5 := (Eq.trans (hf39.get krm rfl) (Eq.trans (hf36.get krm rfl) (Eq.trans (hf3.get krm rfl) eG5.symm)))
    have hG5t : (I39 rm 5).toInt = G5.toInt := congrArg Int32.toInt hG5
    have hG6 : I39 rm 6 = G6 := (Eq.trans (hf39.get krm rfl) (Eq.trans (hf36.get krm rfl) (Eq.trans (hf3.get krm rfl) eG6.symm)))
    have hG6t : (I39 rm 6).toInt = G6.toInt := congrArg Int32.toInt hG6
    have hG7 : I39 rm 7 = G7 := (Eq.trans (hf39.get krm rfl) (Eq.trans (hf36.get krm rfl) (Eq.trans (hf3.get krm rfl) eG7.symm)))
    have hG7t : (I39 rm 7).toInt = G7.toInt := congrArg Int32.toInt hG7
    have hG8 : I39 rm 8 = G8 := (Eq.trans (hf39.get krm rfl) (Eq.trans (hf36.get krm rfl) (Eq.trans (hf3.get krm rfl) eG8.symm)))
    have hG8t : (I39 rm 8).toInt = G8.toInt := congrArg Int32.toInt hG8
    have hG9 : I39 rm 9 = G9 := (Eq.trans (hf39.get krm rfl) (Eq.trans (hf36.get krm rfl) (Eq.trans (hf3.get krm rfl) eG9.symm)))
    have hG9t : (I39 rm 9).toInt = G9.toInt := congrArg Int32.toInt hG9
    have hG10 : I39 rm 10 = G10 := (Eq.trans (hf39.get krm rfl) (Eq.trans (hf36.get krm rfl) (Eq.trans (hf3.get krm rfl) eG10.symm)))
    have hG10t : (I39 rm 10).toInt = G10.toInt := congrArg Int32.toInt hG10
    exact r_vret hC hQ hlk hr (by decide) (by decide) dX10_readFrom_40 ⟨_, _, rfl, rfl, ⟨hs39, hF39, hFJ39, (by first | exact Or.inl ⟨(upD D 0 4 (D 0 4 + 1)), _, by unfold sFrom; rw [pif_t (show 8 ≤ D 0 4 by omega)], hp, tkm, ⟨by unfold SM; simp [upD, adN]; omega, nm3.cg (by simp [upD]) (by intro j; simp [upD]), pg3.cg (by simp [upD]) (by intro j; simp [upD]) (by simp [upD]) (by intro j; simp [upD])⟩, rfl⟩ | exact Or.inr ⟨5, (pl B n p), by unfold sFrom; rw [pif_t (show 8 ≤ D 0 4 by omega)], by omega, by omega, by omega⟩), (by exact om39)⟩⟩
set_option maxHeartbeats 4000000 in
set_option maxRecDepth 100000 in
theorem f_X10_readRain (g : GG) (l : Launch) (K len : Nat → Nat) (I : Nat → Nat → Int32) (J : Nat → Nat → Int64) (R : Nat → Nat → Option Nat) (hs : Sf K len I R) (a0 : Nat) (ka0 : K a0 = 11) (rm : Nat) (hbr : R a0 4 = some rm) (krm : K rm = 10) (mt : Nat) (hmt : R a0 5 = some mt) (kmt : K mt = 49) (nmt : len mt = 900) (B : Nat → Int) (n : Nat) (hB : BT B n mt I) (hBr : ∀ j : Nat, j < n → -128 ≤ B j ∧ B j ≤ 127) (hn : n ≤ 900) (p : Nat) (hp : p ≤ n) (tkm : TkM B n a0 p I J) (nr : Nat) (hnr : R rm 25 = some nr) (knr : K nr = 82) (lnr : len nr = 19) (ns : Nat) (hns : R rm 26 = some ns) (kns : K ns = 83) (lns : len ns = 19) (D : DD) (hD : DI D) (sm : SM D rm I) (nm : NmM D nr J) (pg : PgI D ns I) (p0 : kd B n p = 1) : Ct g l yX10_readRain cX10_readRain 3 (Option.none : Option Jvm.ClassFile.FieldType) rmX10_readRain [.ref a0] (K, len, I, J, R) (pV2 (K, len, I, J, R) (fun I' J' => Sf K len I' R ∧ Fr K [(10, 6), (11, 8), (11, 9), (11, 10), (11, 11), (11, 12), (11, 13), (74, 999)] I I' ∧ Fr K [(11, 14)] J J' ∧ ((∃ (D' : DD) (p' : Nat), sRain B n p D = .ok (D', p') ∧ p' ≤ n ∧ TkM B n a0 p' I' J' ∧ RpM D' rm nr ns I' J' ∧ I' a0 12 = I a0 12) ∨ (∃ (kf : Int) (qf : Nat), sRain B n p D = .error (kf, qf) ∧ (I' a0 9).toInt = 5 ∧ (I' a0 12).toInt = kf ∧ (I' a0 13).toInt = qf)) ∧ (OM K rm I I'))) := by
  refine Ct_intro (by decide +kernel) (Nat.le_of_ble_eq_true rfl) (fun X hC hL hKK hNm hr hlk hQ => ?_)
  subst hL
  have hC : Cx g X cX10_readRain "HillTapModel" 3 rmX10_readRain := hC
  show P g X 3 0 [(0, .ref a0)] [] 0 0 (K, len, I, J, R)
  have hF : Fr K [(10, 6), (11, 8), (11, 9), (11, 10), (11, 11), (11, 12), (11, 13), (74, 999)] I I := Fr.refl
  have hFJ : Fr K [(11, 14)] J J := Fr.refl
  have ek1 := tkm.e1
  have ek2 := tkm.e2
  have ek3 := tkm.e3
  have ek4 := tkm.e4
  have ek10 := tkm.2.1
  have ek11 := tkm.2.2.2.2.2
  obtain ⟨hD0, ⟨hD1, hD2⟩, ⟨hD3, hD4⟩, ⟨hD5, hD6⟩, ⟨hD7, hD8⟩, ⟨hD9, hD10⟩, hD11, hD12⟩ := id hD
  obtain ⟨sm0, sm3, sm4, sm5, sm6, sm7, sm8, sm9, sm10⟩ := id sm
  obtain ⟨G0, eG0⟩ : ∃ z : Int32, z = I rm 0 := ⟨_, rfl⟩
  have fG0 : G0.toInt = (I rm 0).toInt := by rw [eG0]
  obtain ⟨G1, eG1⟩ : ∃ z : Int32, z = I rm 1 := ⟨_, rfl⟩
  have fG1 : G1.toInt = (I rm 1).toInt := by rw [eG1]
  obtain ⟨G2, eG2⟩ : ∃ z : Int32, z = I rm 2 := ⟨_, rfl⟩
  have fG2 : G2.toInt = (I rm 2).toInt := by rw [eG2]
  obtain ⟨G3, eG3⟩ : ∃ z : Int32, z = I rm 3 := ⟨_, rfl⟩
  have fG3 : G3.toInt = (I rm 3).toInt := by rw [eG3]
  have rG3 := hs.rng krm rfl eG3
  obtain ⟨G4, eG4⟩ : ∃ z : Int32, z = I rm 4 := ⟨_, rfl⟩
  have fG4 : G4.toInt = (I rm 4).toInt := by rw [eG4]
  have rG4 := hs.rng krm rfl eG4
  obtain ⟨G5, eG5⟩ : ∃ z : Int32, z = I rm 5 := ⟨_, rfl⟩
  have fG5 : G5.toInt = (I rm 5).toInt := by rw [eG5]
  have rG5 := hs.rng krm rfl eG5
  obtain ⟨G6, eG6⟩ : ∃ z : Int32, z = I rm 6 := ⟨_, rfl⟩
  have fG6 : G6.toInt = (I rm 6).toInt := by rw [eG6]
  have rG6 := hs.rng krm rfl eG6
  obtain ⟨G7, eG7⟩ : ∃ z : Int32, z = I rm 7 := ⟨_, rfl⟩
  have fG7 : G7.toInt = (I rm 7).toInt := by rw [eG7]
  have rG7 := hs.rng krm rfl eG7
  obtain ⟨G8, eG8⟩ : ∃ z : Int32, z = I rm 8 := ⟨_, rfl⟩
  have fG8 : G8.toInt = (I rm 8).toInt := by rw [eG8]
  have rG8 := hs.rng krm rfl eG8
  obtain ⟨G9, eG9⟩ : ∃ z : Int32, z = I rm 9 := ⟨_, rfl⟩
  have fG9 : G9.toInt = (I rm 9).toInt := by rw [eG9]
  have rG9 := hs.rng krm rfl eG9
  obtain ⟨G10, eG10⟩ : ∃ z : Int32, z = I rm 10 := ⟨_, rfl⟩
  have fG10 : G10.toInt = (I rm 10).toInt := by rw [eG10]
  have rG10 := hs.rng krm rfl eG10
  have om : OM K rm I I := OM.rf
  refine r_aload_n hC dX10_readRain_0 0 rfl ?_
  refine r_aload_n hC dX10_readRain_1 0 rfl ?_
  refine r_getr hC 4 (ci := 10) rfl u10_in (by decide) mT_4_239 dX10_readRain_2 ka0 rfl rfl hbr ?_
  refine r_getiN hC 6 (ci := 9) rfl u9_in (by decide) nF_6 dX10_readRain_5 krm rfl rfl (fun x1_ e1 => ?_)
  have r1 := hs.rng krm rfl e1
  have f1 : x1_.toInt = (I rm 6).toInt := by rw [e1]
  have w1 : x1_ = G6 := by rw [e1]; exact eG6.symm
  have wt1 : x1_.toInt = G6.toInt := by rw [w1]
  refine r_bipush hC (v := (6)) dX10_readRain_8 (by decide) (by decide) (fun x2_ e2 t2 => ?_)
  refine r_callV hC (As := [.int x1_, .int x2_]) (rest := []) (ci := 10) (f_X10_begins g (xL X) K len I J R hs a0 ka0 x1_ x2_ mt hmt kmt nmt B n (hB.mv9 hF kmt (fun _ => rfl)) hBr hn p hp tkm (by omega)) mT_6_19 mT_1_10 mT_6_16 mT_6_18 mP_59 okX10_begins ⟨by decide, by decide⟩ rfl (by show kO (K a0) = _; rw [ka0]; rfl) rfl rfl (Nat.le_of_ble_eq_true rfl) ⟨by decide, by decide⟩ dX10_readRain_10 (aV2 (F := fun st M => P g X 3 13 [(0, .ref a0)] st _ _ M) (M := (K, len, I, J, R)) fun I3 J3 h3 => ?_)
  obtain ⟨hs3, hf3, hfj3, k3_0⟩ := h3
  show P g X 3 13 [(0, .ref a0)] [] _ _ (K, len, I3, J3, R)
  have hF3 : Fr K [(10, 6), (11, 8), (11, 9), (11, 10), (11, 11), (11, 12), (11, 13), (74, 999)] I I3 := hF.trans hf3 rfl rfl
  have hFJ3 : Fr K [(11, 14)] J J3 := hFJ.trans hfj3 rfl rfl
  have pg3 := pg.mv hf3 kns (fun _ => rfl)
  have nm3 := nm.mv hfj3 knr (fun _ => rfl)
  have om3 := om.mv hf3 rfl
  rcases k3_0 with ⟨hr3, tk3, fl3⟩ | ⟨hr3, hf03, hf13, hf23⟩
  · have fq3 : I3 a0 12 = I a0 12 := fl3.trans rfl
    refine r_aload_n hC dX10_readRain_13 0 rfl ?_
    refine r_iconst hC (v := (0)) dX10_readRain_14 (by decide) (by decide) (fun x4_ e4 t4 => ?_)
    refine r_bipush hC (v := (59)) dX10_readRain_15 (by decide) (by decide) (fun x5_ e5 t5 => ?_)
    refine r_callV hC (As := [.int x4_, .int x5_]) (rest := []) (ci := 10) (f_X10_readWhole g (xL X) K len I3 J3 R hs3 a0 ka0 x4_ x5_ mt hmt kmt nmt B n (hB.mv9 hF3 kmt (fun _ => rfl)) hBr hn (nx B n p) (nx_le hp).2 tk3) mT_6_5 mT_1_10 mT_6_2 mT_6_4 mP_57 okX10_readWhole ⟨by decide, by decide⟩ rfl (by show kO (K a0) = _; rw [ka0]; rfl) rfl rfl (Nat.le_of_ble_eq_true rfl) ⟨by decide, by decide⟩ dX10_readRain_17 (aI2 (F := fun st M => P g X 3 20 [(0, .ref a0)] st _ _ M) (M := (K, len, I3, J3, R)) fun x6_ I6 J6 h6 => ?_)
    obtain ⟨hs6, hf6, hfj6, k6_0⟩ := h6
    show P g X 3 20 [(0, .ref a0)] [.int x6_] _ _ (K, len, I6, J6, R)
    have hF6 : Fr K [(10, 6), (11, 8), (11, 9), (11, 10), (11, 11), (11, 12), (11, 13), (74, 999)] I I6 := hF3.trans hf6 rfl rfl
    have hFJ6 : Fr K [(11, 14)] J J6 := hFJ3.trans hfj6 rfl rfl
    have pg6 := pg3.mv hf6 kns (fun _ => rfl)
    have nm6 := nm3.mv hfj6 knr (fun _ => rfl)
    have om6 := om3.mv hf6 rfl
    rcases k6_0 with ⟨v6, p6, hsp6, hp6, tk6, hv6, fl6⟩ | ⟨kf6, qf6, hsp6, hf06, hf16, hf26⟩
    · have fq6 : I6 a0 12 = I a0 12 := fl6.trans fq3
      rw [show x4_.toInt = 0 by omega, show x5_.toInt = 59 by omega] at hsp6
      have rg6 := (sWhole_go (nx_le hp).2 hsp6).2
      refine r_istore_n hC (lv' := [(1, .int x6_), (0, .ref a0)]) dX10_readRain_20 (by decide) rfl ?_
      refine r_aload_n hC dX10_readRain_21 1 rfl ?_
      refine r_ldcS hC (i := 44) (by decide) rfl rfl dX10_readRain_22 ?_
      refine r_iconst hC (v := (1)) dX10_readRain_24 (by decide) (by decide) (fun x7_ e7 t7 => ?_)
      refine r_bipush hC (v := (99)) dX10_readRain_25 (by decide) (by decide) (fun x8_ e8 t8 => ?_)
      refine r_callV hC (As := [.ref (g.2.2.1 44), .int x7_, .int x8_]) (rest := []) (ci := 10) (f_X10_readPart g (xL X) K len I6 J6 R hs6 a0 ka0 44 (by decide) x7_ x8_ mt hmt kmt nmt B n (hB.mv9 hF6 kmt (fun _ => rfl)) hBr hn p6 hp6 tk6 (by first | assumption | decide)) mT_6_1 mT_1_10 mT_5_238 mT_6_0 mP_56 okX10_readPart ⟨by decide, by decide⟩ rfl (by show kO (K a0) = _; rw [ka0]; rfl) rfl rfl (Nat.le_of_ble_eq_true rfl) ⟨by decide, by decide⟩ dX10_readRain_27 (aI2 (F := fun st M => P g X 3 30 [(1, .int x6_), (0, .ref a0)] st _ _ M) (M := (K, len, I6, J6, R)) fun x9_ I9 J9 h9 => ?_)
      obtain ⟨hs9, hf9, hfj9, k9_0⟩ := h9
      show P g X 3 30 [(1, .int x6_), (0, .ref a0)] [.int x9_] _ _ (K, len, I9, J9, R)
      have hF9 : Fr K [(10, 6), (11, 8), (11, 9), (11, 10), (11, 11), (11, 12), (11, 13), (74, 999)] I I9 := hF6.trans hf9 rfl rfl
      have hFJ9 : Fr K [(11, 14)] J J9 := hFJ6.trans hfj9 rfl rfl
      have pg9 := pg6.mv hf9 kns (fun _ => rfl)
      have nm9 := nm6.mv hfj9 knr (fun _ => rfl)
      have om9 := om6.mv hf9 rfl
      rcases k9_0 with ⟨v9, p9, hsp9, hp9, tk9, hv9, fl9⟩ | ⟨kf9, qf9, hsp9, hf09, hf19, hf29⟩
      · have fq9 : I9 a0 12 = I a0 12 := fl9.trans fq6
        rw [show x7_.toInt = 1 by omega, show x8_.toInt = 99 by omega] at hsp9
        have rg9 := (sNum_go hp6 hsp9).2
        refine r_istore_n hC (lv' := [(2, .int x9_), (1, .int x6_), (0, .ref a0)]) dX10_readRain_30 (by decide) rfl ?_
        refine r_aload_n hC dX10_readRain_31 2 rfl ?_
        have n5_32 := tk9.e5
        refine r_geti hC 9 (ci := 10) rfl u10_in (by decide) mT_5_4 dX10_readRain_32 ka0 rfl rfl (fun x10_ e10 => ?_)
        have f10 : x10_.toInt = (I9 a0 9).toInt := by rw [e10]
        refine r_iconst hC (v := (5)) dX10_readRain_35 (by decide) (by decide) (fun x11_ e11 t11 => ?_)
        refine r_icmp_ne hC (tgt := 40) dX10_readRain_36 (by decide) (fun c12 => ?_) (fun c12 => ?_)
        rotate_left
        · exfalso; omega
        refine r_aload_n hC dX10_readRain_40 2 rfl ?_
        refine r_getr hC 4 (ci := 10) rfl u10_in (by decide) mT_4_239 dX10_readRain_41 ka0 rfl rfl hbr ?_
        obtain ⟨a13_, hb13, hk13, hn13⟩ := hs9.row krm 15 74 60 (by decide) (by decide)
        refine r_getrN hC 15 (ci := 9) rfl u9_in (by decide) nF_15 dX10_readRain_44 krm rfl rfl hb13 ?_
        refine r_iload_n hC dX10_readRain_47 1 rfl ?_
        refine r_dup2 hC dX10_readRain_48 rfl rfl ?_
        refine x_iaload hC hk13 hn13 (by decide) rfl rfl dX10_readRain_49 (by omega) (by omega) (fun x14_ e14 => ?_)
        refine r_iload_n hC dX10_readRain_50 0 rfl ?_
        refine r_iadd hC dX10_readRain_51 (fun x15_ e15 => ?_)
        try have t15 : x15_.toInt = x14_.toInt + x9_.toInt := by rw [e15]; exact ti_add (by omega) (by omega)
        refine x_iastore hC hk13 hn13 (by decide) rfl rfl dX10_readRain_52 (by omega) (by omega) (fun I16 eI16 => ?_)
        have hs16 := hs9.put0 eI16 hk13 (rng_arr (by decide) _) rfl (xF_arr (by decide) _) (by decide)
        have hF16 := hF9.put eI16 hk13 (inS_arr rfl _)
        have tkp16 := tk9.put eI16 hk13 ka0 (by decide)
        have fp16 : I16 a0 12 = I a0 12 := (up2_kk eI16 hk13 ka0 (by decide)).trans fq9
        have pg16 := pg9.put eI16 hk13 kns (by decide)
        have om16 := om9.put eI16 hk13 (by first | exact Or.inr rfl | exact Or.inl (by decide) | exact Or.inl (by omega))
        refine r_aload_n hC dX10_readRain_53 2 rfl ?_
        refine r_getr hC 4 (ci := 10) rfl u10_in (by decide) mT_4_239 dX10_readRain_54 ka0 rfl rfl hbr ?_
        refine r_dup hC dX10_readRain_57 rfl ?_
        refine r_getiN hC 6 (ci := 9) rfl u9_in (by decide) nF_6 dX10_readRain_58 krm rfl rfl (fun x17_ e17 => ?_)
        have r17 := hs16.rng krm rfl e17
        have f17 : x17_.toInt = (I16 rm 6).toInt := by rw [e17]
        have w17 : x17_ = x1_ := by rw [e17]; exact (Eq.trans (up2_kk eI16 hk13 krm (by decide)) (Eq.trans (hf9.get krm rfl) (Eq.trans (hf6.get krm rfl) (Eq.trans (hf3.get krm rfl) e1.symm))))
        have wt17 : x17_.toInt = x1_.toInt := by rw [w17]
        refine r_iconst hC (v := (1)) dX10_readRain_61 (by decide) (by decide) (fun x18_ e18 t18 => ?_)
        refine r_iadd hC dX10_readRain_62 (fun x19_ e19 => ?_)
        try have t19 : x19_.toInt = x17_.toInt + x18_.toInt := by rw [e19]; exact ti_add (by omega) (by omega)
        refine r_putiN hC 6 (ci := 9) rfl u9_in tyX9_ok nmX9 (by decide) nF_6 rfl rfl rfl dX10_readRain_63 krm rfl rfl (fun I20 eI20 => ?_)
        have hs20 := hs16.put1 eI20 krm rfl (by omega) (by omega) rfl rfl (by decide)
        have hF20 := hF16.put eI20 krm rfl
        have tkp20 := tkp16.put eI20 krm ka0 (by decide)
        have fp20 : I20 a0 12 = I a0 12 := (up2_kk eI20 krm ka0 (by decide)).trans fp16
        have pg20 := pg16.put eI20 krm kns (by decide)
        have om20 := om16.put eI20 krm (by first | exact Or.inr rfl | exact Or.inl (by decide) | exact Or.inl (by omega))
        have hG0 : I20 rm 0 = G0 := (Eq.trans (up2_at (Or.inr (by decide)) eI20) (Eq.trans (up2_kk eI16 hk13 krm (by decide)) (Eq.trans (hf9.get krm rfl) (Eq.trans (hf6.get krm rfl) (Eq.trans (hf3.get krm rfl) eG0.symm)))))
        have hG0t : (I20 rm 0).toInt = G0.toInt := congrArg Int32.toInt hG0
        have hG1 : I20 rm 1 = G1 := (Eq.trans (up2_at (Or.inr (by decide)) eI20) (Eq.trans (up2_kk eI16 hk13 krm (by decide)) (Eq.trans (hf9.get krm rfl) (Eq.trans (hf6.get krm rfl) (Eq.trans (hf3.get krm rfl) eG1.symm)))))
        have hG1t : (I20 rm 1).toInt = G1.toInt := congrArg Int32.toInt hG1
        have hG2 : I20 rm 2 = G2 := (Eq.trans (up2_at (Or.inr (by decide)) eI20) (Eq.trans (up2_kk eI16 hk13 krm (by decide)) (Eq.trans (hf9.get krm rfl) (Eq.trans (hf6.get krm rfl) (Eq.trans (hf3.get krm rfl) eG2.symm)))))
        have hG2t : (I20 rm 2).toInt = G2.toInt := congrArg Int32.toInt hG2
        have hG3 : I20 rm 3 = G3 := (Eq.trans (up2_at (Or.inr (by decide)) eI20) (Eq.trans (up2_kk eI16 hk13 krm (by decide)) (Eq.trans (hf9.get krm rfl) (Eq.trans (hf6.get krm rfl) (Eq.trans (hf3.get krm rfl) eG3.symm)))))
        have hG3t : (I20 rm 3).toInt = G3.toInt := congrArg Int32.toInt hG3
        have hG4 : I20 rm 4 = G4 := (Eq.trans (up2_at (Or.inr (by decide)) eI20) (Eq.trans (up2_kk eI16 hk13 krm (by decide)) (Eq.trans (hf9.get krm rfl) (Eq.trans (hf6.get krm rfl) (Eq.trans (hf3.get krm rfl) eG4.symm)))))
        have hG4t : (I20 rm 4).toInt = G4.toInt := congrArg Int32.toInt hG4
        have hG5 : I20 rm 5 = G5 := (Eq.trans (up2_at (Or.inr (by decide)) eI20) (Eq.trans (up2_kk eI16 hk13 krm (by decide)) (Eq.trans (hf9.get krm rfl) (Eq.trans (hf6.get krm rfl) (Eq.trans (hf3.get krm rfl) eG5.symm)))))
        have hG5t : (I20 rm 5).toInt = G5.toInt := congrArg Int32.toInt hG5
        have hG6 : I20 rm 6 = x19_ := (by rw [eI20]; exact up2_self _ _ _ _)
        have hG6t : (I20 rm 6).toInt = x19_.toInt := congrArg Int32.toInt hG6
        have hG7 : I20 rm 7 = G7 := (Eq.trans (up2_at (Or.inr (by decide)) eI20) (Eq.trans (up2_kk eI16 hk13 krm (by decide)) (Eq.trans (hf9.get krm rfl) (Eq.trans (hf6.get krm rfl) (Eq.trans (hf3.get krm rfl) eG7.symm)))))
        have hG7t : (I20 rm 7).toInt = G7.toInt := congrArg Int32.toInt hG7
        have hG8 : I20 rm 8 = G8 := (Eq.trans (up2_at (Or.inr (by decide)) eI20) (Eq.trans (up2_kk eI16 hk13 krm (by decide)) (Eq.trans (hf9.get krm rfl) (Eq.trans (hf6.get krm rfl) (Eq.trans (hf3.get krm rfl) eG8.symm)))))
        have hG8t : (I20 rm 8).toInt = G8.toInt := congrArg Int32.toInt hG8
        have hG9 : I20 rm 9 = G9 := (Eq.trans (up2_at (Or.inr (by decide)) eI20) (Eq.trans (up2_kk eI16 hk13 krm (by decide)) (Eq.trans (hf9.get krm rfl) (Eq.trans (hf6.get krm rfl) (Eq.trans (hf3.get krm rfl) eG9.symm)))))
        have hG9t : (I20 rm 9).toInt = G9.toInt := congrArg Int32.toInt hG9
        have hG10 : I20 rm 10 = G10 := (Eq.trans (up2_at (Or.inr (by decide)) eI20) (Eq.trans (up2_kk eI16 hk13 krm (by decide)) (Eq.trans (hf9.get krm rfl) (Eq.trans (hf6.get krm rfl) (Eq.trans (hf3.get krm rfl) eG10.symm)))))
        have hG10t : (I20 rm 10).toInt = G10.toInt := congrArg Int32.toInt hG10
        exact r_vret hC hQ hlk hr (by decide) (by decide) dX10_readRain_66 ⟨_, _, rfl, rfl, ⟨hs20, hF20, hFJ9, (by first | exact Or.inl ⟨(upD D 0 6 (D 0 6 + 1)), _, by unfold sRain; rw [pif_f (show ¬ 6 ≤ D 0 6 by omega), hsp6, bnd_ok, hsp9, bnd_ok], hp9, tkp20, ⟨by unfold SM; simp [upD, adN]; omega, nm9.cg (by simp [upD]) (by intro j; simp [upD]), pg20.cg (by simp [upD]) (by intro j; simp [upD]) (by simp [upD]) (by intro j; simp [upD])⟩, fp20⟩ | exact Or.inr ⟨NOekf, NOeqf, by unfold sRain; rw [pif_f (show ¬ 6 ≤ D 0 6 by omega), hsp6, bnd_ok, hsp9, bnd_ok], by omega, by omega, by omega⟩), (by exact om20)⟩⟩
      · rw [show x7_.toInt = 1 by omega, show x8_.toInt = 99 by omega] at hsp9
        refine r_istore_n hC (lv' := [(2, .int x9_), (1, .int x6_), (0, .ref a0)]) dX10_readRain_30 (by decide) rfl ?_
        refine r_aload_n hC dX10_readRain_31 2 rfl ?_
        refine r_geti hC 9 (ci := 10) rfl u10_in (by decide) mT_5_4 dX10_readRain_32 ka0 rfl rfl (fun x21_ e21 => ?_)
        have f21 : x21_.toInt = (I9 a0 9).toInt := by rw [e21]
        refine r_iconst hC (v := (5)) dX10_readRain_35 (by decide) (by decide) (fun x22_ e22 t22 => ?_)
        refine r_icmp_ne hC (tgt := 40) dX10_readRain_36 (by decide) (fun c23 => ?_) (fun c23 => ?_)
        · exfalso; omega
        have hG0 : I9 rm 0 = G0 := (Eq.trans (hf9.get krm rfl) (Eq.trans (hf6.get krm rfl) (Eq.trans (hf3.get krm rfl) eG0.symm)))
        have hG0t : (I9 rm 0).toInt = G0.toInt := congrArg Int32.toInt hG0
        have hG1 : I9 rm 1 = G1 := (Eq.trans (hf9.get krm rfl) (Eq.trans (hf6.get krm rfl) (Eq.trans (hf3.get krm rfl) eG1.symm)))
        have hG1t : (I9 rm 1).toInt = G1.toInt := congrArg Int32.toInt hG1
        have hG2 : I9 rm 2 = G2 := (Eq.trans (hf9.get krm rfl) (Eq.trans (hf6.get krm rfl) (Eq.trans (hf3.get krm rfl) eG2.symm)))
        have hG2t : (I9 rm 2).toInt = G2.toInt := congrArg Int32.toInt hG2
        have hG3 : I9 rm 3 = G3 := (Eq.trans (hf9.get krm rfl) (Eq.trans (hf6.get krm rfl) (Eq.trans (hf3.get krm rfl) eG3.symm)))
        have hG3t : (I9 rm 3).toInt = G3.toInt := congrArg Int32.toInt hG3
        have hG4 : I9 rm 4 = G4 := (Eq.trans (hf9.get krm rfl) (Eq.trans (hf6.get krm rfl) (Eq.trans (hf3.get krm rfl) eG4.symm)))
        have hG4t : (I9 rm 4).toInt = G4.toInt := congrArg Int32.toInt hG4
        have hG5 : I9 rm 5 = G5 := (Eq.trans (hf9.get krm rfl) (Eq.trans (hf6.get krm rfl) (Eq.trans (hf3.get krm rfl) eG5.symm)))
        have hG5t : (I9 rm 5).toInt = G5.toInt := congrArg Int32.toInt hG5
        have hG6 : I9 rm 6 = x1_ := (Eq.trans (hf9.get krm rfl) (Eq.trans (hf6.get krm rfl) (Eq.trans (hf3.get krm rfl) e1.symm)))
        have hG6t : (I9 rm 6).toInt = x1_.toInt := congrArg Int32.toInt hG6
        have hG7 : I9 rm 7 = G7 := (Eq.trans (hf9.get krm rfl) (Eq.trans (hf6.get krm rfl) (Eq.trans (hf3.get krm rfl) eG7.symm)))
        have hG7t : (I9 rm 7).toInt = G7.toInt := congrArg Int32.toInt hG7
        have hG8 : I9 rm 8 = G8 := (Eq.trans (hf9.get krm rfl) (Eq.trans (hf6.get krm rfl) (Eq.trans (hf3.get krm rfl) eG8.symm)))
        have hG8t : (I9 rm 8).toInt = G8.toInt := congrArg Int32.toInt hG8
        have hG9 : I9 rm 9 = G9 := (Eq.trans (hf9.get krm rfl) (Eq.trans (hf6.get krm rfl) (Eq.trans (hf3.get krm rfl) eG9.symm)))
        have hG9t : (I9 rm 9).toInt = G9.toInt := congrArg Int32.toInt hG9
        have hG10 : I9 rm 10 = G10 := (Eq.trans (hf9.get krm rfl) (Eq.trans (hf6.get krm rfl) (Eq.trans (hf3.get krm rfl) eG10.symm)))
        have hG10t : (I9 rm 10).toInt = G10.toInt := congrArg Int32.toInt hG10
        exact r_vret hC hQ hlk hr (by decide) (by decide) dX10_readRain_39 ⟨_, _, rfl, rfl, ⟨hs9, hF9, hFJ9, (by first | exact Or.inl ⟨(upD D 0 6 (D 0 6 + 1)), _, by unfold sRain; rw [pif_f (show ¬ 6 ≤ D 0 6 by omega), hsp6, bnd_ok, hsp9, bnd_er], hp6, tk6, ⟨by unfold SM; simp [upD, adN]; omega, nm9.cg (by simp [upD]) (by intro j; simp [upD]), pg9.cg (by simp [upD]) (by intro j; simp [upD]) (by simp [upD]) (by intro j; simp [upD])⟩, fq6⟩ | exact Or.inr ⟨kf9, qf9, by unfold sRain; rw [pif_f (show ¬ 6 ≤ D 0 6 by omega), hsp6, bnd_ok, hsp9, bnd_er], by omega, by omega, by omega⟩), (by exact om9)⟩⟩
    · rw [show x4_.toInt = 0 by omega, show x5_.toInt = 59 by omega] at hsp6
      refine r_istore_n hC (lv' := [(1, .int x6_), (0, .ref a0)]) dX10_readRain_20 (by decide) rfl ?_
      refine r_aload_n hC dX10_readRain_21 1 rfl ?_
      refine r_ldcS hC (i := 44) (by decide) rfl rfl dX10_readRain_22 ?_
      refine r_iconst hC (v := (1)) dX10_readRain_24 (by decide) (by decide) (fun x24_ e24 t24 => ?_)
      refine r_bipush hC (v := (99)) dX10_readRain_25 (by decide) (by decide) (fun x25_ e25 t25 => ?_)
      refine r_callV hC (As := [.ref (g.2.2.1 44), .int x24_, .int x25_]) (rest := []) (ci := 10) (e_X10_readPart g (xL X) K len I6 J6 R hs6 a0 ka0 44 (by decide) x24_ x25_ (by omega)) mT_6_1 mT_1_10 mT_5_238 mT_6_0 mP_56 okX10_readPart ⟨by decide, by decide⟩ rfl (by show kO (K a0) = _; rw [ka0]; rfl) rfl rfl (Nat.le_of_ble_eq_true rfl) ⟨by decide, by decide⟩ dX10_readRain_27 (aI2 (F := fun st M => P g X 3 30 [(1, .int x6_), (0, .ref a0)] st _ _ M) (M := (K, len, I6, J6, R)) fun x26_ I26 J26 h26 => ?_)
      obtain ⟨hs26, hf26, hfj26, k26_0, k26_1, k26_2⟩ := h26
      show P g X 3 30 [(1, .int x6_), (0, .ref a0)] [.int x26_] _ _ (K, len, I26, J26, R)
      have hF26 : Fr K [(10, 6), (11, 8), (11, 9), (11, 10), (11, 11), (11, 12), (11, 13), (74, 999)] I I26 := hF6.trans hf26 rfl rfl
      have hFJ26 : Fr K [(11, 14)] J J26 := hFJ6.trans hfj26 rfl rfl
      have om26 := om6.mv hf26 rfl
      refine r_istore_n hC (lv' := [(2, .int x26_), (1, .int x6_), (0, .ref a0)]) dX10_readRain_30 (by decide) rfl ?_
      refine r_aload_n hC dX10_readRain_31 2 rfl ?_
      refine r_geti hC 9 (ci := 10) rfl u10_in (by decide) mT_5_4 dX10_readRain_32 ka0 rfl rfl (fun x27_ e27 => ?_)
      have f27 : x27_.toInt = (I26 a0 9).toInt := by rw [e27]
      refine r_iconst hC (v := (5)) dX10_readRain_35 (by decide) (by decide) (fun x28_ e28 t28 => ?_)
      refine r_icmp_ne hC (tgt := 40) dX10_readRain_36 (by decide) (fun c29 => ?_) (fun c29 => ?_)
      · exfalso; omega
      have hG0 : I26 rm 0 = G0 := (Eq.trans (hf26.get krm rfl) (Eq.trans (hf6.get krm rfl) (Eq.trans (hf3.get krm rfl) eG0.symm)))
      have hG0t : (I26 rm 0).toInt = G0.toInt := congrArg Int32.toInt hG0
      have hG1 : I26 rm 1 = G1 := (Eq.trans (hf26.get krm rfl) (Eq.trans (hf6.get krm rfl) (Eq.trans (hf3.get krm rfl) eG1.symm)))
      have hG1t : (I26 rm 1).toInt = G1.toInt := congrArg Int32.toInt hG1
      have hG2 : I26 rm 2 = G2 := (Eq.trans (hf26.get krm rfl) (Eq.trans (hf6.get krm rfl) (Eq.trans (hf3.get krm rfl) eG2.symm)))
      have hG2t : (I26 rm 2).toInt = G2.toInt := congrArg Int32.toInt hG2
      have hG3 : I26 rm 3 = G3 := (Eq.trans (hf26.get krm rfl) (Eq.trans (hf6.get krm rfl) (Eq.trans (hf3.get krm rfl) eG3.symm)))
      have hG3t : (I26 rm 3).toInt = G3.toInt := congrArg Int32.toInt hG3
      have hG4 : I26 rm 4 = G4 := (Eq.trans (hf26.get krm rfl) (Eq.trans (hf6.get krm rfl) (Eq.trans (hf3.get krm rfl) eG4.symm)))
      have hG4t : (I26 rm 4).toInt = G4.toInt := congrArg Int32.toInt hG4
      have hG5 : I26 rm 5 = G5 := (Eq.trans (hf26.get krm rfl) (Eq.trans (hf6.get krm rfl) (Eq.trans (hf3.get krm rfl) eG5.symm)))
      have hG5t : (I26 rm 5).toInt = G5.toInt := congrArg Int32.toInt hG5
      have hG6 : I26 rm 6 = x1_ := (Eq.trans (hf26.get krm rfl) (Eq.trans (hf6.get krm rfl) (Eq.trans (hf3.get krm rfl) e1.symm)))
      have hG6t : (I26 rm 6).toInt = x1_.toInt := congrArg Int32.toInt hG6
      have hG7 : I26 rm 7 = G7 := (Eq.trans (hf26.get krm rfl) (Eq.trans (hf6.get krm rfl) (Eq.trans (hf3.get krm rfl) eG7.symm)))
      have hG7t : (I26 rm 7).toInt = G7.toInt := congrArg Int32.toInt hG7
      have hG8 : I26 rm 8 = G8 := (Eq.trans (hf26.get krm rfl) (Eq.trans (hf6.get krm rfl) (Eq.trans (hf3.get krm rfl) eG8.symm)))
      have hG8t : (I26 rm 8).toInt = G8.toInt := congrArg Int32.toInt hG8
      have hG9 : I26 rm 9 = G9 := (Eq.trans (hf26.get krm rfl) (Eq.trans (hf6.get krm rfl) (Eq.trans (hf3.get krm rfl) eG9.symm)))
      have hG9t : (I26 rm 9).toInt = G9.toInt := congrArg Int32.toInt hG9
      have hG10 : I26 rm 10 = G10 := (Eq.trans (hf26.get krm rfl) (Eq.trans (hf6.get krm rfl) (Eq.trans (hf3.get krm rfl) eG10.symm)))
      have hG10t : (I26 rm 10).toInt = G10.toInt := congrArg Int32.toInt hG10
      exact r_vret hC hQ hlk hr (by decide) (by decide) dX10_readRain_39 ⟨_, _, rfl, rfl, ⟨hs26, hF26, hFJ26, (by first | exact Or.inl ⟨(upD D 0 6 (D 0 6 + 1)), _, by unfold sRain; rw [pif_f (show ¬ 6 ≤ D 0 6 by omega), hsp6, bnd_er], (nx_le hp).2, tk3, ⟨by unfold SM; simp [upD, adN]; omega, nm6.cg (by simp [upD]) (by intro j; simp [upD]), pg6.cg (by simp [upD]) (by intro j; simp [upD]) (by simp [upD]) (by intro j; simp [upD])⟩, fq3⟩ | exact Or.inr ⟨kf6, qf6, by unfold sRain; rw [pif_f (show ¬ 6 ≤ D 0 6 by omega), hsp6, bnd_er], by omega, by omega, by omega⟩), (by exact om26)⟩⟩
  · refine r_aload_n hC dX10_readRain_13 0 rfl ?_
    refine r_iconst hC (v := (0)) dX10_readRain_14 (by decide) (by decide) (fun x30_ e30 t30 => ?_)
    refine r_bipush hC (v := (59)) dX10_readRain_15 (by decide) (by decide) (fun x31_ e31 t31 => ?_)
    refine r_callV hC (As := [.int x30_, .int x31_]) (rest := []) (ci := 10) (e_X10_readWhole g (xL X) K len I3 J3 R hs3 a0 ka0 x30_ x31_ (by omega)) mT_6_5 mT_1_10 mT_6_2 mT_6_4 mP_57 okX10_readWhole ⟨by decide, by decide⟩ rfl (by show kO (K a0) = _; rw [ka0]; rfl) rfl rfl (Nat.le_of_ble_eq_true rfl) ⟨by decide, by decide⟩ dX10_readRain_17 (aI2 (F := fun st M => P g X 3 20 [(0, .ref a0)] st _ _ M) (M := (K, len, I3, J3, R)) fun x32_ I32 J32 h32 => ?_)
    obtain ⟨hs32, hf32, hfj32, k32_0, k32_1, k32_2⟩ := h32
    show P g X 3 20 [(0, .ref a0)] [.int x32_] _ _ (K, len, I32, J32, R)
    have hF32 : Fr K [(10, 6), (11, 8), (11, 9), (11, 10), (11, 11), (11, 12), (11, 13), (74, 999)] I I32 := hF3.trans hf32 rfl rfl
    have hFJ32 : Fr K [(11, 14)] J J32 := hFJ3.trans hfj32 rfl rfl
    have om32 := om3.mv hf32 rfl
    refine r_istore_n hC (lv' := [(1, .int x32_), (0, .ref a0)]) dX10_readRain_20 (by decide) rfl ?_
    refine r_aload_n hC dX10_readRain_21 1 rfl ?_
    refine r_ldcS hC (i := 44) (by decide) rfl rfl dX10_readRain_22 ?_
    refine r_iconst hC (v := (1)) dX10_readRain_24 (by decide) (by decide) (fun x33_ e33 t33 => ?_)
    refine r_bipush hC (v := (99)) dX10_readRain_25 (by decide) (by decide) (fun x34_ e34 t34 => ?_)
    refine r_callV hC (As := [.ref (g.2.2.1 44), .int x33_, .int x34_]) (rest := []) (ci := 10) (e_X10_readPart g (xL X) K len I32 J32 R hs32 a0 ka0 44 (by decide) x33_ x34_ (by omega)) mT_6_1 mT_1_10 mT_5_238 mT_6_0 mP_56 okX10_readPart ⟨by decide, by decide⟩ rfl (by show kO (K a0) = _; rw [ka0]; rfl) rfl rfl (Nat.le_of_ble_eq_true rfl) ⟨by decide, by decide⟩ dX10_readRain_27 (aI2 (F := fun st M => P g X 3 30 [(1, .int x32_), (0, .ref a0)] st _ _ M) (M := (K, len, I32, J32, R)) fun x35_ I35 J35 h35 => ?_)
    obtain ⟨hs35, hf35, hfj35, k35_0, k35_1, k35_2⟩ := h35
    show P g X 3 30 [(1, .int x32_), (0, .ref a0)] [.int x35_] _ _ (K, len, I35, J35, R)
    have hF35 : Fr K [(10, 6), (11, 8), (11, 9), (11, 10), (11, 11), (11, 12), (11, 13), (74, 999)] I I35 := hF32.trans hf35 rfl rfl
    have hFJ35 : Fr K [(11, 14)] J J35 := hFJ32.trans hfj35 rfl rfl
    have om35 := om32.mv hf35 rfl
    refine r_istore_n hC (lv' := [(2, .int x35_), (1, .int x32_), (0, .ref a0)]) dX10_readRain_30 (by decide) rfl ?_
    refine r_aload_n hC dX10_readRain_31 2 rfl ?_
    refine r_geti hC 9 (ci := 10) rfl u10_in (by decide) mT_5_4 dX10_readRain_32 ka0 rfl rfl (fun x36_ e36 => ?_)
    have f36 : x36_.toInt = (I35 a0 9).toInt := by rw [e36]
    refine r_iconst hC (v := (5)) dX10_readRain_35 (by decide) (by decide) (fun x37_ e37 t37 => ?_)
    refine r_icmp_ne hC (tgt := 40) dX10_readRain_36 (by decide) (fun c38 => ?_) (fun c38 => ?_)
    · exfalso; omega
    have hG0 : I35 rm 0 = G0 := (Eq.trans (hf35.get krm rfl) (Eq.trans (hf32.get krm rfl) (Eq.trans (hf3.get krm rfl) eG0.symm)))
    have hG0t : (I35 rm 0).toInt = G0.toInt := congrArg Int32.toInt hG0
    have hG1 : I35 rm 1 = G1 := (Eq.trans (hf35.get krm rfl) (Eq.trans (hf32.get krm rfl) (Eq.trans (hf3.get krm rfl) eG1.symm)))
    have hG1t : (I35 rm 1).toInt = G1.toInt := congrArg Int32.toInt hG1
    have hG2 : I35 rm 2 = G2 := (Eq.trans (hf35.get krm rfl) (Eq.trans (hf32.get krm rfl) (Eq.trans (hf3.get krm rfl) eG2.symm)))
    have hG2t : (I35 rm 2).toInt = G2.toInt := congrArg Int32.toInt hG2
    have hG3 : I35 rm 3 = G3 := (Eq.trans (hf35.get krm rfl) (Eq.trans (hf32.get krm rfl) (Eq.trans (hf3.get krm rfl) eG3.symm)))
    have hG3t : (I35 rm 3).toInt = G3.toInt := congrArg Int32.toInt hG3
    have hG4 : I35 rm 4 = G4 := (Eq.trans (hf35.get krm rfl) (Eq.trans (hf32.get krm rfl) (Eq.trans (hf3.get krm rfl) eG4.symm)))
    have hG4t : (I35 rm 4).toInt = G4.toInt := congrArg Int32.toInt hG4
    have hG5 : I35 rm 5 = G5 := (Eq.trans (hf35.get krm rfl) (Eq.trans (hf32.get krm rfl) (Eq.trans (hf3.get krm rfl) eG5.symm)))
    have hG5t : (I35 rm 5).toInt = G5.toInt := congrArg Int32.toInt hG5
    have hG6 : I35 rm 6 = x1_ := (Eq.trans (hf35.get krm rfl) (Eq.trans (hf32.get krm rfl) (Eq.trans (hf3.get krm rfl) e1.symm)))
    have hG6t : (I35 rm 6).toInt = x1_.toInt := congrArg Int32.toInt hG6
    have hG7 : I35 rm 7 = G7 := (Eq.trans (hf35.get krm rfl) (Eq.trans (hf32.get krm rfl) (Eq.trans (hf3.get krm rfl) eG7.symm)))
    have hG7t : (I35 rm 7).toInt = G7.toInt := congrArg Int32.toInt hG7
    have hG8 : I35 rm 8 = G8 := (Eq.trans (hf35.get krm rfl) (Eq.trans (hf32.get krm rfl) (Eq.trans (hf3.get krm rfl) eG8.symm)))
    have hG8t : (I35 rm 8).toInt = G8.toInt := congrArg Int32.toInt hG8
    have hG9 : I35 rm 9 = G9 := (Eq.trans (hf35.get krm rfl) (Eq.trans (hf32.get krm rfl) (Eq.trans (hf3.get krm rfl) eG9.symm)))
    have hG9t : (I35 rm 9).toInt = G9.toInt := congrArg Int32.toInt hG9
    have hG10 : I35 rm 10 = G10 := (Eq.trans (hf35.get krm rfl) (Eq.trans (hf32.get krm rfl) (Eq.trans (hf3.get krm rfl) eG10.symm)))
    have hG10t : (I35 rm 10).toInt = G10.toInt := congrArg Int32.toInt hG10
    exact r_vret hC hQ hlk hr (by decide) (by decide) dX10_readRain_39 ⟨_, _, rfl, rfl, ⟨hs35, hF35, hFJ35, (by first | exact Or.inl ⟨(upD D 0 6 (D 0 6 + 1)), _, by unfold sRain; rw [pif_t (show 6 ≤ D 0 6 by omega)], hp, tkm, ⟨by unfold SM; simp [upD, adN]; omega, nm3.cg (by simp [upD]) (by intro j; simp [upD]), pg3.cg (by simp [upD]) (by intro j; simp [upD]) (by simp [upD]) (by intro j; simp [upD])⟩, rfl⟩ | exact Or.inr ⟨5, (pl B n p), by unfold sRain; rw [pif_t (show 6 ≤ D 0 6 by omega)], by omega, by omega, by omega⟩), (by exact om35)⟩⟩
set_option maxHeartbeats 4000000 in
set_option maxRecDepth 100000 in
theorem f_X10_readVillage (g : GG) (l : Launch) (K len : Nat → Nat) (I : Nat → Nat → Int32) (J : Nat → Nat → Int64) (R : Nat → Nat → Option Nat) (hs : Sf K len I R) (a0 : Nat) (ka0 : K a0 = 11) (rm : Nat) (hbr : R a0 4 = some rm) (krm : K rm = 10) (mt : Nat) (hmt : R a0 5 = some mt) (kmt : K mt = 49) (nmt : len mt = 900) (B : Nat → Int) (n : Nat) (hB : BT B n mt I) (hBr : ∀ j : Nat, j < n → -128 ≤ B j ∧ B j ≤ 127) (hn : n ≤ 900) (p : Nat) (hp : p ≤ n) (tkm : TkM B n a0 p I J) (nr : Nat) (hnr : R rm 25 = some nr) (knr : K nr = 82) (lnr : len nr = 19) (ns : Nat) (hns : R rm 26 = some ns) (kns : K ns = 83) (lns : len ns = 19) (D : DD) (hD : DI D) (sm : SM D rm I) (nm : NmM D nr J) (pg : PgI D ns I) (p0 : kd B n p = 1) : Ct g l yX10_readVillage cX10_readVillage 4 (Option.none : Option Jvm.ClassFile.FieldType) rmX10_readVillage [.ref a0] (K, len, I, J, R) (pV2 (K, len, I, J, R) (fun I' J' => Sf K len I' R ∧ Fr K [(10, 8), (10, 10), (11, 8), (11, 9), (11, 10), (11, 11), (11, 12), (11, 13), (77, 999), (78, 999), (79, 999), (83, 999), (84, 999)] I I' ∧ Fr K [(11, 14), (82, 999)] J J' ∧ ((∃ (D' : DD) (p' : Nat), sVillage B n p D = .ok (D', p') ∧ p' ≤ n ∧ TkM B n a0 p' I' J' ∧ RpM D' rm nr ns I' J' ∧ I' a0 12 = I a0 12) ∨ (∃ (kf : Int) (qf : Nat), sVillage B n p D = .error (kf, qf) ∧ (I' a0 9).toInt = 5 ∧ (I' a0 12).toInt = kf ∧ (I' a0 13).toInt = qf)) ∧ (OM K rm I I'))) := by
  refine Ct_intro (by decide +kernel) (Nat.le_of_ble_eq_true rfl) (fun X hC hL hKK hNm hr hlk hQ => ?_)
  subst hL
  have hC : Cx g X cX10_readVillage "HillTapModel" 4 rmX10_readVillage := hC
  show P g X 4 0 [(0, .ref a0)] [] 0 0 (K, len, I, J, R)
  have hF : Fr K [(10, 8), (10, 10), (11, 8), (11, 9), (11, 10), (11, 11), (11, 12), (11, 13), (77, 999), (78, 999), (79, 999), (83, 999), (84, 999)] I I := Fr.refl
  have hFJ : Fr K [(11, 14), (82, 999)] J J := Fr.refl
  have ek1 := tkm.e1
  have ek2 := tkm.e2
  have ek3 := tkm.e3
  have ek4 := tkm.e4
  have ek10 := tkm.2.1
  have ek11 := tkm.2.2.2.2.2
  obtain ⟨hD0, ⟨hD1, hD2⟩, ⟨hD3, hD4⟩, ⟨hD5, hD6⟩, ⟨hD7, hD8⟩, ⟨hD9, hD10⟩, hD11, hD12⟩ := id hD
  obtain ⟨sm0, sm3, sm4, sm5, sm6, sm7, sm8, sm9, sm10⟩ := id sm
  obtain ⟨G0, eG0⟩ : ∃ z : Int32, z = I rm 0 := ⟨_, rfl⟩
  have fG0 : G0.toInt = (I rm 0).toInt := by rw [eG0]
  obtain ⟨G1, eG1⟩ : ∃ z : Int32, z = I rm 1 := ⟨_, rfl⟩
  have fG1 : G1.toInt = (I rm 1).toInt := by rw [eG1]
  obtain ⟨G2, eG2⟩ : ∃ z : Int32, z = I rm 2 := ⟨_, rfl⟩
  have fG2 : G2.toInt = (I rm 2).toInt := by rw [eG2]
  obtain ⟨G3, eG3⟩ : ∃ z : Int32, z = I rm 3 := ⟨_, rfl⟩
  have fG3 : G3.toInt = (I rm 3).toInt := by rw [eG3]
  have rG3 := hs.rng krm rfl eG3
  obtain ⟨G4, eG4⟩ : ∃ z : Int32, z = I rm 4 := ⟨_, rfl⟩
  have fG4 : G4.toInt = (I rm 4).toInt := by rw [eG4]
  have rG4 := hs.rng krm rfl eG4
  obtain ⟨G5, eG5⟩ : ∃ z : Int32, z = I rm 5 := ⟨_, rfl⟩
  have fG5 : G5.toInt = (I rm 5).toInt := by rw [eG5]
  have rG5 := hs.rng krm rfl eG5
  obtain ⟨G6, eG6⟩ : ∃ z : Int32, z = I rm 6 := ⟨_, rfl⟩
  have fG6 : G6.toInt = (I rm 6).toInt := by rw [eG6]
  have rG6 := hs.rng krm rfl eG6
  obtain ⟨G7, eG7⟩ : ∃ z : Int32, z = I rm 7 := ⟨_, rfl⟩
  have fG7 : G7.toInt = (I rm 7).toInt := by rw [eG7]
  have rG7 := hs.rng krm rfl eG7
  obtain ⟨G8, eG8⟩ : ∃ z : Int32, z = I rm 8 := ⟨_, rfl⟩
  have fG8 : G8.toInt = (I rm 8).toInt := by rw [eG8]
  have rG8 := hs.rng krm rfl eG8
  obtain ⟨G9, eG9⟩ : ∃ z : Int32, z = I rm 9 := ⟨_, rfl⟩
  have fG9 : G9.toInt = (I rm 9).toInt := by rw [eG9]
  have rG9 := hs.rng krm rfl eG9
  obtain ⟨G10, eG10⟩ : ∃ z : Int32, z = I rm 10 := ⟨_, rfl⟩
  have fG10 : G10.toInt = (I rm 10).toInt := by rw [eG10]
  have rG10 := hs.rng krm rfl eG10
  have om : OM K rm I I := OM.rf
  refine r_aload_n hC dX10_readVillage_0 0 rfl ?_
  refine r_aload_n hC dX10_readVillage_1 0 rfl ?_
  refine r_getr hC 4 (ci := 10) rfl u10_in (by decide) mT_4_239 dX10_readVillage_2 ka0 rfl rfl hbr ?_
  refine r_getiN hC 8 (ci := 9) rfl u9_in (by decide) nF_8 dX10_readVillage_5 krm rfl rfl (fun x1_ e1 => ?_)
  have r1 := hs.rng krm rfl e1
  have f1 : x1_.toInt = (I rm 8).toInt := by rw [e1]
  have w1 : x1_ = G8 := by rw [e1]; exact eG8.symm
  have wt1 : x1_.toInt = G8.toInt := by rw [w1]
  refine r_iconst hC (v := (4)) dX10_readVillage_8 (by decide) (by decide) (fun x2_ e2 t2 => ?_)
  refine r_callV hC (As := [.int x1_, .int x2_]) (rest := []) (ci := 10) (f_X10_begins g (xL X) K len I J R hs a0 ka0 x1_ x2_ mt hmt kmt nmt B n (hB.mv9 hF kmt (fun _ => rfl)) hBr hn p hp tkm (by omega)) mT_6_19 mT_1_10 mT_6_16 mT_6_18 mP_59 okX10_begins ⟨by decide, by decide⟩ rfl (by show kO (K a0) = _; rw [ka0]; rfl) rfl rfl (Nat.le_of_ble_eq_true rfl) ⟨by decide, by decide⟩ dX10_readVillage_9 (aV2 (F := fun st M => P g X 4 12 [(0, .ref a0)] st _ _ M) (M := (K, len, I, J, R)) fun I3 J3 h3 => ?_)
  obtain ⟨hs3, hf3, hfj3, k3_0⟩ := h3
  show P g X 4 12 [(0, .ref a0)] [] _ _ (K, len, I3, J3, R)
  have hF3 : Fr K [(10, 8), (10, 10), (11, 8), (11, 9), (11, 10), (11, 11), (11, 12), (11, 13), (77, 999), (78, 999), (79, 999), (83, 999), (84, 999)] I I3 := hF.trans hf3 rfl rfl
  have hFJ3 : Fr K [(11, 14), (82, 999)] J J3 := hFJ.trans hfj3 rfl rfl
  have pg3 := pg.mv hf3 kns (fun _ => rfl)
  have nm3 := nm.mv hfj3 knr (fun _ => rfl)
  have om3 := om.mv hf3 rfl
  rcases k3_0 with ⟨hr3, tk3, fl3⟩ | ⟨hr3, hf03, hf13, hf23⟩
  · have fq3 : I3 a0 12 = I a0 12 := fl3.trans rfl
    refine r_aload_n hC dX10_readVillage_12 0 rfl ?_
    refine r_iconst hC (v := (1)) dX10_readVillage_13 (by decide) (by decide) (fun x4_ e4 t4 => ?_)
    refine r_aload_n hC dX10_readVillage_14 0 rfl ?_
    refine r_getr hC 4 (ci := 10) rfl u10_in (by decide) mT_4_239 dX10_readVillage_15 ka0 rfl rfl hbr ?_
    refine r_getiN hC 8 (ci := 9) rfl u9_in (by decide) nF_8 dX10_readVillage_18 krm rfl rfl (fun x5_ e5 => ?_)
    have r5 := hs3.rng krm rfl e5
    have f5 : x5_.toInt = (I3 rm 8).toInt := by rw [e5]
    have w5 : x5_ = x1_ := by rw [e5]; exact (Eq.trans (hf3.get krm rfl) e1.symm)
    have wt5 : x5_.toInt = x1_.toInt := by rw [w5]
    have q10 : I3 rm 10 = G10 := (Eq.trans (hf3.get krm rfl) eG10.symm)
    have q10t : (I3 rm 10).toInt = G10.toInt := congrArg Int32.toInt q10
    refine r_callV hC (As := [.int x4_, .int x5_]) (rest := []) (ci := 10) (f_X10_readFresh g (xL X) K len I3 J3 R hs3 a0 ka0 x4_ x5_ rm hbr krm mt hmt kmt nmt B n (hB.mv9 hF3 kmt (fun _ => rfl)) hBr hn (nx B n p) (nx_le hp).2 tk3 nr hnr knr lnr ns hns kns lns D hD (by omega) nm3 (by omega)) mT_6_23 mT_1_10 mT_6_20 mT_6_22 mP_60 okX10_readFresh ⟨by decide, by decide⟩ rfl (by show kO (K a0) = _; rw [ka0]; rfl) rfl rfl (Nat.le_of_ble_eq_true rfl) ⟨by decide, by decide⟩ dX10_readVillage_21 (aV2 (F := fun st M => P g X 4 24 [(0, .ref a0)] st _ _ M) (M := (K, len, I3, J3, R)) fun I6 J6 h6 => ?_)
    obtain ⟨hs6, hf6, hfj6, k6_0, k6_1⟩ := h6
    show P g X 4 24 [(0, .ref a0)] [] _ _ (K, len, I6, J6, R)
    have hF6 : Fr K [(10, 8), (10, 10), (11, 8), (11, 9), (11, 10), (11, 11), (11, 12), (11, 13), (77, 999), (78, 999), (79, 999), (83, 999), (84, 999)] I I6 := hF3.trans hf6 rfl rfl
    have hFJ6 : Fr K [(11, 14), (82, 999)] J J6 := hFJ3.trans hfj6 rfl rfl
    have om6 := om3.tr k6_1
    rcases k6_0 with ⟨hsp6, tk6, nmF6, hten6, od6, nw6, fl6⟩ | ⟨kf6, qf6, hsp6, hf06, hf16, hf26⟩
    · have fq6 : I6 a0 12 = I a0 12 := fl6.trans fq3
      have pgs6 := PgI.sm (pg3) od6
      have pgf6 := PgI.other (v := (vl B n (nx B n p))) pgs6 (by omega) (sFresh_new hsp6) nw6 (by omega)
      have G10_6 : (I6 rm 10).toInt = D 0 10 + 1 := hten6
      obtain ⟨N1, eN1⟩ : ∃ z : Int32, z = I6 rm 10 := ⟨_, rfl⟩
      have fN1 : N1.toInt = (I6 rm 10).toInt := by rw [eN1]
      have rN1 := hs6.rng krm rfl eN1
      refine r_aload_n hC dX10_readVillage_24 0 rfl ?_
      refine r_ldcwS hC (i := 55) (by decide) rfl rfl dX10_readVillage_25 ?_
      refine r_iconst hC (v := (0)) dX10_readVillage_28 (by decide) (by decide) (fun x7_ e7 t7 => ?_)
      refine r_sipush hC (v := (999)) dX10_readVillage_29 (by decide) (by decide) (fun x8_ e8 t8 => ?_)
      refine r_callV hC (As := [.ref (g.2.2.1 55), .int x7_, .int x8_]) (rest := []) (ci := 10) (f_X10_readPart g (xL X) K len I6 J6 R hs6 a0 ka0 55 (by decide) x7_ x8_ mt hmt kmt nmt B n (hB.mv9 hF6 kmt (fun _ => rfl)) hBr hn (nx B n (nx B n p)) (nx_le (nx_le hp).2).2 tk6 (by first | assumption | decide)) mT_6_1 mT_1_10 mT_5_238 mT_6_0 mP_56 okX10_readPart ⟨by decide, by decide⟩ rfl (by show kO (K a0) = _; rw [ka0]; rfl) rfl rfl (Nat.le_of_ble_eq_true rfl) ⟨by decide, by decide⟩ dX10_readVillage_32 (aI2 (F := fun st M => P g X 4 35 [(0, .ref a0)] st _ _ M) (M := (K, len, I6, J6, R)) fun x9_ I9 J9 h9 => ?_)
      obtain ⟨hs9, hf9, hfj9, k9_0⟩ := h9
      show P g X 4 35 [(0, .ref a0)] [.int x9_] _ _ (K, len, I9, J9, R)
      have hF9 : Fr K [(10, 8), (10, 10), (11, 8), (11, 9), (11, 10), (11, 11), (11, 12), (11, 13), (77, 999), (78, 999), (79, 999), (83, 999), (84, 999)] I I9 := hF6.trans hf9 rfl rfl
      have hFJ9 : Fr K [(11, 14), (82, 999)] J J9 := hFJ6.trans hfj9 rfl rfl
      have pg9 := pgf6.mv hf9 kns (fun _ => rfl)
      have nm9 := nmF6.mv hfj9 knr (fun _ => rfl)
      have om9 := om6.mv hf9 rfl
      rcases k9_0 with ⟨v9, p9, hsp9, hp9, tk9, hv9, fl9⟩ | ⟨kf9, qf9, hsp9, hf09, hf19, hf29⟩
      · have fq9 : I9 a0 12 = I a0 12 := fl9.trans fq6
        rw [show x7_.toInt = 0 by omega, show x8_.toInt = 999 by omega] at hsp9
        have rg9 := (sNum_go (nx_le (nx_le hp).2).2 hsp9).2
        refine r_istore_n hC (lv' := [(1, .int x9_), (0, .ref a0)]) dX10_readVillage_35 (by decide) rfl ?_
        refine r_aload_n hC dX10_readVillage_36 1 rfl ?_
        refine r_ldcwS hC (i := 56) (by decide) rfl rfl dX10_readVillage_37 ?_
        refine r_iconst hC (v := (1)) dX10_readVillage_40 (by decide) (by decide) (fun x10_ e10 t10 => ?_)
        refine r_sipush hC (v := (999)) dX10_readVillage_41 (by decide) (by decide) (fun x11_ e11 t11 => ?_)
        refine r_callV hC (As := [.ref (g.2.2.1 56), .int x10_, .int x11_]) (rest := []) (ci := 10) (f_X10_readPart g (xL X) K len I9 J9 R hs9 a0 ka0 56 (by decide) x10_ x11_ mt hmt kmt nmt B n (hB.mv9 hF9 kmt (fun _ => rfl)) hBr hn p9 hp9 tk9 (by first | assumption | decide)) mT_6_1 mT_1_10 mT_5_238 mT_6_0 mP_56 okX10_readPart ⟨by decide, by decide⟩ rfl (by show kO (K a0) = _; rw [ka0]; rfl) rfl rfl (Nat.le_of_ble_eq_true rfl) ⟨by decide, by decide⟩ dX10_readVillage_44 (aI2 (F := fun st M => P g X 4 47 [(1, .int x9_), (0, .ref a0)] st _ _ M) (M := (K, len, I9, J9, R)) fun x12_ I12 J12 h12 => ?_)
        obtain ⟨hs12, hf12, hfj12, k12_0⟩ := h12
        show P g X 4 47 [(1, .int x9_), (0, .ref a0)] [.int x12_] _ _ (K, len, I12, J12, R)
        have hF12 : Fr K [(10, 8), (10, 10), (11, 8), (11, 9), (11, 10), (11, 11), (11, 12), (11, 13), (77, 999), (78, 999), (79, 999), (83, 999), (84, 999)] I I12 := hF9.trans hf12 rfl rfl
        have hFJ12 : Fr K [(11, 14), (82, 999)] J J12 := hFJ9.trans hfj12 rfl rfl
        have pg12 := pg9.mv hf12 kns (fun _ => rfl)
        have nm12 := nm9.mv hfj12 knr (fun _ => rfl)
        have om12 := om9.mv hf12 rfl
        rcases k12_0 with ⟨v12, p12, hsp12, hp12, tk12, hv12, fl12⟩ | ⟨kf12, qf12, hsp12, hf012, hf112, hf212⟩
        · have fq12 : I12 a0 12 = I a0 12 := fl12.trans fq9
          rw [show x10_.toInt = 1 by omega, show x11_.toInt = 999 by omega] at hsp12
          have rg12 := (sNum_go hp9 hsp12).2
          refine r_istore_n hC (lv' := [(2, .int x12_), (1, .int x9_), (0, .ref a0)]) dX10_readVillage_47 (by decide) rfl ?_
          refine r_aload_n hC dX10_readVillage_48 2 rfl ?_
          refine r_ldcwS hC (i := 57) (by decide) rfl rfl dX10_readVillage_49 ?_
          refine r_iconst hC (v := (0)) dX10_readVillage_52 (by decide) (by decide) (fun x13_ e13 t13 => ?_)
          refine r_bipush hC (v := (30)) dX10_readVillage_53 (by decide) (by decide) (fun x14_ e14 t14 => ?_)
          refine r_callV hC (As := [.ref (g.2.2.1 57), .int x13_, .int x14_]) (rest := []) (ci := 10) (f_X10_readPart g (xL X) K len I12 J12 R hs12 a0 ka0 57 (by decide) x13_ x14_ mt hmt kmt nmt B n (hB.mv9 hF12 kmt (fun _ => rfl)) hBr hn p12 hp12 tk12 (by first | assumption | decide)) mT_6_1 mT_1_10 mT_5_238 mT_6_0 mP_56 okX10_readPart ⟨by decide, by decide⟩ rfl (by show kO (K a0) = _; rw [ka0]; rfl) rfl rfl (Nat.le_of_ble_eq_true rfl) ⟨by decide, by decide⟩ dX10_readVillage_55 (aI2 (F := fun st M => P g X 4 58 [(2, .int x12_), (1, .int x9_), (0, .ref a0)] st _ _ M) (M := (K, len, I12, J12, R)) fun x15_ I15 J15 h15 => ?_)
          obtain ⟨hs15, hf15, hfj15, k15_0⟩ := h15
          show P g X 4 58 [(2, .int x12_), (1, .int x9_), (0, .ref a0)] [.int x15_] _ _ (K, len, I15, J15, R)
          have hF15 : Fr K [(10, 8), (10, 10), (11, 8), (11, 9), (11, 10), (11, 11), (11, 12), (11, 13), (77, 999), (78, 999), (79, 999), (83, 999), (84, 999)] I I15 := hF12.trans hf15 rfl rfl
          have hFJ15 : Fr K [(11, 14), (82, 999)] J J15 := hFJ12.trans hfj15 rfl rfl
          have pg15 := pg12.mv hf15 kns (fun _ => rfl)
          have nm15 := nm12.mv hfj15 knr (fun _ => rfl)
          have om15 := om12.mv hf15 rfl
          rcases k15_0 with ⟨v15, p15, hsp15, hp15, tk15, hv15, fl15⟩ | ⟨kf15, qf15, hsp15, hf015, hf115, hf215⟩
          · have fq15 : I15 a0 12 = I a0 12 := fl15.trans fq12
            rw [show x13_.toInt = 0 by omega, show x14_.toInt = 30 by omega] at hsp15
            have rg15 := (sNum_go hp12 hsp15).2
            refine r_istore_n hC (lv' := [(3, .int x15_), (2, .int x12_), (1, .int x9_), (0, .ref a0)]) dX10_readVillage_58 (by decide) rfl ?_
            refine r_aload_n hC dX10_readVillage_59 3 rfl ?_
            have n5_60 := tk15.e5
            refine r_geti hC 9 (ci := 10) rfl u10_in (by decide) mT_5_4 dX10_readVillage_60 ka0 rfl rfl (fun x16_ e16 => ?_)
            have f16 : x16_.toInt = (I15 a0 9).toInt := by rw [e16]
            refine r_iconst hC (v := (5)) dX10_readVillage_63 (by decide) (by decide) (fun x17_ e17 t17 => ?_)
            refine r_icmp_ne hC (tgt := 68) dX10_readVillage_64 (by decide) (fun c18 => ?_) (fun c18 => ?_)
            rotate_left
            · exfalso; omega
            refine r_aload_n hC dX10_readVillage_68 3 rfl ?_
            refine r_getr hC 4 (ci := 10) rfl u10_in (by decide) mT_4_239 dX10_readVillage_69 ka0 rfl rfl hbr ?_
            obtain ⟨a19_, hb19, hk19, hn19⟩ := hs15.row krm 20 77 4 (by decide) (by decide)
            refine r_getrN hC 20 (ci := 9) rfl u9_in (by decide) nF_20 dX10_readVillage_72 krm rfl rfl hb19 ?_
            refine r_aload_n hC dX10_readVillage_75 3 rfl ?_
            refine r_getr hC 4 (ci := 10) rfl u10_in (by decide) mT_4_239 dX10_readVillage_76 ka0 rfl rfl hbr ?_
            refine r_getiN hC 8 (ci := 9) rfl u9_in (by decide) nF_8 dX10_readVillage_79 krm rfl rfl (fun x20_ e20 => ?_)
            have r20 := hs15.rng krm rfl e20
            have f20 : x20_.toInt = (I15 rm 8).toInt := by rw [e20]
            have w20 : x20_ = x5_ := by rw [e20]; exact (Eq.trans (hf15.get krm rfl) (Eq.trans (hf12.get krm rfl) (Eq.trans (hf9.get krm rfl) (Eq.trans (hf6.get krm rfl) e5.symm))))
            have wt20 : x20_.toInt = x5_.toInt := by rw [w20]
            refine r_iload_n hC dX10_readVillage_82 2 rfl ?_
            refine x_iastore hC hk19 hn19 (by decide) rfl rfl dX10_readVillage_83 (by omega) (by omega) (fun I21 eI21 => ?_)
            have hs21 := hs15.put0 eI21 hk19 (rng_arr (by decide) _) rfl (xF_arr (by decide) _) (by decide)
            have hF21 := hF15.put eI21 hk19 (inS_arr rfl _)
            have tkp21 := tk15.put eI21 hk19 ka0 (by decide)
            have fp21 : I21 a0 12 = I a0 12 := (up2_kk eI21 hk19 ka0 (by decide)).trans fq15
            have pg21 := pg15.put eI21 hk19 kns (by decide)
            have om21 := om15.put eI21 hk19 (by first | exact Or.inr rfl | exact Or.inl (by decide) | exact Or.inl (by omega))
            refine r_aload_n hC dX10_readVillage_84 3 rfl ?_
            refine r_getr hC 4 (ci := 10) rfl u10_in (by decide) mT_4_239 dX10_readVillage_85 ka0 rfl rfl hbr ?_
            obtain ⟨a22_, hb22, hk22, hn22⟩ := hs21.row krm 21 78 4 (by decide) (by decide)
            refine r_getrN hC 21 (ci := 9) rfl u9_in (by decide) nF_21 dX10_readVillage_88 krm rfl rfl hb22 ?_
            refine r_aload_n hC dX10_readVillage_91 3 rfl ?_
            refine r_getr hC 4 (ci := 10) rfl u10_in (by decide) mT_4_239 dX10_readVillage_92 ka0 rfl rfl hbr ?_
            refine r_getiN hC 8 (ci := 9) rfl u9_in (by decide) nF_8 dX10_readVillage_95 krm rfl rfl (fun x23_ e23 => ?_)
            have r23 := hs21.rng krm rfl e23
            have f23 : x23_.toInt = (I21 rm 8).toInt := by rw [e23]
            have w23 : x23_ = x20_ := by rw [e23]; exact (Eq.trans (up2_kk eI21 hk19 krm (by decide)) e20.symm)
            have wt23 : x23_.toInt = x20_.toInt := by rw [w23]
            refine r_iload_n hC dX10_readVillage_98 1 rfl ?_
            refine x_iastore hC hk22 hn22 (by decide) rfl rfl dX10_readVillage_99 (by omega) (by omega) (fun I24 eI24 => ?_)
            have hs24 := hs21.put0 eI24 hk22 (rng_arr (by decide) _) rfl (xF_arr (by decide) _) (by decide)
            have hF24 := hF21.put eI24 hk22 (inS_arr rfl _)
            have tkp24 := tkp21.put eI24 hk22 ka0 (by decide)
            have fp24 : I24 a0 12 = I a0 12 := (up2_kk eI24 hk22 ka0 (by decide)).trans fp21
            have pg24 := pg21.put eI24 hk22 kns (by decide)
            have om24 := om21.put eI24 hk22 (by first | exact Or.inr rfl | exact Or.inl (by decide) | exact Or.inl (by omega))
            refine r_aload_n hC dX10_readVillage_100 3 rfl ?_
            refine r_getr hC 4 (ci := 10) rfl u10_in (by decide) mT_4_239 dX10_readVillage_101 ka0 rfl rfl hbr ?_
            obtain ⟨a25_, hb25, hk25, hn25⟩ := hs24.row krm 22 79 4 (by decide) (by decide)
            refine r_getrN hC 22 (ci := 9) rfl u9_in (by decide) nF_22 dX10_readVillage_104 krm rfl rfl hb25 ?_
            refine r_aload_n hC dX10_readVillage_107 3 rfl ?_
            refine r_getr hC 4 (ci := 10) rfl u10_in (by decide) mT_4_239 dX10_readVillage_108 ka0 rfl rfl hbr ?_
            refine r_getiN hC 8 (ci := 9) rfl u9_in (by decide) nF_8 dX10_readVillage_111 krm rfl rfl (fun x26_ e26 => ?_)
            have r26 := hs24.rng krm rfl e26
            have f26 : x26_.toInt = (I24 rm 8).toInt := by rw [e26]
            have w26 : x26_ = x23_ := by rw [e26]; exact (Eq.trans (up2_kk eI24 hk22 krm (by decide)) e23.symm)
            have wt26 : x26_.toInt = x23_.toInt := by rw [w26]
            refine r_iload_n hC dX10_readVillage_114 0 rfl ?_
            refine x_iastore hC hk25 hn25 (by decide) rfl rfl dX10_readVillage_115 (by omega) (by omega) (fun I27 eI27 => ?_)
            have hs27 := hs24.put0 eI27 hk25 (rng_arr (by decide) _) rfl (xF_arr (by decide) _) (by decide)
            have hF27 := hF24.put eI27 hk25 (inS_arr rfl _)
            have tkp27 := tkp24.put eI27 hk25 ka0 (by decide)
            have fp27 : I27 a0 12 = I a0 12 := (up2_kk eI27 hk25 ka0 (by decide)).trans fp24
            have pg27 := pg24.put eI27 hk25 kns (by decide)
            have om27 := om24.put eI27 hk25 (by first | exact Or.inr rfl | exact Or.inl (by decide) | exact Or.inl (by omega))
            refine r_aload_n hC dX10_readVillage_116 3 rfl ?_
            refine r_getr hC 4 (ci := 10) rfl u10_in (by decide) mT_4_239 dX10_readVillage_117 ka0 rfl rfl hbr ?_
            refine r_dup hC dX10_readVillage_120 rfl ?_
            refine r_getiN hC 8 (ci := 9) rfl u9_in (by decide) nF_8 dX10_readVillage_121 krm rfl rfl (fun x28_ e28 => ?_)
            have r28 := hs27.rng krm rfl e28
            have f28 : x28_.toInt = (I27 rm 8).toInt := by rw [e28]
            have w28 : x28_ = x26_ := by rw [e28]; exact (Eq.trans (up2_kk eI27 hk25 krm (by decide)) e26.symm)
            have wt28 : x28_.toInt = x26_.toInt := by rw [w28]
            refine r_iconst hC (v := (1)) dX10_readVillage_124 (by decide) (by decide) (fun x29_ e29 t29 => ?_)
            refine r_iadd hC dX10_readVillage_125 (fun x30_ e30 => ?_)
            try have t30 : x30_.toInt = x28_.toInt + x29_.toInt := by rw [e30]; exact ti_add (by omega) (by omega)
            refine r_putiN hC 8 (ci := 9) rfl u9_in tyX9_ok nmX9 (by decide) nF_8 rfl rfl rfl dX10_readVillage_126 krm rfl rfl (fun I31 eI31 => ?_)
            have hs31 := hs27.put1 eI31 krm rfl (by omega) (by omega) rfl rfl (by decide)
            have hF31 := hF27.put eI31 krm rfl
            have tkp31 := tkp27.put eI31 krm ka0 (by decide)
            have fp31 : I31 a0 12 = I a0 12 := (up2_kk eI31 krm ka0 (by decide)).trans fp27
            have pg31 := pg27.put eI31 krm kns (by decide)
            have om31 := om27.put eI31 krm (by first | exact Or.inr rfl | exact Or.inl (by decide) | exact Or.inl (by omega))
            have hG0 : I31 rm 0 = G0 := (Eq.trans (up2_at (Or.inr (by decide)) eI31) (Eq.trans (up2_kk eI27 hk25 krm (by decide)) (Eq.trans (up2_kk eI24 hk22 krm (by decide)) (Eq.trans (up2_kk eI21 hk19 krm (by decide)) (Eq.trans (hf15.get krm rfl) (Eq.trans (hf12.get krm rfl) (Eq.trans (hf9.get krm rfl) (Eq.trans (hf6.get krm rfl) (Eq.trans (hf3.get krm rfl) eG0.symm)))))))))
            have hG0t : (I31 rm 0).toInt = G0.toInt := congrArg Int32.toInt hG0
            have hG1 : I31 rm 1 = G1 := (Eq.trans (up2_at (Or.inr (by decide)) eI31) (Eq.trans (up2_kk eI27 hk25 krm (by decide)) (Eq.trans (up2_kk eI24 hk22 krm (by decide)) (Eq.trans (up2_kk eI21 hk19 krm (by decide)) (Eq.trans (hf15.get krm rfl) (Eq.trans (hf12.get krm rfl) (Eq.trans (hf9.get krm rfl) (Eq.trans (hf6.get krm rfl) (Eq.trans (hf3.get krm rfl) eG1.symm)))))))))
            have hG1t : (I31 rm 1).toInt = G1.toInt := congrArg Int32.toInt hG1
            have hG2 : I31 rm 2 = G2 := (Eq.trans (up2_at (Or.inr (by decide)) eI31) (Eq.trans (up2_kk eI27 hk25 krm (by decide)) (Eq.trans (up2_kk eI24 hk22 krm (by decide)) (Eq.trans (up2_kk eI21 hk19 krm (by decide)) (Eq.trans (hf15.get krm rfl) (Eq.trans (hf12.get krm rfl) (Eq.trans (hf9.get krm rfl) (Eq.trans (hf6.get krm rfl) (Eq.trans (hf3.get krm rfl) eG2.symm)))))))))
            have hG2t : (I31 rm 2).toInt = G2.toInt := congrArg Int32.toInt hG2
            have hG3 : I31 rm 3 = G3 := (Eq.trans (up2_at (Or.inr (by decide)) eI31) (Eq.trans (up2_kk eI27 hk25 krm (by decide)) (Eq.trans (up2_kk eI24 hk22 krm (by decide)) (Eq.trans (up2_kk eI21 hk19 krm (by decide)) (Eq.trans (hf15.get krm rfl) (Eq.trans (hf12.get krm rfl) (Eq.trans (hf9.get krm rfl) (Eq.trans (hf6.get krm rfl) (Eq.trans (hf3.get krm rfl) eG3.symm)))))))))
            have hG3t : (I31 rm 3).toInt = G3.toInt := congrArg Int32.toInt hG3
            have hG4 : I31 rm 4 = G4 := (Eq.trans (up2_at (Or.inr (by decide)) eI31) (Eq.trans (up2_kk eI27 hk25 krm (by decide)) (Eq.trans (up2_kk eI24 hk22 krm (by decide)) (Eq.trans (up2_kk eI21 hk19 krm (by decide)) (Eq.trans (hf15.get krm rfl) (Eq.trans (hf12.get krm rfl) (Eq.trans (hf9.get krm rfl) (Eq.trans (hf6.get krm rfl) (Eq.trans (hf3.get krm rfl) eG4.symm)))))))))
            have hG4t : (I31 rm 4).toInt = G4.toInt := congrArg Int32.toInt hG4
            have hG5 : I31 rm 5 = G5 := (Eq.trans (up2_at (Or.inr (by decide)) eI31) (Eq.trans (up2_kk eI27 hk25 krm (by decide)) (Eq.trans (up2_kk eI24 hk22 krm (by decide)) (Eq.trans (up2_kk eI21 hk19 krm (by decide)) (Eq.trans (hf15.get krm rfl) (Eq.trans (hf12.get krm rfl) (Eq.trans (hf9.get krm rfl) (Eq.trans (hf6.get krm rfl) (Eq.trans (hf3.get krm rfl) eG5.symm)))))))))
            have hG5t : (I31 rm 5).toInt = G5.toInt := congrArg Int32.toInt hG5
            have hG6 : I31 rm 6 = G6 := (Eq.trans (up2_at (Or.inr (by decide)) eI31) (Eq.trans (up2_kk eI27 hk25 krm (by decide)) (Eq.trans (up2_kk eI24 hk22 krm (by decide)) (Eq.trans (up2_kk eI21 hk19 krm (by decide)) (Eq.trans (hf15.get krm rfl) (Eq.trans (hf12.get krm rfl) (Eq.trans (hf9.get krm rfl) (Eq.trans (hf6.get krm rfl) (Eq.trans (hf3.get krm rfl) eG6.symm)))))))))
            have hG6t : (I31 rm 6).toInt = G6.toInt := congrArg Int32.toInt hG6
            have hG7 : I31 rm 7 = G7 := (Eq.trans (up2_at (Or.inr (by decide)) eI31) (Eq.trans (up2_kk eI27 hk25 krm (by decide)) (Eq.trans (up2_kk eI24 hk22 krm (by decide)) (Eq.trans (up2_kk eI21 hk19 krm (by decide)) (Eq.trans (hf15.get krm rfl) (Eq.trans (hf12.get krm rfl) (Eq.trans (hf9.get krm rfl) (Eq.trans (hf6.get krm rfl) (Eq.trans (hf3.get krm rfl) eG7.symm)))))))))
            have hG7t : (I31 rm 7).toInt = G7.toInt := congrArg Int32.toInt hG7
            have hG8 : I31 rm 8 = x30_ := (by rw [eI31]; exact up2_self _ _ _ _)
            have hG8t : (I31 rm 8).toInt = x30_.toInt := congrArg Int32.toInt hG8
            have hG9 : I31 rm 9 = G9 := (Eq.trans (up2_at (Or.inr (by decide)) eI31) (Eq.trans (up2_kk eI27 hk25 krm (by decide)) (Eq.trans (up2_kk eI24 hk22 krm (by decide)) (Eq.trans (up2_kk eI21 hk19 krm (by decide)) (Eq.trans (hf15.get krm rfl) (Eq.trans (hf12.get krm rfl) (Eq.trans (hf9.get krm rfl) (Eq.trans (hf6.get krm rfl) (Eq.trans (hf3.get krm rfl) eG9.symm)))))))))
            have hG9t : (I31 rm 9).toInt = G9.toInt := congrArg Int32.toInt hG9
            have hG10 : I31 rm 10 = N1 := (Eq.trans (up2_at (Or.inr (by decide)) eI31) (Eq.trans (up2_kk eI27 hk25 krm (by decide)) (Eq.trans (up2_kk eI24 hk22 krm (by decide)) (Eq.trans (up2_kk eI21 hk19 krm (by decide)) (Eq.trans (hf15.get krm rfl) (Eq.trans (hf12.get krm rfl) (Eq.trans (hf9.get krm rfl) eN1.symm)))))))
            have hG10t : (I31 rm 10).toInt = N1.toInt := congrArg Int32.toInt hG10
            exact r_vret hC hQ hlk hr (by decide) (by decide) dX10_readVillage_129 ⟨_, _, rfl, rfl, ⟨hs31, hF31, hFJ15, (by first | exact Or.inl ⟨(upD (adN D (vl B n (nx B n p))) 0 8 ((adN D (vl B n (nx B n p))) 0 8 + 1)), _, by unfold sVillage; rw [pif_f (show ¬ 4 ≤ D 0 8 by omega), hsp6, bnd_ok, hsp9, bnd_ok, hsp12, bnd_ok, hsp15, bnd_ok], hp15, tkp31, ⟨by unfold SM; simp [upD, adN]; omega, nm15.cg (by simp [upD]) (by intro j; simp [upD]), pg31.cg (by simp [upD]) (by intro j; simp [upD]) (by simp [upD]) (by intro j; simp [upD])⟩, fp31⟩ | exact Or.inr ⟨NOekf, NOeqf, by unfold sVillage; rw [pif_f (show ¬ 4 ≤ D 0 8 by omega), hsp6, bnd_ok, hsp9, bnd_ok, hsp12, bnd_ok, hsp15, bnd_ok], by omega, by omega, by omega⟩), (by exact om31)⟩⟩
          · rw [show x13_.toInt = 0 by omega, show x14_.toInt = 30 by omega] at hsp15
            refine r_istore_n hC (lv' := [(3, .int x15_), (2, .int x12_), (1, .int x9_), (0, .ref a0)]) dX10_readVillage_58 (by decide) rfl ?_
            refine r_aload_n hC dX10_readVillage_59 3 rfl ?_
            refine r_geti hC 9 (ci := 10) rfl u10_in (by decide) mT_5_4 dX10_readVillage_60 ka0 rfl rfl (fun x32_ e32 => ?_)
            have f32 : x32_.toInt = (I15 a0 9).toInt := by rw [e32]
            refine r_iconst hC (v := (5)) dX10_readVillage_63 (by decide) (by decide) (fun x33_ e33 t33 => ?_)
            refine r_icmp_ne hC (tgt := 68) dX10_readVillage_64 (by decide) (fun c34 => ?_) (fun c34 => ?_)
            · exfalso; omega
            have hG0 : I15 rm 0 = G0 := (Eq.trans (hf15.get krm rfl) (Eq.trans (hf12.get krm rfl) (Eq.trans (hf9.get krm rfl) (Eq.trans (hf6.get krm rfl) (Eq.trans (hf3.get krm rfl) eG0.symm)))))
            have hG0t : (I15 rm 0).toInt = G0.toInt := congrArg Int32.toInt hG0
            have hG1 : I15 rm 1 = G1 := (Eq.trans (hf15.get krm rfl) (Eq.trans (hf12.get krm rfl) (Eq.trans (hf9.get krm rfl) (Eq.trans (hf6.get krm rfl) (Eq.trans (hf3.get krm rfl) eG1.symm)))))
            have hG1t : (I15 rm 1).toInt = G1.toInt := congrArg Int32.toInt hG1
            have hG2 : I15 rm 2 = G2 := (Eq.trans (hf15.get krm rfl) (Eq.trans (hf12.get krm rfl) (Eq.trans (hf9.get krm rfl) (Eq.trans (hf6.get krm rfl) (Eq.trans (hf3.get krm rfl) eG2.symm)))))
            have hG2t : (I15 rm 2).toInt = G2.toInt := congrArg Int32.toInt hG2
            have hG3 : I15 rm 3 = G3 := (Eq.trans (hf15.get krm rfl) (Eq.trans (hf12.get krm rfl) (Eq.trans (hf9.get krm rfl) (Eq.trans (hf6.get krm rfl) (Eq.trans (hf3.get krm rfl) eG3.symm)))))
            have hG3t : (I15 rm 3).toInt = G3.toInt := congrArg Int32.toInt hG3
            have hG4 : I15 rm 4 = G4 := (Eq.trans (hf15.get krm rfl) (Eq.trans (hf12.get krm rfl) (Eq.trans (hf9.get krm rfl) (Eq.trans (hf6.get krm rfl) (Eq.trans (hf3.get krm rfl) eG4.symm)))))
            have hG4t : (I15 rm 4).toInt = G4.toInt := congrArg Int32.toInt hG4
            have hG5 : I15 rm 5 = G5 := (Eq.trans (hf15.get krm rfl) (Eq.trans (hf12.get krm rfl) (Eq.trans (hf9.get krm rfl) (Eq.trans (hf6.get krm rfl) (Eq.trans (hf3.get krm rfl) eG5.symm)))))
            have hG5t : (I15 rm 5).toInt = G5.toInt := congrArg Int32.toInt hG5
            have hG6 : I15 rm 6 = G6 := (Eq.trans (hf15.get krm rfl) (Eq.trans (hf12.get krm rfl) (Eq.trans (hf9.get krm rfl) (Eq.trans (hf6.get krm rfl) (Eq.trans (hf3.get krm rfl) eG6.symm)))))
            have hG6t : (I15 rm 6).toInt = G6.toInt := congrArg Int32.toInt hG6
            have hG7 : I15 rm 7 = G7 := (Eq.trans (hf15.get krm rfl) (Eq.trans (hf12.get krm rfl) (Eq.trans (hf9.get krm rfl) (Eq.trans (hf6.get krm rfl) (Eq.trans (hf3.get krm rfl) eG7.symm)))))
            have hG7t : (I15 rm 7).toInt = G7.toInt := congrArg Int32.toInt hG7
            have hG8 : I15 rm 8 = x5_ := (Eq.trans (hf15.get krm rfl) (Eq.trans (hf12.get krm rfl) (Eq.trans (hf9.get krm rfl) (Eq.trans (hf6.get krm rfl) e5.symm))))
            have hG8t : (I15 rm 8).toInt = x5_.toInt := congrArg Int32.toInt hG8
            have hG9 : I15 rm 9 = G9 := (Eq.trans (hf15.get krm rfl) (Eq.trans (hf12.get krm rfl) (Eq.trans (hf9.get krm rfl) (Eq.trans (hf6.get krm rfl) (Eq.trans (hf3.get krm rfl) eG9.symm)))))
            have hG9t : (I15 rm 9).toInt = G9.toInt := congrArg Int32.toInt hG9
            have hG10 : I15 rm 10 = N1 := (Eq.trans (hf15.get krm rfl) (Eq.trans (hf12.get krm rfl) (Eq.trans (hf9.get krm rfl) eN1.symm)))
            have hG10t : (I15 rm 10).toInt = N1.toInt := congrArg Int32.toInt hG10
            exact r_vret hC hQ hlk hr (by decide) (by decide) dX10_readVillage_67 ⟨_, _, rfl, rfl, ⟨hs15, hF15, hFJ15, (by first | exact Or.inl ⟨(upD (adN D (vl B n (nx B n p))) 0 8 ((adN D (vl B n (nx B n p))) 0 8 + 1)), _, by unfold sVillage; rw [pif_f (show ¬ 4 ≤ D 0 8 by omega), hsp6, bnd_ok, hsp9, bnd_ok, hsp12, bnd_ok, hsp15, bnd_er], hp12, tk12, ⟨by unfold SM; simp [upD, adN]; omega, nm15.cg (by simp [upD]) (by intro j; simp [upD]), pg15.cg (by simp [upD]) (by intro j; simp [upD]) (by simp [upD]) (by intro j; simp [upD])⟩, fq12⟩ | exact Or.inr ⟨kf15, qf15, by unfold sVillage; rw [pif_f (show ¬ 4 ≤ D 0 8 by omega), hsp6, bnd_ok, hsp9, bnd_ok, hsp12, bnd_ok, hsp15, bnd_er], by omega, by omega, by omega⟩), (by exact om15)⟩⟩
        · rw [show x10_.toInt = 1 by omega, show x11_.toInt = 999 by omega] at hsp12
          refine r_istore_n hC (lv' := [(2, .int x12_), (1, .int x9_), (0, .ref a0)]) dX10_readVillage_47 (by decide) rfl ?_
          refine r_aload_n hC dX10_readVillage_48 2 rfl ?_
          refine r_ldcwS hC (i := 57) (by decide) rfl rfl dX10_readVillage_49 ?_
          refine r_iconst hC (v := (0)) dX10_readVillage_52 (by decide) (by decide) (fun x35_ e35 t35 => ?_)
          refine r_bipush hC (v := (30)) dX10_readVillage_53 (by decide) (by decide) (fun x36_ e36 t36 => ?_)
          refine r_callV hC (As := [.ref (g.2.2.1 57), .int x35_, .int x36_]) (rest := []) (ci := 10) (e_X10_readPart g (xL X) K len I12 J12 R hs12 a0 ka0 57 (by decide) x35_ x36_ (by omega)) mT_6_1 mT_1_10 mT_5_238 mT_6_0 mP_56 okX10_readPart ⟨by decide, by decide⟩ rfl (by show kO (K a0) = _; rw [ka0]; rfl) rfl rfl (Nat.le_of_ble_eq_true rfl) ⟨by decide, by decide⟩ dX10_readVillage_55 (aI2 (F := fun st M => P g X 4 58 [(2, .int x12_), (1, .int x9_), (0, .ref a0)] st _ _ M) (M := (K, len, I12, J12, R)) fun x37_ I37 J37 h37 => ?_)
          obtain ⟨hs37, hf37, hfj37, k37_0, k37_1, k37_2⟩ := h37
          show P g X 4 58 [(2, .int x12_), (1, .int x9_), (0, .ref a0)] [.int x37_] _ _ (K, len, I37, J37, R)
          have hF37 : Fr K [(10, 8), (10, 10), (11, 8), (11, 9), (11, 10), (11, 11), (11, 12), (11, 13), (77, 999), (78, 999), (79, 999), (83, 999), (84, 999)] I I37 := hF12.trans hf37 rfl rfl
          have hFJ37 : Fr K [(11, 14), (82, 999)] J J37 := hFJ12.trans hfj37 rfl rfl
          have om37 := om12.mv hf37 rfl
          refine r_istore_n hC (lv' := [(3, .int x37_), (2, .int x12_), (1, .int x9_), (0, .ref a0)]) dX10_readVillage_58 (by decide) rfl ?_
          refine r_aload_n hC dX10_readVillage_59 3 rfl ?_
          refine r_geti hC 9 (ci := 10) rfl u10_in (by decide) mT_5_4 dX10_readVillage_60 ka0 rfl rfl (fun x38_ e38 => ?_)
          have f38 : x38_.toInt = (I37 a0 9).toInt := by rw [e38]
          refine r_iconst hC (v := (5)) dX10_readVillage_63 (by decide) (by decide) (fun x39_ e39 t39 => ?_)
          refine r_icmp_ne hC (tgt := 68) dX10_readVillage_64 (by decide) (fun c40 => ?_) (fun c40 => ?_)
          · exfalso; omega
          have hG0 : I37 rm 0 = G0 := (Eq.trans (hf37.get krm rfl) (Eq.trans (hf12.get krm rfl) (Eq.trans (hf9.get krm rfl) (Eq.trans (hf6.get krm rfl) (Eq.trans (hf3.get krm rfl) eG0.symm)))))
          have hG0t : (I37 rm 0).toInt = G0.toInt := congrArg Int32.toInt hG0
          have hG1 : I37 rm 1 = G1 := (Eq.trans (hf37.get krm rfl) (Eq.trans (hf12.get krm rfl) (Eq.trans (hf9.get krm rfl) (Eq.trans (hf6.get krm rfl) (Eq.trans (hf3.get krm rfl) eG1.symm)))))
          have hG1t : (I37 rm 1).toInt = G1.toInt := congrArg Int32.toInt hG1
          have hG2 : I37 rm 2 = G2 := (Eq.trans (hf37.get krm rfl) (Eq.trans (hf12.get krm rfl) (Eq.trans (hf9.get krm rfl) (Eq.trans (hf6.get krm rfl) (Eq.trans (hf3.get krm rfl) eG2.symm)))))
          have hG2t : (I37 rm 2).toInt = G2.toInt := congrArg Int32.toInt hG2
          have hG3 : I37 rm 3 = G3 := (Eq.trans (hf37.get krm rfl) (Eq.trans (hf12.get krm rfl) (Eq.trans (hf9.get krm rfl) (Eq.trans (hf6.get krm rfl) (Eq.trans (hf3.get krm rfl) eG3.symm)))))
          have hG3t : (I37 rm 3).toInt = G3.toInt := congrArg Int32.toInt hG3
          have hG4 : I37 rm 4 = G4 := (Eq.trans (hf37.get krm rfl) (Eq.trans (hf12.get krm rfl) (Eq.trans (hf9.get krm rfl) (Eq.trans (hf6.get krm rfl) (Eq.trans (hf3.get krm rfl) eG4.symm)))))
          have hG4t : (I37 rm 4).toInt = G4.toInt := congrArg Int32.toInt hG4
          have hG5 : I37 rm 5 = G5 := (Eq.trans (hf37.get krm rfl) (Eq.trans (hf12.get krm rfl) (Eq.trans (hf9.get krm rfl) (Eq.trans (hf6.get krm rfl) (Eq.trans (hf3.get krm rfl) eG5.symm)))))
          have hG5t : (I37 rm 5).toInt = G5.toInt := congrArg Int32.toInt hG5
          have hG6 : I37 rm 6 = G6 := (Eq.trans (hf37.get krm rfl) (Eq.trans (hf12.get krm rfl) (Eq.trans (hf9.get krm rfl) (Eq.trans (hf6.get krm rfl) (Eq.trans (hf3.get krm rfl) eG6.symm)))))
          have hG6t : (I37 rm 6).toInt = G6.toInt := congrArg Int32.toInt hG6
          have hG7 : I37 rm 7 = G7 := (Eq.trans (hf37.get krm rfl) (Eq.trans (hf12.get krm rfl) (Eq.trans (hf9.get krm rfl) (Eq.trans (hf6.get krm rfl) (Eq.trans (hf3.get krm rfl) eG7.symm)))))
          have hG7t : (I37 rm 7).toInt = G7.toInt := congrArg Int32.toInt hG7
          have hG8 : I37 rm 8 = x5_ := (Eq.trans (hf37.get krm rfl) (Eq.trans (hf12.get krm rfl) (Eq.trans (hf9.get krm rfl) (Eq.trans (hf6.get krm rfl) e5.symm))))
          have hG8t : (I37 rm 8).toInt = x5_.toInt := congrArg Int32.toInt hG8
          have hG9 : I37 rm 9 = G9 := (Eq.trans (hf37.get krm rfl) (Eq.trans (hf12.get krm rfl) (Eq.trans (hf9.get krm rfl) (Eq.trans (hf6.get krm rfl) (Eq.trans (hf3.get krm rfl) eG9.symm)))))
          have hG9t : (I37 rm 9).toInt = G9.toInt := congrArg Int32.toInt hG9
          have hG10 : I37 rm 10 = N1 := (Eq.trans (hf37.get krm rfl) (Eq.trans (hf12.get krm rfl) (Eq.trans (hf9.get krm rfl) eN1.symm)))
          have hG10t : (I37 rm 10).toInt = N1.toInt := congrArg Int32.toInt hG10
          exact r_vret hC hQ hlk hr (by decide) (by decide) dX10_readVillage_67 ⟨_, _, rfl, rfl, ⟨hs37, hF37, hFJ37, (by first | exact Or.inl ⟨(upD (adN D (vl B n (nx B n p))) 0 8 ((adN D (vl B n (nx B n p))) 0 8 + 1)), _, by unfold sVillage; rw [pif_f (show ¬ 4 ≤ D 0 8 by omega), hsp6, bnd_ok, hsp9, bnd_ok, hsp12, bnd_er], hp9, tk9, ⟨by unfold SM; simp [upD, adN]; omega, nm12.cg (by simp [upD]) (by intro j; simp [upD]), pg12.cg (by simp [upD]) (by intro j; simp [upD]) (by simp [upD]) (by intro j; simp [upD])⟩, fq9⟩ | exact Or.inr ⟨kf12, qf12, by unfold sVillage; rw [pif_f (show ¬ 4 ≤ D 0 8 by omega), hsp6, bnd_ok, hsp9, bnd_ok, hsp12, bnd_er], by omega, by omega, by omega⟩), (by exact om37)⟩⟩
      · rw [show x7_.toInt = 0 by omega, show x8_.toInt = 999 by omega] at hsp9
        refine r_istore_n hC (lv' := [(1, .int x9_), (0, .ref a0)]) dX10_readVillage_35 (by decide) rfl ?_
        refine r_aload_n hC dX10_readVillage_36 1 rfl ?_
        refine r_ldcwS hC (i := 56) (by decide) rfl rfl dX10_readVillage_37 ?_
        refine r_iconst hC (v := (1)) dX10_readVillage_40 (by decide) (by decide) (fun x41_ e41 t41 => ?_)
        refine r_sipush hC (v := (999)) dX10_readVillage_41 (by decide) (by decide) (fun x42_ e42 t42 => ?_)
        refine r_callV hC (As := [.ref (g.2.2.1 56), .int x41_, .int x42_]) (rest := []) (ci := 10) (e_X10_readPart g (xL X) K len I9 J9 R hs9 a0 ka0 56 (by decide) x41_ x42_ (by omega)) mT_6_1 mT_1_10 mT_5_238 mT_6_0 mP_56 okX10_readPart ⟨by decide, by decide⟩ rfl (by show kO (K a0) = _; rw [ka0]; rfl) rfl rfl (Nat.le_of_ble_eq_true rfl) ⟨by decide, by decide⟩ dX10_readVillage_44 (aI2 (F := fun st M => P g X 4 47 [(1, .int x9_), (0, .ref a0)] st _ _ M) (M := (K, len, I9, J9, R)) fun x43_ I43 J43 h43 => ?_)
        obtain ⟨hs43, hf43, hfj43, k43_0, k43_1, k43_2⟩ := h43
        show P g X 4 47 [(1, .int x9_), (0, .ref a0)] [.int x43_] _ _ (K, len, I43, J43, R)
        have hF43 : Fr K [(10, 8), (10, 10), (11, 8), (11, 9), (11, 10), (11, 11), (11, 12), (11, 13), (77, 999), (78, 999), (79, 999), (83, 999), (84, 999)] I I43 := hF9.trans hf43 rfl rfl
        have hFJ43 : Fr K [(11, 14), (82, 999)] J J43 := hFJ9.trans hfj43 rfl rfl
        have om43 := om9.mv hf43 rfl
        refine r_istore_n hC (lv' := [(2, .int x43_), (1, .int x9_), (0, .ref a0)]) dX10_readVillage_47 (by decide) rfl ?_
        refine r_aload_n hC dX10_readVillage_48 2 rfl ?_
        refine r_ldcwS hC (i := 57) (by decide) rfl rfl dX10_readVillage_49 ?_
        refine r_iconst hC (v := (0)) dX10_readVillage_52 (by decide) (by decide) (fun x44_ e44 t44 => ?_)
        refine r_bipush hC (v := (30)) dX10_readVillage_53 (by decide) (by decide) (fun x45_ e45 t45 => ?_)
        refine r_callV hC (As := [.ref (g.2.2.1 57), .int x44_, .int x45_]) (rest := []) (ci := 10) (e_X10_readPart g (xL X) K len I43 J43 R hs43 a0 ka0 57 (by decide) x44_ x45_ (by omega)) mT_6_1 mT_1_10 mT_5_238 mT_6_0 mP_56 okX10_readPart ⟨by decide, by decide⟩ rfl (by show kO (K a0) = _; rw [ka0]; rfl) rfl rfl (Nat.le_of_ble_eq_true rfl) ⟨by decide, by decide⟩ dX10_readVillage_55 (aI2 (F := fun st M => P g X 4 58 [(2, .int x43_), (1, .int x9_), (0, .ref a0)] st _ _ M) (M := (K, len, I43, J43, R)) fun x46_ I46 J46 h46 => ?_)
        obtain ⟨hs46, hf46, hfj46, k46_0, k46_1, k46_2⟩ := h46
        show P g X 4 58 [(2, .int x43_), (1, .int x9_), (0, .ref a0)] [.int x46_] _ _ (K, len, I46, J46, R)
        have hF46 : Fr K [(10, 8), (10, 10), (11, 8), (11, 9), (11, 10), (11, 11), (11, 12), (11, 13), (77, 999), (78, 999), (79, 999), (83, 999), (84, 999)] I I46 := hF43.trans hf46 rfl rfl
        have hFJ46 : Fr K [(11, 14), (82, 999)] J J46 := hFJ43.trans hfj46 rfl rfl
        have om46 := om43.mv hf46 rfl
        refine r_istore_n hC (lv' := [(3, .int x46_), (2, .int x43_), (1, .int x9_), (0, .ref a0)]) dX10_readVillage_58 (by decide) rfl ?_
        refine r_aload_n hC dX10_readVillage_59 3 rfl ?_
        refine r_geti hC 9 (ci := 10) rfl u10_in (by decide) mT_5_4 dX10_readVillage_60 ka0 rfl rfl (fun x47_ e47 => ?_)
        have f47 : x47_.toInt = (I46 a0 9).toInt := by rw [e47]
        refine r_iconst hC (v := (5)) dX10_readVillage_63 (by decide) (by decide) (fun x48_ e48 t48 => ?_)
        refine r_icmp_ne hC (tgt := 68) dX10_readVillage_64 (by decide) (fun c49 => ?_) (fun c49 => ?_)
        · exfalso; omega
        have hG0 : I46 rm 0 = G0 := (Eq.trans (hf46.get krm rfl) (Eq.trans (hf43.get krm rfl) (Eq.trans (hf9.get krm rfl) (Eq.trans (hf6.get krm rfl) (Eq.trans (hf3.get krm rfl) eG0.symm)))))
        have hG0t : (I46 rm 0).toInt = G0.toInt := congrArg Int32.toInt hG0
        have hG1 : I46 rm 1 = G1 := (Eq.trans (hf46.get krm rfl) (Eq.trans (hf43.get krm rfl) (Eq.trans (hf9.get krm rfl) (Eq.trans (hf6.get krm rfl) (Eq.trans (hf3.get krm rfl) eG1.symm)))))
        have hG1t : (I46 rm 1).toInt = G1.toInt := congrArg Int32.toInt hG1
        have hG2 : I46 rm 2 = G2 := (Eq.trans (hf46.get krm rfl) (Eq.trans (hf43.get krm rfl) (Eq.trans (hf9.get krm rfl) (Eq.trans (hf6.get krm rfl) (Eq.trans (hf3.get krm rfl) eG2.symm)))))
        have hG2t : (I46 rm 2).toInt = G2.toInt := congrArg Int32.toInt hG2
        have hG3 : I46 rm 3 = G3 := (Eq.trans (hf46.get krm rfl) (Eq.trans (hf43.get krm rfl) (Eq.trans (hf9.get krm rfl) (Eq.trans (hf6.get krm rfl) (Eq.trans (hf3.get krm rfl) eG3.symm)))))
        have hG3t : (I46 rm 3).toInt = G3.toInt := congrArg Int32.toInt hG3
        have hG4 : I46 rm 4 = G4 := (Eq.trans (hf46.get krm rfl) (Eq.trans (hf43.get krm rfl) (Eq.trans (hf9.get krm rfl) (Eq.trans (hf6.get krm rfl) (Eq.trans (hf3.get krm rfl) eG4.symm)))))
        have hG4t : (I46 rm 4).toInt = G4.toInt := congrArg Int32.toInt hG4
        have hG5 : I46 rm 5 = G5 := (Eq.trans (hf46.get krm rfl) (Eq.trans (hf43.get krm rfl) (Eq.trans (hf9.get krm rfl) (Eq.trans (hf6.get krm rfl) (Eq.trans (hf3.get krm rfl) eG5.symm)))))
        have hG5t : (I46 rm 5).toInt = G5.toInt := congrArg Int32.toInt hG5
        have hG6 : I46 rm 6 = G6 := (Eq.trans (hf46.get krm rfl) (Eq.trans (hf43.get krm rfl) (Eq.trans (hf9.get krm rfl) (Eq.trans (hf6.get krm rfl) (Eq.trans (hf3.get krm rfl) eG6.symm)))))
        have hG6t : (I46 rm 6).toInt = G6.toInt := congrArg Int32.toInt hG6
        have hG7 : I46 rm 7 = G7 := (Eq.trans (hf46.get krm rfl) (Eq.trans (hf43.get krm rfl) (Eq.trans (hf9.get krm rfl) (Eq.trans (hf6.get krm rfl) (Eq.trans (hf3.get krm rfl) eG7.symm)))))
        have hG7t : (I46 rm 7).toInt = G7.toInt := congrArg Int32.toInt hG7
        have hG8 : I46 rm 8 = x5_ := (Eq.trans (hf46.get krm rfl) (Eq.trans (hf43.get krm rfl) (Eq.trans (hf9.get krm rfl) (Eq.trans (hf6.get krm rfl) e5.symm))))
        have hG8t : (I46 rm 8).toInt = x5_.toInt := congrArg Int32.toInt hG8
        have hG9 : I46 rm 9 = G9 := (Eq.trans (hf46.get krm rfl) (Eq.trans (hf43.get krm rfl) (Eq.trans (hf9.get krm rfl) (Eq.trans (hf6.get krm rfl) (Eq.trans (hf3.get krm rfl) eG9.symm)))))
        have hG9t : (I46 rm 9).toInt = G9.toInt := congrArg Int32.toInt hG9
        have hG10 : I46 rm 10 = N1 := (Eq.trans (hf46.get krm rfl) (Eq.trans (hf43.get krm rfl) (Eq.trans (hf9.get krm rfl) eN1.symm)))
        have hG10t : (I46 rm 10).toInt = N1.toInt := congrArg Int32.toInt hG10
        exact r_vret hC hQ hlk hr (by decide) (by decide) dX10_readVillage_67 ⟨_, _, rfl, rfl, ⟨hs46, hF46, hFJ46, (by first | exact Or.inl ⟨(upD (adN D (vl B n (nx B n p))) 0 8 ((adN D (vl B n (nx B n p))) 0 8 + 1)), _, by unfold sVillage; rw [pif_f (show ¬ 4 ≤ D 0 8 by omega), hsp6, bnd_ok, hsp9, bnd_er], (nx_le (nx_le hp).2).2, tk6, ⟨by unfold SM; simp [upD, adN]; omega, nm9.cg (by simp [upD]) (by intro j; simp [upD]), pg9.cg (by simp [upD]) (by intro j; simp [upD]) (by simp [upD]) (by intro j; simp [upD])⟩, fq6⟩ | exact Or.inr ⟨kf9, qf9, by unfold sVillage; rw [pif_f (show ¬ 4 ≤ D 0 8 by omega), hsp6, bnd_ok, hsp9, bnd_er], by omega, by omega, by omega⟩), (by exact om46)⟩⟩
    · obtain ⟨N1, eN1⟩ : ∃ z : Int32, z = I6 rm 10 := ⟨_, rfl⟩
      have fN1 : N1.toInt = (I6 rm 10).toInt := by rw [eN1]
      have rN1 := hs6.rng krm rfl eN1
      refine r_aload_n hC dX10_readVillage_24 0 rfl ?_
      refine r_ldcwS hC (i := 55) (by decide) rfl rfl dX10_readVillage_25 ?_
      refine r_iconst hC (v := (0)) dX10_readVillage_28 (by decide) (by decide) (fun x50_ e50 t50 => ?_)
      refine r_sipush hC (v := (999)) dX10_readVillage_29 (by decide) (by decide) (fun x51_ e51 t51 => ?_)
      refine r_callV hC (As := [.ref (g.2.2.1 55), .int x50_, .int x51_]) (rest := []) (ci := 10) (e_X10_readPart g (xL X) K len I6 J6 R hs6 a0 ka0 55 (by decide) x50_ x51_ (by omega)) mT_6_1 mT_1_10 mT_5_238 mT_6_0 mP_56 okX10_readPart ⟨by decide, by decide⟩ rfl (by show kO (K a0) = _; rw [ka0]; rfl) rfl rfl (Nat.le_of_ble_eq_true rfl) ⟨by decide, by decide⟩ dX10_readVillage_32 (aI2 (F := fun st M => P g X 4 35 [(0, .ref a0)] st _ _ M) (M := (K, len, I6, J6, R)) fun x52_ I52 J52 h52 => ?_)
      obtain ⟨hs52, hf52, hfj52, k52_0, k52_1, k52_2⟩ := h52
      show P g X 4 35 [(0, .ref a0)] [.int x52_] _ _ (K, len, I52, J52, R)
      have hF52 : Fr K [(10, 8), (10, 10), (11, 8), (11, 9), (11, 10), (11, 11), (11, 12), (11, 13), (77, 999), (78, 999), (79, 999), (83, 999), (84, 999)] I I52 := hF6.trans hf52 rfl rfl
      have hFJ52 : Fr K [(11, 14), (82, 999)] J J52 := hFJ6.trans hfj52 rfl rfl
      have om52 := om6.mv hf52 rfl
      refine r_istore_n hC (lv' := [(1, .int x52_), (0, .ref a0)]) dX10_readVillage_35 (by decide) rfl ?_
      refine r_aload_n hC dX10_readVillage_36 1 rfl ?_
      refine r_ldcwS hC (i := 56) (by decide) rfl rfl dX10_readVillage_37 ?_
      refine r_iconst hC (v := (1)) dX10_readVillage_40 (by decide) (by decide) (fun x53_ e53 t53 => ?_)
      refine r_sipush hC (v := (999)) dX10_readVillage_41 (by decide) (by decide) (fun x54_ e54 t54 => ?_)
      refine r_callV hC (As := [.ref (g.2.2.1 56), .int x53_, .int x54_]) (rest := []) (ci := 10) (e_X10_readPart g (xL X) K len I52 J52 R hs52 a0 ka0 56 (by decide) x53_ x54_ (by omega)) mT_6_1 mT_1_10 mT_5_238 mT_6_0 mP_56 okX10_readPart ⟨by decide, by decide⟩ rfl (by show kO (K a0) = _; rw [ka0]; rfl) rfl rfl (Nat.le_of_ble_eq_true rfl) ⟨by decide, by decide⟩ dX10_readVillage_44 (aI2 (F := fun st M => P g X 4 47 [(1, .int x52_), (0, .ref a0)] st _ _ M) (M := (K, len, I52, J52, R)) fun x55_ I55 J55 h55 => ?_)
      obtain ⟨hs55, hf55, hfj55, k55_0, k55_1, k55_2⟩ := h55
      show P g X 4 47 [(1, .int x52_), (0, .ref a0)] [.int x55_] _ _ (K, len, I55, J55, R)
      have hF55 : Fr K [(10, 8), (10, 10), (11, 8), (11, 9), (11, 10), (11, 11), (11, 12), (11, 13), (77, 999), (78, 999), (79, 999), (83, 999), (84, 999)] I I55 := hF52.trans hf55 rfl rfl
      have hFJ55 : Fr K [(11, 14), (82, 999)] J J55 := hFJ52.trans hfj55 rfl rfl
      have om55 := om52.mv hf55 rfl
      refine r_istore_n hC (lv' := [(2, .int x55_), (1, .int x52_), (0, .ref a0)]) dX10_readVillage_47 (by decide) rfl ?_
      refine r_aload_n hC dX10_readVillage_48 2 rfl ?_
      refine r_ldcwS hC (i := 57) (by decide) rfl rfl dX10_readVillage_49 ?_
      refine r_iconst hC (v := (0)) dX10_readVillage_52 (by decide) (by decide) (fun x56_ e56 t56 => ?_)
      refine r_bipush hC (v := (30)) dX10_readVillage_53 (by decide) (by decide) (fun x57_ e57 t57 => ?_)
      refine r_callV hC (As := [.ref (g.2.2.1 57), .int x56_, .int x57_]) (rest := []) (ci := 10) (e_X10_readPart g (xL X) K len I55 J55 R hs55 a0 ka0 57 (by decide) x56_ x57_ (by omega)) mT_6_1 mT_1_10 mT_5_238 mT_6_0 mP_56 okX10_readPart ⟨by decide, by decide⟩ rfl (by show kO (K a0) = _; rw [ka0]; rfl) rfl rfl (Nat.le_of_ble_eq_true rfl) ⟨by decide, by decide⟩ dX10_readVillage_55 (aI2 (F := fun st M => P g X 4 58 [(2, .int x55_), (1, .int x52_), (0, .ref a0)] st _ _ M) (M := (K, len, I55, J55, R)) fun x58_ I58 J58 h58 => ?_)
      obtain ⟨hs58, hf58, hfj58, k58_0, k58_1, k58_2⟩ := h58
      show P g X 4 58 [(2, .int x55_), (1, .int x52_), (0, .ref a0)] [.int x58_] _ _ (K, len, I58, J58, R)
      have hF58 : Fr K [(10, 8), (10, 10), (11, 8), (11, 9), (11, 10), (11, 11), (11, 12), (11, 13), (77, 999), (78, 999), (79, 999), (83, 999), (84, 999)] I I58 := hF55.trans hf58 rfl rfl
      have hFJ58 : Fr K [(11, 14), (82, 999)] J J58 := hFJ55.trans hfj58 rfl rfl
      have om58 := om55.mv hf58 rfl
      refine r_istore_n hC (lv' := [(3, .int x58_), (2, .int x55_), (1, .int x52_), (0, .ref a0)]) dX10_readVillage_58 (by decide) rfl ?_
      refine r_aload_n hC dX10_readVillage_59 3 rfl ?_
      refine r_geti hC 9 (ci := 10) rfl u10_in (by decide) mT_5_4 dX10_readVillage_60 ka0 rfl rfl (fun x59_ e59 => ?_)
      have f59 : x59_.toInt = (I58 a0 9).toInt := by rw [e59]
      refine r_iconst hC (v := (5)) dX10_readVillage_63 (by decide) (by decide) (fun x60_ e60 t60 => ?_)
      refine r_icmp_ne hC (tgt := 68) dX10_readVillage_64 (by decide) (fun c61 => ?_) (fun c61 => ?_)
      · exfalso; omega
      have hG0 : I58 rm 0 = G0 := (Eq.trans (hf58.get krm rfl) (Eq.trans (hf55.get krm rfl) (Eq.trans (hf52.get krm rfl) (Eq.trans (hf6.get krm rfl) (Eq.trans (hf3.get krm rfl) eG0.symm)))))
      have hG0t : (I58 rm 0).toInt = G0.toInt := congrArg Int32.toInt hG0
      have hG1 : I58 rm 1 = G1 := (Eq.trans (hf58.get krm rfl) (Eq.trans (hf55.get krm rfl) (Eq.trans (hf52.get krm rfl) (Eq.trans (hf6.get krm rfl) (Eq.trans (hf3.get krm rfl) eG1.symm)))))
      have hG1t : (I58 rm 1).toInt = G1.toInt := congrArg Int32.toInt hG1
      have hG2 : I58 rm 2 = G2 := (Eq.trans (hf58.get krm rfl) (Eq.trans (hf55.get krm rfl) (Eq.trans (hf52.get krm rfl) (Eq.trans (hf6.get krm rfl) (Eq.trans (hf3.get krm rfl) eG2.symm)))))
      have hG2t : (I58 rm 2).toInt = G2.toInt := congrArg Int32.toInt hG2
      have hG3 : I58 rm 3 = G3 := (Eq.trans (hf58.get krm rfl) (Eq.trans (hf55.get krm rfl) (Eq.trans (hf52.get krm rfl) (Eq.trans (hf6.get krm rfl) (Eq.trans (hf3.get krm rfl) eG3.symm)))))
      have hG3t : (I58 rm 3).toInt = G3.toInt := congrArg Int32.toInt hG3
      have hG4 : I58 rm 4 = G4 := (Eq.trans (hf58.get krm rfl) (Eq.trans (hf55.get krm rfl) (Eq.trans (hf52.get krm rfl) (Eq.trans (hf6.get krm rfl) (Eq.trans (hf3.get krm rfl) eG4.symm)))))
      have hG4t : (I58 rm 4).toInt = G4.toInt := congrArg Int32.toInt hG4
      have hG5 : I58 rm 5 = G5 := (Eq.trans (hf58.get krm rfl) (Eq.trans (hf55.get krm rfl) (Eq.trans (hf52.get krm rfl) (Eq.trans (hf6.get krm rfl) (Eq.trans (hf3.get krm rfl) eG5.symm)))))
      have hG5t : (I58 rm 5).toInt = G5.toInt := congrArg Int32.toInt hG5
      have hG6 : I58 rm 6 = G6 := (Eq.trans (hf58.get krm rfl) (Eq.trans (hf55.get krm rfl) (Eq.trans (hf52.get krm rfl) (Eq.trans (hf6.get krm rfl) (Eq.trans (hf3.get krm rfl) eG6.symm)))))
      have hG6t : (I58 rm 6).toInt = G6.toInt := congrArg Int32.toInt hG6
      have hG7 : I58 rm 7 = G7 := (Eq.trans (hf58.get krm rfl) (Eq.trans (hf55.get krm rfl) (Eq.trans (hf52.get krm rfl) (Eq.trans (hf6.get krm rfl) (Eq.trans (hf3.get krm rfl) eG7.symm)))))
      have hG7t : (I58 rm 7).toInt = G7.toInt := congrArg Int32.toInt hG7
      have hG8 : I58 rm 8 = x5_ := (Eq.trans (hf58.get krm rfl) (Eq.trans (hf55.get krm rfl) (Eq.trans (hf52.get krm rfl) (Eq.trans (hf6.get krm rfl) e5.symm))))
      have hG8t : (I58 rm 8).toInt = x5_.toInt := congrArg Int32.toInt hG8
      have hG9 : I58 rm 9 = G9 := (Eq.trans (hf58.get krm rfl) (Eq.trans (hf55.get krm rfl) (Eq.trans (hf52.get krm rfl) (Eq.trans (hf6.get krm rfl) (Eq.trans (hf3.get krm rfl) eG9.symm)))))
      have hG9t : (I58 rm 9).toInt = G9.toInt := congrArg Int32.toInt hG9
      have hG10 : I58 rm 10 = N1 := (Eq.trans (hf58.get krm rfl) (Eq.trans (hf55.get krm rfl) (Eq.trans (hf52.get krm rfl) eN1.symm)))
      have hG10t : (I58 rm 10).toInt = N1.toInt := congrArg Int32.toInt hG10
      exact r_vret hC hQ hlk hr (by decide) (by decide) dX10_readVillage_67 ⟨_, _, rfl, rfl, ⟨hs58, hF58, hFJ58, (by first | exact Or.inl ⟨(upD NOF 0 8 (NOF 0 8 + 1)), _, by unfold sVillage; rw [pif_f (show ¬ 4 ≤ D 0 8 by omega), hsp6, bnd_er], (nx_le hp).2, tk3, ⟨by unfold SM; simp [upD, adN]; omega, nm3.cg (by simp [upD]) (by intro j; simp [upD]), pg3.cg (by simp [upD]) (by intro j; simp [upD]) (by simp [upD]) (by intro j; simp [upD])⟩, fq3⟩ | exact Or.inr ⟨kf6, qf6, by unfold sVillage; rw [pif_f (show ¬ 4 ≤ D 0 8 by omega), hsp6, bnd_er], by omega, by omega, by omega⟩), (by exact om58)⟩⟩
  · refine r_aload_n hC dX10_readVillage_12 0 rfl ?_
    refine r_iconst hC (v := (1)) dX10_readVillage_13 (by decide) (by decide) (fun x62_ e62 t62 => ?_)
    refine r_aload_n hC dX10_readVillage_14 0 rfl ?_
    refine r_getr hC 4 (ci := 10) rfl u10_in (by decide) mT_4_239 dX10_readVillage_15 ka0 rfl rfl hbr ?_
    refine r_getiN hC 8 (ci := 9) rfl u9_in (by decide) nF_8 dX10_readVillage_18 krm rfl rfl (fun x63_ e63 => ?_)
    have r63 := hs3.rng krm rfl e63
    have f63 : x63_.toInt = (I3 rm 8).toInt := by rw [e63]
    have w63 : x63_ = x1_ := by rw [e63]; exact (Eq.trans (hf3.get krm rfl) e1.symm)
    have wt63 : x63_.toInt = x1_.toInt := by rw [w63]
    have q10 : I3 rm 10 = G10 := (Eq.trans (hf3.get krm rfl) eG10.symm)
    have q10t : (I3 rm 10).toInt = G10.toInt := congrArg Int32.toInt q10
    refine r_callV hC (As := [.int x62_, .int x63_]) (rest := []) (ci := 10) (e_X10_readFresh g (xL X) K len I3 J3 R hs3 a0 ka0 x62_ x63_ rm hbr krm (by omega)) mT_6_23 mT_1_10 mT_6_20 mT_6_22 mP_60 okX10_readFresh ⟨by decide, by decide⟩ rfl (by show kO (K a0) = _; rw [ka0]; rfl) rfl rfl (Nat.le_of_ble_eq_true rfl) ⟨by decide, by decide⟩ dX10_readVillage_21 (aV2 (F := fun st M => P g X 4 24 [(0, .ref a0)] st _ _ M) (M := (K, len, I3, J3, R)) fun I64 J64 h64 => ?_)
    obtain ⟨hs64, hf64, hfj64, k64_0, k64_1, k64_2, k64_3⟩ := h64
    show P g X 4 24 [(0, .ref a0)] [] _ _ (K, len, I64, J64, R)
    have hF64 : Fr K [(10, 8), (10, 10), (11, 8), (11, 9), (11, 10), (11, 11), (11, 12), (11, 13), (77, 999), (78, 999), (79, 999), (83, 999), (84, 999)] I I64 := hF3.trans hf64 rfl rfl
    have hFJ64 : Fr K [(11, 14), (82, 999)] J J64 := hFJ3.trans hfj64 rfl rfl
    have om64 := om3.tr k64_3
    obtain ⟨N1, eN1⟩ : ∃ z : Int32, z = I64 rm 10 := ⟨_, rfl⟩
    have fN1 : N1.toInt = (I64 rm 10).toInt := by rw [eN1]
    have rN1 := hs64.rng krm rfl eN1
    refine r_aload_n hC dX10_readVillage_24 0 rfl ?_
    refine r_ldcwS hC (i := 55) (by decide) rfl rfl dX10_readVillage_25 ?_
    refine r_iconst hC (v := (0)) dX10_readVillage_28 (by decide) (by decide) (fun x65_ e65 t65 => ?_)
    refine r_sipush hC (v := (999)) dX10_readVillage_29 (by decide) (by decide) (fun x66_ e66 t66 => ?_)
    refine r_callV hC (As := [.ref (g.2.2.1 55), .int x65_, .int x66_]) (rest := []) (ci := 10) (e_X10_readPart g (xL X) K len I64 J64 R hs64 a0 ka0 55 (by decide) x65_ x66_ (by omega)) mT_6_1 mT_1_10 mT_5_238 mT_6_0 mP_56 okX10_readPart ⟨by decide, by decide⟩ rfl (by show kO (K a0) = _; rw [ka0]; rfl) rfl rfl (Nat.le_of_ble_eq_true rfl) ⟨by decide, by decide⟩ dX10_readVillage_32 (aI2 (F := fun st M => P g X 4 35 [(0, .ref a0)] st _ _ M) (M := (K, len, I64, J64, R)) fun x67_ I67 J67 h67 => ?_)
    obtain ⟨hs67, hf67, hfj67, k67_0, k67_1, k67_2⟩ := h67
    show P g X 4 35 [(0, .ref a0)] [.int x67_] _ _ (K, len, I67, J67, R)
    have hF67 : Fr K [(10, 8), (10, 10), (11, 8), (11, 9), (11, 10), (11, 11), (11, 12), (11, 13), (77, 999), (78, 999), (79, 999), (83, 999), (84, 999)] I I67 := hF64.trans hf67 rfl rfl
    have hFJ67 : Fr K [(11, 14), (82, 999)] J J67 := hFJ64.trans hfj67 rfl rfl
    have om67 := om64.mv hf67 rfl
    refine r_istore_n hC (lv' := [(1, .int x67_), (0, .ref a0)]) dX10_readVillage_35 (by decide) rfl ?_
    refine r_aload_n hC dX10_readVillage_36 1 rfl ?_
    refine r_ldcwS hC (i := 56) (by decide) rfl rfl dX10_readVillage_37 ?_
    refine r_iconst hC (v := (1)) dX10_readVillage_40 (by decide) (by decide) (fun x68_ e68 t68 => ?_)
    refine r_sipush hC (v := (999)) dX10_readVillage_41 (by decide) (by decide) (fun x69_ e69 t69 => ?_)
    refine r_callV hC (As := [.ref (g.2.2.1 56), .int x68_, .int x69_]) (rest := []) (ci := 10) (e_X10_readPart g (xL X) K len I67 J67 R hs67 a0 ka0 56 (by decide) x68_ x69_ (by omega)) mT_6_1 mT_1_10 mT_5_238 mT_6_0 mP_56 okX10_readPart ⟨by decide, by decide⟩ rfl (by show kO (K a0) = _; rw [ka0]; rfl) rfl rfl (Nat.le_of_ble_eq_true rfl) ⟨by decide, by decide⟩ dX10_readVillage_44 (aI2 (F := fun st M => P g X 4 47 [(1, .int x67_), (0, .ref a0)] st _ _ M) (M := (K, len, I67, J67, R)) fun x70_ I70 J70 h70 => ?_)
    obtain ⟨hs70, hf70, hfj70, k70_0, k70_1, k70_2⟩ := h70
    show P g X 4 47 [(1, .int x67_), (0, .ref a0)] [.int x70_] _ _ (K, len, I70, J70, R)
    have hF70 : Fr K [(10, 8), (10, 10), (11, 8), (11, 9), (11, 10), (11, 11), (11, 12), (11, 13), (77, 999), (78, 999), (79, 999), (83, 999), (84, 999)] I I70 := hF67.trans hf70 rfl rfl
    have hFJ70 : Fr K [(11, 14), (82, 999)] J J70 := hFJ67.trans hfj70 rfl rfl
    have om70 := om67.mv hf70 rfl
    refine r_istore_n hC (lv' := [(2, .int x70_), (1, .int x67_), (0, .ref a0)]) dX10_readVillage_47 (by decide) rfl ?_
    refine r_aload_n hC dX10_readVillage_48 2 rfl ?_
    refine r_ldcwS hC (i := 57) (by decide) rfl rfl dX10_readVillage_49 ?_
    refine r_iconst hC (v := (0)) dX10_readVillage_52 (by decide) (by decide) (fun x71_ e71 t71 => ?_)
    refine r_bipush hC (v := (30)) dX10_readVillage_53 (by decide) (by decide) (fun x72_ e72 t72 => ?_)
    refine r_callV hC (As := [.ref (g.2.2.1 57), .int x71_, .int x72_]) (rest := []) (ci := 10) (e_X10_readPart g (xL X) K len I70 J70 R hs70 a0 ka0 57 (by decide) x71_ x72_ (by omega)) mT_6_1 mT_1_10 mT_5_238 mT_6_0 mP_56 okX10_readPart ⟨by decide, by decide⟩ rfl (by show kO (K a0) = _; rw [ka0]; rfl) rfl rfl (Nat.le_of_ble_eq_true rfl) ⟨by decide, by decide⟩ dX10_readVillage_55 (aI2 (F := fun st M => P g X 4 58 [(2, .int x70_), (1, .int x67_), (0, .ref a0)] st _ _ M) (M := (K, len, I70, J70, R)) fun x73_ I73 J73 h73 => ?_)
    obtain ⟨hs73, hf73, hfj73, k73_0, k73_1, k73_2⟩ := h73
    show P g X 4 58 [(2, .int x70_), (1, .int x67_), (0, .ref a0)] [.int x73_] _ _ (K, len, I73, J73, R)
    have hF73 : Fr K [(10, 8), (10, 10), (11, 8), (11, 9), (11, 10), (11, 11), (11, 12), (11, 13), (77, 999), (78, 999), (79, 999), (83, 999), (84, 999)] I I73 := hF70.trans hf73 rfl rfl
    have hFJ73 : Fr K [(11, 14), (82, 999)] J J73 := hFJ70.trans hfj73 rfl rfl
    have om73 := om70.mv hf73 rfl
    refine r_istore_n hC (lv' := [(3, .int x73_), (2, .int x70_), (1, .int x67_), (0, .ref a0)]) dX10_readVillage_58 (by decide) rfl ?_
    refine r_aload_n hC dX10_readVillage_59 3 rfl ?_
    refine r_geti hC 9 (ci := 10) rfl u10_in (by decide) mT_5_4 dX10_readVillage_60 ka0 rfl rfl (fun x74_ e74 => ?_)
    have f74 : x74_.toInt = (I73 a0 9).toInt := by rw [e74]
    refine r_iconst hC (v := (5)) dX10_readVillage_63 (by decide) (by decide) (fun x75_ e75 t75 => ?_)
    refine r_icmp_ne hC (tgt := 68) dX10_readVillage_64 (by decide) (fun c76 => ?_) (fun c76 => ?_)
    · exfalso; omega
    have hG0 : I73 rm 0 = G0 := (Eq.trans (hf73.get krm rfl) (Eq.trans (hf70.get krm rfl) (Eq.trans (hf67.get krm rfl) (Eq.trans (hf64.get krm rfl) (Eq.trans (hf3.get krm rfl) eG0.symm)))))
    have hG0t : (I73 rm 0).toInt = G0.toInt := congrArg Int32.toInt hG0
    have hG1 : I73 rm 1 = G1 := (Eq.trans (hf73.get krm rfl) (Eq.trans (hf70.get krm rfl) (Eq.trans (hf67.get krm rfl) (Eq.trans (hf64.get krm rfl) (Eq.trans (hf3.get krm rfl) eG1.symm)))))
    have hG1t : (I73 rm 1).toInt = G1.toInt := congrArg Int32.toInt hG1
    have hG2 : I73 rm 2 = G2 := (Eq.trans (hf73.get krm rfl) (Eq.trans (hf70.get krm rfl) (Eq.trans (hf67.get krm rfl) (Eq.trans (hf64.get krm rfl) (Eq.trans (hf3.get krm rfl) eG2.symm)))))
    have hG2t : (I73 rm 2).toInt = G2.toInt := congrArg Int32.toInt hG2
    have hG3 : I73 rm 3 = G3 := (Eq.trans (hf73.get krm rfl) (Eq.trans (hf70.get krm rfl) (Eq.trans (hf67.get krm rfl) (Eq.trans (hf64.get krm rfl) (Eq.trans (hf3.get krm rfl) eG3.symm)))))
    have hG3t : (I73 rm 3).toInt = G3.toInt := congrArg Int32.toInt hG3
    have hG4 : I73 rm 4 = G4 := (Eq.trans (hf73.get krm rfl) (Eq.trans (hf70.get krm rfl) (Eq.trans (hf67.get krm rfl) (Eq.trans (hf64.get krm rfl) (Eq.trans (hf3.get krm rfl) eG4.symm)))))
    have hG4t : (I73 rm 4).toInt = G4.toInt := congrArg Int32.toInt hG4
    have hG5 : I73 rm 5 = G5 := (Eq.trans (hf73.get krm rfl) (Eq.trans (hf70.get krm rfl) (Eq.trans (hf67.get krm rfl) (Eq.trans (hf64.get krm rfl) (Eq.trans (hf3.get krm rfl) eG5.symm)))))
    have hG5t : (I73 rm 5).toInt = G5.toInt := congrArg Int32.toInt hG5
    have hG6 : I73 rm 6 = G6 := (Eq.trans (hf73.get krm rfl) (Eq.trans (hf70.get krm rfl) (Eq.trans (hf67.get krm rfl) (Eq.trans (hf64.get krm rfl) (Eq.trans (hf3.get krm rfl) eG6.symm)))))
    have hG6t : (I73 rm 6).toInt = G6.toInt := congrArg Int32.toInt hG6
    have hG7 : I73 rm 7 = G7 := (Eq.trans (hf73.get krm rfl) (Eq.trans (hf70.get krm rfl) (Eq.trans (hf67.get krm rfl) (Eq.trans (hf64.get krm rfl) (Eq.trans (hf3.get krm rfl) eG7.symm)))))
    have hG7t : (I73 rm 7).toInt = G7.toInt := congrArg Int32.toInt hG7
    have hG8 : I73 rm 8 = x63_ := (Eq.trans (hf73.get krm rfl) (Eq.trans (hf70.get krm rfl) (Eq.trans (hf67.get krm rfl) (Eq.trans (hf64.get krm rfl) e63.symm))))
    have hG8t : (I73 rm 8).toInt = x63_.toInt := congrArg Int32.toInt hG8
    have hG9 : I73 rm 9 = G9 := (Eq.trans (hf73.get krm rfl) (Eq.trans (hf70.get krm rfl) (Eq.trans (hf67.get krm rfl) (Eq.trans (hf64.get krm rfl) (Eq.trans (hf3.get krm rfl) eG9.symm)))))
    have hG9t : (I73 rm 9).toInt = G9.toInt := congrArg Int32.toInt hG9
    have hG10 : I73 rm 10 = N1 := (Eq.trans (hf73.get krm rfl) (Eq.trans (hf70.get krm rfl) (Eq.trans (hf67.get krm rfl) eN1.symm)))
    have hG10t : (I73 rm 10).toInt = N1.toInt := congrArg Int32.toInt hG10
    exact r_vret hC hQ hlk hr (by decide) (by decide) dX10_readVillage_67 ⟨_, _, rfl, rfl, ⟨hs73, hF73, hFJ73, (by first | exact Or.inl ⟨(upD NOF 0 8 (NOF 0 8 + 1)), _, by unfold sVillage; rw [pif_t (show 4 ≤ D 0 8 by omega)], hp, tkm, ⟨by unfold SM; simp [upD, adN]; omega, nm3.cg (by simp [upD]) (by intro j; simp [upD]), pg3.cg (by simp [upD]) (by intro j; simp [upD]) (by simp [upD]) (by intro j; simp [upD])⟩, rfl⟩ | exact Or.inr ⟨5, (pl B n p), by unfold sVillage; rw [pif_t (show 4 ≤ D 0 8 by omega)], by omega, by omega, by omega⟩), (by exact om73)⟩⟩

