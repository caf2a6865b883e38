set_option maxHeartbeats 4000000 in
set_option maxRecDepth 100000 in
theorem f_X10_readLake (g : GG) (l : Launch) (K len : Nat → Nat) (I : Nat → Nat → Int32) (J : Nat → Nat → Int64) (R : Nat → Nat → Option Nat) (hs : Sf K len I R) (a0 : Nat) (ka0 : K a0 = 11) (rm : Nat) (hbr : R a0 4 = some rm) (krm : K rm = 10) (mt : Nat) (hmt : R a0 5 = some mt) (kmt : K mt = 49) (nmt : len mt = 900) (B : Nat → Int) (n : Nat) (hB : BT B n mt I) (hBr : ∀ j : Nat, j < n → -128 ≤ B j ∧ B j ≤ 127) (hn : n ≤ 900) (p : Nat) (hp : p ≤ n) (tkm : TkM B n a0 p I J) (nr : Nat) (hnr : R rm 25 = some nr) (knr : K nr = 82) (lnr : len nr = 19) (ns : Nat) (hns : R rm 26 = some ns) (kns : K ns = 83) (lns : len ns = 19) (nn : Nat) (hnn : R rm 27 = some nn) (knn : K nn = 84) (lnn : len nn = 19) (D : DD) (hD : DI D) (sm : SM D rm I) (nm : NmM D nr J) (pg : PgI D ns I) (ni : NnI D ns nn I) (rwd : RW (CM rm R) (cntN D) D I) (hJ : DJ D) (p0 : kd B n p = 1) : Ct g l yX10_readLake cX10_readLake 4 (Option.none : Option Jvm.ClassFile.FieldType) rmX10_readLake [.ref a0] (K, len, I, J, R) (pV2 (K, len, I, J, R) (fun I' J' => Sf K len I' R ∧ Fr K [(10, 0), (10, 1), (10, 2), (11, 8), (11, 9), (11, 10), (11, 11), (11, 12), (11, 13)] I I' ∧ Fr K [(11, 14)] J J' ∧ ((∃ (D' : DD) (p' : Nat), sLake B n p D = .ok (D', p') ∧ p' ≤ n ∧ TkM B n a0 p' I' J' ∧ RpM D' rm nr ns I' J' ∧ NnI D' ns nn I' ∧ RW (CM rm R) (cntN D') D' I' ∧ I' a0 12 = I a0 12) ∨ (∃ (kf : Int) (qf : Nat), sLake B n p D = .error (kf, qf) ∧ (I' a0 9).toInt = 5 ∧ (I' a0 12).toInt = kf ∧ (I' a0 13).toInt = qf)) ∧ (OM K rm I I') ∧ (OC (CM rm R) qM K I I'))) := by
  refine Ct_intro (by decide +kernel) (Nat.le_of_ble_eq_true rfl) (fun X hC hL hKK hNm hr hlk hQ => ?_)
  subst hL
  have hC : Cx g X cX10_readLake "HillTapModel" 4 rmX10_readLake := hC
  show P g X 4 0 [(0, .ref a0)] [] 0 0 (K, len, I, J, R)
  have hF : Fr K [(10, 0), (10, 1), (10, 2), (11, 8), (11, 9), (11, 10), (11, 11), (11, 12), (11, 13)] I I := Fr.refl
  have hFJ : Fr K [(11, 14)] J J := Fr.refl
  have ek1 := tkm.e1
  have ek2 := tkm.e2
  have ek3 := tkm.e3
  have ek4 := tkm.e4
  have ek10 := tkm.2.1
  have ek11 := tkm.2.2.2.2.2
  obtain ⟨hD0, ⟨hD1, hD2⟩, ⟨hD3, hD4⟩, ⟨hD5, hD6⟩, ⟨hD7, hD8⟩, ⟨hD9, hD10⟩, hD11, hD12⟩ := id hD
  obtain ⟨sm0, sm3, sm4, sm5, sm6, sm7, sm8, sm9, sm10⟩ := id sm
  obtain ⟨G0, eG0⟩ : ∃ z : Int32, z = I rm 0 := ⟨_, rfl⟩
  have fG0 : G0.toInt = (I rm 0).toInt := by rw [eG0]
  obtain ⟨G1, eG1⟩ : ∃ z : Int32, z = I rm 1 := ⟨_, rfl⟩
  have fG1 : G1.toInt = (I rm 1).toInt := by rw [eG1]
  obtain ⟨G2, eG2⟩ : ∃ z : Int32, z = I rm 2 := ⟨_, rfl⟩
  have fG2 : G2.toInt = (I rm 2).toInt := by rw [eG2]
  obtain ⟨G3, eG3⟩ : ∃ z : Int32, z = I rm 3 := ⟨_, rfl⟩
  have fG3 : G3.toInt = (I rm 3).toInt := by rw [eG3]
  have rG3 := hs.rng krm rfl eG3
  obtain ⟨G4, eG4⟩ : ∃ z : Int32, z = I rm 4 := ⟨_, rfl⟩
  have fG4 : G4.toInt = (I rm 4).toInt := by rw [eG4]
  have rG4 := hs.rng krm rfl eG4
  obtain ⟨G5, eG5⟩ : ∃ z : Int32, z = I rm 5 := ⟨_, rfl⟩
  have fG5 : G5.toInt = (I rm 5).toInt := by rw [eG5]
  have rG5 := hs.rng krm rfl eG5
  obtain ⟨G6, eG6⟩ : ∃ z : Int32, z = I rm 6 := ⟨_, rfl⟩
  have fG6 : G6.toInt = (I rm 6).toInt := by rw [eG6]
  have rG6 := hs.rng krm rfl eG6
  obtain ⟨G7, eG7⟩ : ∃ z : Int32, z = I rm 7 := ⟨_, rfl⟩
  have fG7 : G7.toInt = (I rm 7).toInt := by rw [eG7]
  have rG7 := hs.rng krm rfl eG7
  obtain ⟨G8, eG8⟩ : ∃ z : Int32, z = I rm 8 := ⟨_, rfl⟩
  have fG8 : G8.toInt = (I rm 8).toInt := by rw [eG8]
  have rG8 := hs.rng krm rfl eG8
  obtain ⟨G9, eG9⟩ : ∃ z : Int32, z = I rm 9 := ⟨_, rfl⟩
  have fG9 : G9.toInt = (I rm 9).toInt := by rw [eG9]
  have rG9 := hs.rng krm rfl eG9
  obtain ⟨G10, eG10⟩ : ∃ z : Int32, z = I rm 10 := ⟨_, rfl⟩
  have fG10 : G10.toInt = (I rm 10).toInt := by rw [eG10]
  have rG10 := hs.rng krm rfl eG10
  have om : OM K rm I I := OM.rf
  have hcx := CM_x hs krm
  have oc : OC (CM rm R) qM K I I := OC.rf
  refine r_aload_n hC dX10_readLake_0 0 rfl ?_
  refine r_getr hC 4 (ci := 10) rfl u10_in (by decide) mT_4_239 dX10_readLake_1 ka0 rfl rfl hbr ?_
  refine r_getiN hC 0 (ci := 9) rfl u9_in (by decide) nF_0 dX10_readLake_4 krm rfl rfl (fun x1_ e1 => ?_)
  have f1 : x1_.toInt = (I rm 0).toInt := by rw [e1]
  have w1 : x1_ = G0 := by rw [e1]; exact eG0.symm
  have wt1 : x1_.toInt = G0.toInt := by rw [w1]
  refine r_iconst hC (v := (-1)) dX10_readLake_7 (by decide) (by decide) (fun x2_ e2 t2 => ?_)
  refine r_icmp_eq hC (tgt := 16) dX10_readLake_8 (by decide) (fun c3 => ?_) (fun c3 => ?_)
  · refine r_aload_n hC dX10_readLake_16 0 rfl ?_
    refine r_callV hC (As := []) (rest := []) (ci := 10) (f_X10_goesOn g (xL X) K len I J R hs a0 ka0 mt hmt kmt nmt B n (hB.mv9 hF kmt (fun _ => rfl)) hBr hn (nx B n p) (nx_le hp).2 (tkm.e5) (tkm.2.2.1 (by first | omega | (rw [NOkdp]; decide))) (tkm.2.2.2.1)) mT_5_199 mT_1_10 mT_5_196 mT_5_198 mP_49 okX10_goesOn ⟨by decide, by decide⟩ rfl (by show kO (K a0) = _; rw [ka0]; rfl) rfl rfl (Nat.le_of_ble_eq_true rfl) ⟨by decide, by decide⟩ dX10_readLake_17 (aV2 (F := fun st M => P g X 4 20 [(0, .ref a0)] st _ _ M) (M := (K, len, I, J, R)) fun I4 J4 h4 => ?_)
    obtain ⟨hs4, hf4, hfj4, k4_0⟩ := h4
    show P g X 4 20 [(0, .ref a0)] [] _ _ (K, len, I4, J4, R)
    have hF4 : Fr K [(10, 0), (10, 1), (10, 2), (11, 8), (11, 9), (11, 10), (11, 11), (11, 12), (11, 13)] I I4 := hF.trans hf4 rfl rfl
    have hFJ4 : Fr K [(11, 14)] J J4 := hFJ.trans hfj4 rfl rfl
    have fp4 : I4 a0 12 = I a0 12 := (hf4.get ka0 rfl).trans rfl
    have pg4 := pg.mv hf4 kns (fun _ => rfl)
    have nm4 := nm.mv hfj4 knr (fun _ => rfl)
    have oc4 := oc.mv qM_big hf4 rfl
    have rw4 := rwd.mv hcx qM_big hf4 rfl
    have om4 := om.mv hf4 rfl
    have ni4 := ni.mv hf4 kns knn (fun _ => rfl) (fun _ => rfl)
    refine r_aload_n hC dX10_readLake_20 0 rfl ?_
    refine r_ldcS hC (i := 32) (by decide) rfl rfl dX10_readLake_21 ?_
    refine r_iconst hC (v := (0)) dX10_readLake_23 (by decide) (by decide) (fun x5_ e5 t5 => ?_)
    refine r_sipush hC (v := (500)) dX10_readLake_24 (by decide) (by decide) (fun x6_ e6 t6 => ?_)
    refine r_callV hC (As := [.ref (g.2.2.1 32), .int x5_, .int x6_]) (rest := []) (ci := 10) (f_X10_readPart g (xL X) K len I4 J4 R hs4 a0 ka0 32 (by decide) x5_ x6_ mt hmt kmt nmt B n (hB.mv9 hF4 kmt (fun _ => rfl)) hBr hn (nx B n p) (nx_le hp).2 k4_0 (by first | assumption | decide)) mT_6_1 mT_1_10 mT_5_238 mT_6_0 mP_56 okX10_readPart ⟨by decide, by decide⟩ rfl (by show kO (K a0) = _; rw [ka0]; rfl) rfl rfl (Nat.le_of_ble_eq_true rfl) ⟨by decide, by decide⟩ dX10_readLake_27 (aI2 (F := fun st M => P g X 4 30 [(0, .ref a0)] st _ _ M) (M := (K, len, I4, J4, R)) fun x7_ I7 J7 h7 => ?_)
    obtain ⟨hs7, hf7, hfj7, k7_0⟩ := h7
    show P g X 4 30 [(0, .ref a0)] [.int x7_] _ _ (K, len, I7, J7, R)
    have hF7 : Fr K [(10, 0), (10, 1), (10, 2), (11, 8), (11, 9), (11, 10), (11, 11), (11, 12), (11, 13)] I I7 := hF4.trans hf7 rfl rfl
    have hFJ7 : Fr K [(11, 14)] J J7 := hFJ4.trans hfj7 rfl rfl
    have pg7 := pg4.mv hf7 kns (fun _ => rfl)
    have nm7 := nm4.mv hfj7 knr (fun _ => rfl)
    have oc7 := oc4.mv qM_big hf7 rfl
    have rw7 := rw4.mv hcx qM_big hf7 rfl
    have om7 := om4.mv hf7 rfl
    have ni7 := ni4.mv hf7 kns knn (fun _ => rfl) (fun _ => rfl)
    rcases k7_0 with ⟨v7, p7, hsp7, hp7, tk7, hv7, fl7⟩ | ⟨kf7, qf7, hsp7, hf07, hf17, hf27⟩
    · have fq7 : I7 a0 12 = I a0 12 := fl7.trans fp4
      rw [show x5_.toInt = 0 by omega, show x6_.toInt = 500 by omega] at hsp7
      have rg7 := (sNum_go (nx_le hp).2 hsp7).2
      refine r_istore_n hC (lv' := [(1, .int x7_), (0, .ref a0)]) dX10_readLake_30 (by decide) rfl ?_
      refine r_aload_n hC dX10_readLake_31 1 rfl ?_
      refine r_ldcS hC (i := 33) (by decide) rfl rfl dX10_readLake_32 ?_
      refine r_iconst hC (v := (1)) dX10_readLake_34 (by decide) (by decide) (fun x8_ e8 t8 => ?_)
      refine r_bipush hC (v := (50)) dX10_readLake_35 (by decide) (by decide) (fun x9_ e9 t9 => ?_)
      refine r_callV hC (As := [.ref (g.2.2.1 33), .int x8_, .int x9_]) (rest := []) (ci := 10) (f_X10_readPart g (xL X) K len I7 J7 R hs7 a0 ka0 33 (by decide) x8_ x9_ mt hmt kmt nmt B n (hB.mv9 hF7 kmt (fun _ => rfl)) hBr hn p7 hp7 tk7 (by first | assumption | decide)) mT_6_1 mT_1_10 mT_5_238 mT_6_0 mP_56 okX10_readPart ⟨by decide, by decide⟩ rfl (by show kO (K a0) = _; rw [ka0]; rfl) rfl rfl (Nat.le_of_ble_eq_true rfl) ⟨by decide, by decide⟩ dX10_readLake_37 (aI2 (F := fun st M => P g X 4 40 [(1, .int x7_), (0, .ref a0)] st _ _ M) (M := (K, len, I7, J7, R)) fun x10_ I10 J10 h10 => ?_)
      obtain ⟨hs10, hf10, hfj10, k10_0⟩ := h10
      show P g X 4 40 [(1, .int x7_), (0, .ref a0)] [.int x10_] _ _ (K, len, I10, J10, R)
      have hF10 : Fr K [(10, 0), (10, 1), (10, 2), (11, 8), (11, 9), (11, 10), (11, 11), (11, 12), (11, 13)] I I10 := hF7.trans hf10 rfl rfl
      have hFJ10 : Fr K [(11, 14)] J J10 := hFJ7.trans hfj10 rfl rfl
      have pg10 := pg7.mv hf10 kns (fun _ => rfl)
      have nm10 := nm7.mv hfj10 knr (fun _ => rfl)
      have oc10 := oc7.mv qM_big hf10 rfl
      have rw10 := rw7.mv hcx qM_big hf10 rfl
      have om10 := om7.mv hf10 rfl
      have ni10 := ni7.mv hf10 kns knn (fun _ => rfl) (fun _ => rfl)
      rcases k10_0 with ⟨v10, p10, hsp10, hp10, tk10, hv10, fl10⟩ | ⟨kf10, qf10, hsp10, hf010, hf110, hf210⟩
      · have fq10 : I10 a0 12 = I a0 12 := fl10.trans fq7
        rw [show x8_.toInt = 1 by omega, show x9_.toInt = 50 by omega] at hsp10
        have rg10 := (sNum_go hp7 hsp10).2
        refine r_istore_n hC (lv' := [(2, .int x10_), (1, .int x7_), (0, .ref a0)]) dX10_readLake_40 (by decide) rfl ?_
        refine r_aload_n hC dX10_readLake_41 2 rfl ?_
        refine r_ldcS hC (i := 34) (by decide) rfl rfl dX10_readLake_42 ?_
        refine r_iload_n hC dX10_readLake_44 1 rfl ?_
        refine r_iconst hC (v := (1)) dX10_readLake_45 (by decide) (by decide) (fun x11_ e11 t11 => ?_)
        refine r_icmp_le hC (tgt := 53) dX10_readLake_46 (by decide) (fun c12 => ?_) (fun c12 => ?_)
        · refine r_iconst hC (v := (1)) dX10_readLake_53 (by decide) (by decide) (fun x13_ e13 t13 => ?_)
          refine r_sipush hC (v := (999)) dX10_readLake_54 (by decide) (by decide) (fun x14_ e14 t14 => ?_)
          refine r_callV hC (As := [.ref (g.2.2.1 34), .int x13_, .int x14_]) (rest := []) (ci := 10) (f_X10_readPart g (xL X) K len I10 J10 R hs10 a0 ka0 34 (by decide) x13_ x14_ mt hmt kmt nmt B n (hB.mv9 hF10 kmt (fun _ => rfl)) hBr hn p10 hp10 tk10 (by first | assumption | decide)) mT_6_1 mT_1_10 mT_5_238 mT_6_0 mP_56 okX10_readPart ⟨by decide, by decide⟩ rfl (by show kO (K a0) = _; rw [ka0]; rfl) rfl rfl (Nat.le_of_ble_eq_true rfl) ⟨by decide, by decide⟩ dX10_readLake_57 (aI2 (F := fun st M => P g X 4 60 [(2, .int x10_), (1, .int x7_), (0, .ref a0)] st _ _ M) (M := (K, len, I10, J10, R)) fun x15_ I15 J15 h15 => ?_)
          obtain ⟨hs15, hf15, hfj15, k15_0⟩ := h15
          show P g X 4 60 [(2, .int x10_), (1, .int x7_), (0, .ref a0)] [.int x15_] _ _ (K, len, I15, J15, R)
          have hF15 : Fr K [(10, 0), (10, 1), (10, 2), (11, 8), (11, 9), (11, 10), (11, 11), (11, 12), (11, 13)] I I15 := hF10.trans hf15 rfl rfl
          have hFJ15 : Fr K [(11, 14)] J J15 := hFJ10.trans hfj15 rfl rfl
          have pg15 := pg10.mv hf15 kns (fun _ => rfl)
          have nm15 := nm10.mv hfj15 knr (fun _ => rfl)
          have oc15 := oc10.mv qM_big hf15 rfl
          have rw15 := rw10.mv hcx qM_big hf15 rfl
          have om15 := om10.mv hf15 rfl
          have ni15 := ni10.mv hf15 kns knn (fun _ => rfl) (fun _ => rfl)
          rcases k15_0 with ⟨v15, p15, hsp15, hp15, tk15, hv15, fl15⟩ | ⟨kf15, qf15, hsp15, hf015, hf115, hf215⟩
          · have fq15 : I15 a0 12 = I a0 12 := fl15.trans fq10
            rw [show x13_.toInt = max 1 v7 by omega, show x14_.toInt = 999 by omega] at hsp15
            have rg15 := (sNum_go hp10 hsp15).2
            refine r_istore_n hC (lv' := [(3, .int x15_), (2, .int x10_), (1, .int x7_), (0, .ref a0)]) dX10_readLake_60 (by decide) rfl ?_
            refine r_aload_n hC dX10_readLake_61 3 rfl ?_
            have n5_62 := tk15.e5
            refine r_geti hC 9 (ci := 10) rfl u10_in (by decide) mT_5_4 dX10_readLake_62 ka0 rfl rfl (fun x16_ e16 => ?_)
            have f16 : x16_.toInt = (I15 a0 9).toInt := by rw [e16]
            refine r_iconst hC (v := (5)) dX10_readLake_65 (by decide) (by decide) (fun x17_ e17 t17 => ?_)
            refine r_icmp_ne hC (tgt := 70) dX10_readLake_66 (by decide) (fun c18 => ?_) (fun c18 => ?_)
            rotate_left
            · exfalso; omega
            refine r_aload_n hC dX10_readLake_70 3 rfl ?_
            refine r_getr hC 4 (ci := 10) rfl u10_in (by decide) mT_4_239 dX10_readLake_71 ka0 rfl rfl hbr ?_
            refine r_iload_n hC dX10_readLake_74 2 rfl ?_
            refine r_putiN hC 0 (ci := 9) rfl u9_in tyX9_ok nmX9 (by decide) nF_0 rfl rfl rfl dX10_readLake_75 krm rfl rfl (fun I19 eI19 => ?_)
            have hs19 := hs15.put0 eI19 krm rfl rfl rfl (by decide)
            have hF19 := hF15.put eI19 krm rfl
            have tkp19 := tk15.put eI19 krm ka0 (by decide)
            have fp19 : I19 a0 12 = I a0 12 := (up2_kk eI19 krm ka0 (by decide)).trans fq15
            have pg19 := pg15.put eI19 krm kns (by decide)
            have om19 := om15.put eI19 krm (by first | exact Or.inr rfl | exact Or.inl (by decide) | exact Or.inl (by omega))
            have ni19 := ni15.put eI19 krm kns knn (by decide) (by decide)
            have rw19 := rw15.putO hcx eI19 krm rfl
            have oc19 := oc15.putO eI19 krm rfl
            refine r_aload_n hC dX10_readLake_78 3 rfl ?_
            refine r_getr hC 4 (ci := 10) rfl u10_in (by decide) mT_4_239 dX10_readLake_79 ka0 rfl rfl hbr ?_
            refine r_iload_n hC dX10_readLake_82 1 rfl ?_
            refine r_putiN hC 1 (ci := 9) rfl u9_in tyX9_ok nmX9 (by decide) nF_1 rfl rfl rfl dX10_readLake_83 krm rfl rfl (fun I20 eI20 => ?_)
            have hs20 := hs19.put0 eI20 krm rfl rfl rfl (by decide)
            have hF20 := hF19.put eI20 krm rfl
            have tkp20 := tkp19.put eI20 krm ka0 (by decide)
            have fp20 : I20 a0 12 = I a0 12 := (up2_kk eI20 krm ka0 (by decide)).trans fp19
            have pg20 := pg19.put eI20 krm kns (by decide)
            have om20 := om19.put eI20 krm (by first | exact Or.inr rfl | exact Or.inl (by decide) | exact Or.inl (by omega))
            have ni20 := ni19.put eI20 krm kns knn (by decide) (by decide)
            have rw20 := rw19.putO hcx eI20 krm rfl
            have oc20 := oc19.putO eI20 krm rfl
            refine r_aload_n hC dX10_readLake_86 3 rfl ?_
            refine r_getr hC 4 (ci := 10) rfl u10_in (by decide) mT_4_239 dX10_readLake_87 ka0 rfl rfl hbr ?_
            refine r_iload_n hC dX10_readLake_90 0 rfl ?_
            refine r_putiN hC 2 (ci := 9) rfl u9_in tyX9_ok nmX9 (by decide) nF_2 rfl rfl rfl dX10_readLake_91 krm rfl rfl (fun I21 eI21 => ?_)
            have hs21 := hs20.put0 eI21 krm rfl rfl rfl (by decide)
            have hF21 := hF20.put eI21 krm rfl
            have tkp21 := tkp20.put eI21 krm ka0 (by decide)
            have fp21 : I21 a0 12 = I a0 12 := (up2_kk eI21 krm ka0 (by decide)).trans fp20
            have pg21 := pg20.put eI21 krm kns (by decide)
            have om21 := om20.put eI21 krm (by first | exact Or.inr rfl | exact Or.inl (by decide) | exact Or.inl (by omega))
            have ni21 := ni20.put eI21 krm kns knn (by decide) (by decide)
            have rw21 := rw20.putO hcx eI21 krm rfl
            have oc21 := oc20.putO eI21 krm rfl
            have hG0 : I21 rm 0 = x7_ := (Eq.trans (up2_at (Or.inr (by decide)) eI21) (Eq.trans (up2_at (Or.inr (by decide)) eI20) (by rw [eI19]; exact up2_self _ _ _ _)))
            have hG0t : (I21 rm 0).toInt = x7_.toInt := congrArg Int32.toInt hG0
            have hG1 : I21 rm 1 = x10_ := (Eq.trans (up2_at (Or.inr (by decide)) eI21) (by rw [eI20]; exact up2_self _ _ _ _))
            have hG1t : (I21 rm 1).toInt = x10_.toInt := congrArg Int32.toInt hG1
            have hG2 : I21 rm 2 = x15_ := (by rw [eI21]; exact up2_self _ _ _ _)
            have hG2t : (I21 rm 2).toInt = x15_.toInt := congrArg Int32.toInt hG2
            have hG3 : I21 rm 3 = G3 := (Eq.trans (up2_at (Or.inr (by decide)) eI21) (Eq.trans (up2_at (Or.inr (by decide)) eI20) (Eq.trans (up2_at (Or.inr (by decide)) eI19) (Eq.trans (hf15.get krm rfl) (Eq.trans (hf10.get krm rfl) (Eq.trans (hf7.get krm rfl) (Eq.trans (hf4.get krm rfl) eG3.symm)))))))
            have hG3t : (I21 rm 3).toInt = G3.toInt := congrArg Int32.toInt hG3
            have hG4 : I21 rm 4 = G4 := (Eq.trans (up2_at (Or.inr (by decide)) eI21) (Eq.trans (up2_at (Or.inr (by decide)) eI20) (Eq.trans (up2_at (Or.inr (by decide)) eI19) (Eq.trans (hf15.get krm rfl) (Eq.trans (hf10.get krm rfl) (Eq.trans (hf7.get krm rfl) (Eq.trans (hf4.get krm rfl) eG4.symm)))))))
            have hG4t : (I21 rm 4).toInt = G4.toInt := congrArg Int32.toInt hG4
            have hG5 : I21 rm 5 = G5 := (Eq.trans (up2_at (Or.inr (by decide)) eI21) (Eq.trans (up2_at (Or.inr (by decide)) eI20) (Eq.trans (up2_at (Or.inr (by decide)) eI19) (Eq.trans (hf15.get krm rfl) (Eq.trans (hf10.get krm rfl) (Eq.trans (hf7.get krm rfl) (Eq.trans (hf4.get krm rfl) eG5.symm)))))))
            have hG5t : (I21 rm 5).toInt = G5.toInt := congrArg Int32.toInt hG5
            have hG6 : I21 rm 6 = G6 := (Eq.trans (up2_at (Or.inr (by decide)) eI21) (Eq.trans (up2_at (Or.inr (by decide)) eI20) (Eq.trans (up2_at (Or.inr (by decide)) eI19) (Eq.trans (hf15.get krm rfl) (Eq.trans (hf10.get krm rfl) (Eq.trans (hf7.get krm rfl) (Eq.trans (hf4.get krm rfl) eG6.symm)))))))
            have hG6t : (I21 rm 6).toInt = G6.toInt := congrArg Int32.toInt hG6
            have hG7 : I21 rm 7 = G7 := (Eq.trans (up2_at (Or.inr (by decide)) eI21) (Eq.trans (up2_at (Or.inr (by decide)) eI20) (Eq.trans (up2_at (Or.inr (by decide)) eI19) (Eq.trans (hf15.get krm rfl) (Eq.trans (hf10.get krm rfl) (Eq.trans (hf7.get krm rfl) (Eq.trans (hf4.get krm rfl) eG7.symm)))))))
            have hG7t : (I21 rm 7).toInt = G7.toInt := congrArg Int32.toInt hG7
            have hG8 : I21 rm 8 = G8 := (Eq.trans (up2_at (Or.inr (by decide)) eI21) (Eq.trans (up2_at (Or.inr (by decide)) eI20) (Eq.trans (up2_at (Or.inr (by decide)) eI19) (Eq.trans (hf15.get krm rfl) (Eq.trans (hf10.get krm rfl) (Eq.trans (hf7.get krm rfl) (Eq.trans (hf4.get krm rfl) eG8.symm)))))))
            have hG8t : (I21 rm 8).toInt = G8.toInt := congrArg Int32.toInt hG8
            have hG9 : I21 rm 9 = G9 := (Eq.trans (up2_at (Or.inr (by decide)) eI21) (Eq.trans (up2_at (Or.inr (by decide)) eI20) (Eq.trans (up2_at (Or.inr (by decide)) eI19) (Eq.trans (hf15.get krm rfl) (Eq.trans (hf10.get krm rfl) (Eq.trans (hf7.get krm rfl) (Eq.trans (hf4.get krm rfl) eG9.symm)))))))
            have hG9t : (I21 rm 9).toInt = G9.toInt := congrArg Int32.toInt hG9
            have hG10 : I21 rm 10 = G10 := (Eq.trans (up2_at (Or.inr (by decide)) eI21) (Eq.trans (up2_at (Or.inr (by decide)) eI20) (Eq.trans (up2_at (Or.inr (by decide)) eI19) (Eq.trans (hf15.get krm rfl) (Eq.trans (hf10.get krm rfl) (Eq.trans (hf7.get krm rfl) (Eq.trans (hf4.get krm rfl) eG10.symm)))))))
            have hG10t : (I21 rm 10).toInt = G10.toInt := congrArg Int32.toInt hG10
            exact r_vret hC hQ hlk hr (by decide) (by decide) dX10_readLake_94 ⟨_, _, rfl, rfl, ⟨hs21, hF21, hFJ15, (by exact Or.inl ⟨_, _, by unfold sLake; rw [pif_f (show ¬ D 0 0 ≠ 0 by omega), hsp7, bnd_ok, hsp10, bnd_ok, hsp15, bnd_ok], hp15, tkp21, ⟨by unfold SM; simp [upD, adN, aLake]; omega, nm15.cg (by simp [upD, aLake]) (by intro j; simp [upD, aLake]), pg21.cg (by simp [upD, aLake]) (by intro j; simp [upD, aLake]) (by simp [upD, aLake]) (by intro j; simp [upD, aLake])⟩, ni21.cg (by simp [upD, aLake]) (by intro j; simp [upD, aLake]) (by simp [upD, aLake]) (by intro j; simp [upD, aLake]), rw21.lak, fp21⟩), (by exact om21), (by exact oc21)⟩⟩
          · rw [show x13_.toInt = max 1 v7 by omega, show x14_.toInt = 999 by omega] at hsp15
            refine r_istore_n hC (lv' := [(3, .int x15_), (2, .int x10_), (1, .int x7_), (0, .ref a0)]) dX10_readLake_60 (by decide) rfl ?_
            refine r_aload_n hC dX10_readLake_61 3 rfl ?_
            refine r_geti hC 9 (ci := 10) rfl u10_in (by decide) mT_5_4 dX10_readLake_62 ka0 rfl rfl (fun x22_ e22 => ?_)
            have f22 : x22_.toInt = (I15 a0 9).toInt := by rw [e22]
            refine r_iconst hC (v := (5)) dX10_readLake_65 (by decide) (by decide) (fun x23_ e23 t23 => ?_)
            refine r_icmp_ne hC (tgt := 70) dX10_readLake_66 (by decide) (fun c24 => ?_) (fun c24 => ?_)
            · exfalso; omega
            have hG0 : I15 rm 0 = x1_ := (Eq.trans (hf15.get krm rfl) (Eq.trans (hf10.get krm rfl) (Eq.trans (hf7.get krm rfl) (Eq.trans (hf4.get krm rfl) e1.symm))))
            have hG0t : (I15 rm 0).toInt = x1_.toInt := congrArg Int32.toInt hG0
            have hG1 : I15 rm 1 = G1 := (Eq.trans (hf15.get krm rfl) (Eq.trans (hf10.get krm rfl) (Eq.trans (hf7.get krm rfl) (Eq.trans (hf4.get krm rfl) eG1.symm))))
            have hG1t : (I15 rm 1).toInt = G1.toInt := congrArg Int32.toInt hG1
            have hG2 : I15 rm 2 = G2 := (Eq.trans (hf15.get krm rfl) (Eq.trans (hf10.get krm rfl) (Eq.trans (hf7.get krm rfl) (Eq.trans (hf4.get krm rfl) eG2.symm))))
            have hG2t : (I15 rm 2).toInt = G2.toInt := congrArg Int32.toInt hG2
            have hG3 : I15 rm 3 = G3 := (Eq.trans (hf15.get krm rfl) (Eq.trans (hf10.get krm rfl) (Eq.trans (hf7.get krm rfl) (Eq.trans (hf4.get krm rfl) eG3.symm))))
            have hG3t : (I15 rm 3).toInt = G3.toInt := congrArg Int32.toInt hG3
            have hG4 : I15 rm 4 = G4 := (Eq.trans (hf15.get krm rfl) (Eq.trans (hf10.get krm rfl) (Eq.trans (hf7.get krm rfl) (Eq.trans (hf4.get krm rfl) eG4.symm))))
            have hG4t : (I15 rm 4).toInt = G4.toInt := congrArg Int32.toInt hG4
            have hG5 : I15 rm 5 = G5 := (Eq.trans (hf15.get krm rfl) (Eq.trans (hf10.get krm rfl) (Eq.trans (hf7.get krm rfl) (Eq.trans (hf4.get krm rfl) eG5.symm))))
            have hG5t : (I15 rm 5).toInt = G5.toInt := congrArg Int32.toInt hG5
            have hG6 : I15 rm 6 = G6 := (Eq.trans (hf15.get krm rfl) (Eq.trans (hf10.get krm rfl) (Eq.trans (hf7.get krm rfl) (Eq.trans (hf4.get krm rfl) eG6.symm))))
            have hG6t : (I15 rm 6).toInt = G6.toInt := congrArg Int32.toInt hG6
            have hG7 : I15 rm 7 = G7 := (Eq.trans (hf15.get krm rfl) (Eq.trans (hf10.get krm rfl) (Eq.trans (hf7.get krm rfl) (Eq.trans (hf4.get krm rfl) eG7.symm))))
            have hG7t : (I15 rm 7).toInt = G7.toInt := congrArg Int32.toInt hG7
            have hG8 : I15 rm 8 = G8 := (Eq.trans (hf15.get krm rfl) (Eq.trans (hf10.get krm rfl) (Eq.trans (hf7.get krm rfl) (Eq.trans (hf4.get krm rfl) eG8.symm))))
            have hG8t : (I15 rm 8).toInt = G8.toInt := congrArg Int32.toInt hG8
            have hG9 : I15 rm 9 = G9 := (Eq.trans (hf15.get krm rfl) (Eq.trans (hf10.get krm rfl) (Eq.trans (hf7.get krm rfl) (Eq.trans (hf4.get krm rfl) eG9.symm))))
            have hG9t : (I15 rm 9).toInt = G9.toInt := congrArg Int32.toInt hG9
            have hG10 : I15 rm 10 = G10 := (Eq.trans (hf15.get krm rfl) (Eq.trans (hf10.get krm rfl) (Eq.trans (hf7.get krm rfl) (Eq.trans (hf4.get krm rfl) eG10.symm))))
            have hG10t : (I15 rm 10).toInt = G10.toInt := congrArg Int32.toInt hG10
            exact r_vret hC hQ hlk hr (by decide) (by decide) dX10_readLake_69 ⟨_, _, rfl, rfl, ⟨hs15, hF15, hFJ15, (by exact Or.inr ⟨kf15, qf15, by unfold sLake; rw [pif_f (show ¬ D 0 0 ≠ 0 by omega), hsp7, bnd_ok, hsp10, bnd_ok, hsp15, bnd_er], by omega, by omega, by omega⟩), (by exact om15), (by exact oc15)⟩⟩
        · refine r_iload_n hC dX10_readLake_49 1 rfl ?_
          refine r_goto hC (tgt := 54) dX10_readLake_50 (by decide) ?_
          refine r_sipush hC (v := (999)) dX10_readLake_54 (by decide) (by decide) (fun x25_ e25 t25 => ?_)
          refine r_callV hC (As := [.ref (g.2.2.1 34), .int x7_, .int x25_]) (rest := []) (ci := 10) (f_X10_readPart g (xL X) K len I10 J10 R hs10 a0 ka0 34 (by decide) x7_ x25_ mt hmt kmt nmt B n (hB.mv9 hF10 kmt (fun _ => rfl)) hBr hn p10 hp10 tk10 (by first | assumption | decide)) mT_6_1 mT_1_10 mT_5_238 mT_6_0 mP_56 okX10_readPart ⟨by decide, by decide⟩ rfl (by show kO (K a0) = _; rw [ka0]; rfl) rfl rfl (Nat.le_of_ble_eq_true rfl) ⟨by decide, by decide⟩ dX10_readLake_57 (aI2 (F := fun st M => P g X 4 60 [(2, .int x10_), (1, .int x7_), (0, .ref a0)] st _ _ M) (M := (K, len, I10, J10, R)) fun x26_ I26 J26 h26 => ?_)
          obtain ⟨hs26, hf26, hfj26, k26_0⟩ := h26
          show P g X 4 60 [(2, .int x10_), (1, .int x7_), (0, .ref a0)] [.int x26_] _ _ (K, len, I26, J26, R)
          have hF26 : Fr K [(10, 0), (10, 1), (10, 2), (11, 8), (11, 9), (11, 10), (11, 11), (11, 12), (11, 13)] I I26 := hF10.trans hf26 rfl rfl
          have hFJ26 : Fr K [(11, 14)] J J26 := hFJ10.trans hfj26 rfl rfl
          have pg26 := pg10.mv hf26 kns (fun _ => rfl)
          have nm26 := nm10.mv hfj26 knr (fun _ => rfl)
          have oc26 := oc10.mv qM_big hf26 rfl
          have rw26 := rw10.mv hcx qM_big hf26 rfl
          have om26 := om10.mv hf26 rfl
          have ni26 := ni10.mv hf26 kns knn (fun _ => rfl) (fun _ => rfl)
          rcases k26_0 with ⟨v26, p26, hsp26, hp26, tk26, hv26, fl26⟩ | ⟨kf26, qf26, hsp26, hf026, hf126, hf226⟩
          · have fq26 : I26 a0 12 = I a0 12 := fl26.trans fq10
            rw [show x7_.toInt = max 1 v7 by omega, show x25_.toInt = 999 by omega] at hsp26
            have rg26 := (sNum_go hp10 hsp26).2
            refine r_istore_n hC (lv' := [(3, .int x26_), (2, .int x10_), (1, .int x7_), (0, .ref a0)]) dX10_readLake_60 (by decide) rfl ?_
            refine r_aload_n hC dX10_readLake_61 3 rfl ?_
            have n5_62 := tk26.e5
            refine r_geti hC 9 (ci := 10) rfl u10_in (by decide) mT_5_4 dX10_readLake_62 ka0 rfl rfl (fun x27_ e27 => ?_)
            have f27 : x27_.toInt = (I26 a0 9).toInt := by rw [e27]
            refine r_iconst hC (v := (5)) dX10_readLake_65 (by decide) (by decide) (fun x28_ e28 t28 => ?_)
            refine r_icmp_ne hC (tgt := 70) dX10_readLake_66 (by decide) (fun c29 => ?_) (fun c29 => ?_)
            rotate_left
            · exfalso; omega
            refine r_aload_n hC dX10_readLake_70 3 rfl ?_
            refine r_getr hC 4 (ci := 10) rfl u10_in (by decide) mT_4_239 dX10_readLake_71 ka0 rfl rfl hbr ?_
            refine r_iload_n hC dX10_readLake_74 2 rfl ?_
            refine r_putiN hC 0 (ci := 9) rfl u9_in tyX9_ok nmX9 (by decide) nF_0 rfl rfl rfl dX10_readLake_75 krm rfl rfl (fun I30 eI30 => ?_)
            have hs30 := hs26.put0 eI30 krm rfl rfl rfl (by decide)
            have hF30 := hF26.put eI30 krm rfl
            have tkp30 := tk26.put eI30 krm ka0 (by decide)
            have fp30 : I30 a0 12 = I a0 12 := (up2_kk eI30 krm ka0 (by decide)).trans fq26
            have pg30 := pg26.put eI30 krm kns (by decide)
            have om30 := om26.put eI30 krm (by first | exact Or.inr rfl | exact Or.inl (by decide) | exact Or.inl (by omega))
            have ni30 := ni26.put eI30 krm kns knn (by decide) (by decide)
            have rw30 := rw26.putO hcx eI30 krm rfl
            have oc30 := oc26.putO eI30 krm rfl
            refine r_aload_n hC dX10_readLake_78 3 rfl ?_
            refine r_getr hC 4 (ci := 10) rfl u10_in (by decide) mT_4_239 dX10_readLake_79 ka0 rfl rfl hbr ?_
            refine r_iload_n hC dX10_readLake_82 1 rfl ?_
            refine r_putiN hC 1 (ci := 9) rfl u9_in tyX9_ok nmX9 (by decide) nF_1 rfl rfl rfl dX10_readLake_83 krm rfl rfl (fun I31 eI31 => ?_)
            have hs31 := hs30.put0 eI31 krm rfl rfl rfl (by decide)
            have hF31 := hF30.put eI31 krm rfl
            have tkp31 := tkp30.put eI31 krm ka0 (by decide)
            have fp31 : I31 a0 12 = I a0 12 := (up2_kk eI31 krm ka0 (by decide)).trans fp30
            have pg31 := pg30.put eI31 krm kns (by decide)
            have om31 := om30.put eI31 krm (by first | exact Or.inr rfl | exact Or.inl (by decide) | exact Or.inl (by omega))
            have ni31 := ni30.put eI31 krm kns knn (by decide) (by decide)
            have rw31 := rw30.putO hcx eI31 krm rfl
            have oc31 := oc30.putO eI31 krm rfl
            refine r_aload_n hC dX10_readLake_86 3 rfl ?_
            refine r_getr hC 4 (ci := 10) rfl u10_in (by decide) mT_4_239 dX10_readLake_87 ka0 rfl rfl hbr ?_
            refine r_iload_n hC dX10_readLake_90 0 rfl ?_
            refine r_putiN hC 2 (ci := 9) rfl u9_in tyX9_ok nmX9 (by decide) nF_2 rfl rfl rfl dX10_readLake_91 krm rfl rfl (fun I32 eI32 => ?_)
            have hs32 := hs31.put0 eI32 krm rfl rfl rfl (by decide)
            have hF32 := hF31.put eI32 krm rfl
            have tkp32 := tkp31.put eI32 krm ka0 (by decide)
            have fp32 : I32 a0 12 = I a0 12 := (up2_kk eI32 krm ka0 (by decide)).trans fp31
            have pg32 := pg31.put eI32 krm kns (by decide)
            have om32 := om31.put eI32 krm (by first | exact Or.inr rfl | exact Or.inl (by decide) | exact Or.inl (by omega))
            have ni32 := ni31.put eI32 krm kns knn (by decide) (by decide)
            have rw32 := rw31.putO hcx eI32 krm rfl
            have oc32 := oc31.putO eI32 krm rfl
            have hG0 : I32 rm 0 = x7_ := (Eq.trans (up2_at (Or.inr (by decide)) eI32) (Eq.trans (up2_at (Or.inr (by decide)) eI31) (by rw [eI30]; exact up2_self _ _ _ _)))
            have hG0t : (I32 rm 0).toInt = x7_.toInt := congrArg Int32.toInt hG0
            have hG1 : I32 rm 1 = x10_ := (Eq.trans (up2_at (Or.inr (by decide)) eI32) (by rw [eI31]; exact up2_self _ _ _ _))
            have hG1t : (I32 rm 1).toInt = x10_.toInt := congrArg Int32.toInt hG1
            have hG2 : I32 rm 2 = x26_ := (by rw [eI32]; exact up2_self _ _ _ _)
            have hG2t : (I32 rm 2).toInt = x26_.toInt := congrArg Int32.toInt hG2
            have hG3 : I32 rm 3 = G3 := (Eq.trans (up2_at (Or.inr (by decide)) eI32) (Eq.trans (up2_at (Or.inr (by decide)) eI31) (Eq.trans (up2_at (Or.inr (by decide)) eI30) (Eq.trans (hf26.get krm rfl) (Eq.trans (hf10.get krm rfl) (Eq.trans (hf7.get krm rfl) (Eq.trans (hf4.get krm rfl) eG3.symm)))))))
            have hG3t : (I32 rm 3).toInt = G3.toInt := congrArg Int32.toInt hG3
            have hG4 : I32 rm 4 = G4 := (Eq.trans (up2_at (Or.inr (by decide)) eI32) (Eq.trans (up2_at (Or.inr (by decide)) eI31) (Eq.trans (up2_at (Or.inr (by decide)) eI30) (Eq.trans (hf26.get krm rfl) (Eq.trans (hf10.get krm rfl) (Eq.trans (hf7.get krm rfl) (Eq.trans (hf4.get krm rfl) eG4.symm)))))))
            have hG4t : (I32 rm 4).toInt = G4.toInt := congrArg Int32.toInt hG4
            have hG5 : I32 rm 5 = G5 := (Eq.trans (up2_at (Or.inr (by decide)) eI32) (Eq.trans (up2_at (Or.inr (by decide)) eI31) (Eq.trans (up2_at (Or.inr (by decide)) eI30) (Eq.trans (hf26.get krm rfl) (Eq.trans (hf10.get krm rfl) (Eq.trans (hf7.get krm rfl) (Eq.trans (hf4.get krm rfl) eG5.symm)))))))
            have hG5t : (I32 rm 5).toInt = G5.toInt := congrArg Int32.toInt hG5
            have hG6 : I32 rm 6 = G6 := (Eq.trans (up2_at (Or.inr (by decide)) eI32) (Eq.trans (up2_at (Or.inr (by decide)) eI31) (Eq.trans (up2_at (Or.inr (by decide)) eI30) (Eq.trans (hf26.get krm rfl) (Eq.trans (hf10.get krm rfl) (Eq.trans (hf7.get krm rfl) (Eq.trans (hf4.get krm rfl) eG6.symm)))))))
            have hG6t : (I32 rm 6).toInt = G6.toInt := congrArg Int32.toInt hG6
            have hG7 : I32 rm 7 = G7 := (Eq.trans (up2_at (Or.inr (by decide)) eI32) (Eq.trans (up2_at (Or.inr (by decide)) eI31) (Eq.trans (up2_at (Or.inr (by decide)) eI30) (Eq.trans (hf26.get krm rfl) (Eq.trans (hf10.get krm rfl) (Eq.trans (hf7.get krm rfl) (Eq.trans (hf4.get krm rfl) eG7.symm)))))))
            have hG7t : (I32 rm 7).toInt = G7.toInt := congrArg Int32.toInt hG7
            have hG8 : I32 rm 8 = G8 := (Eq.trans (up2_at (Or.inr (by decide)) eI32) (Eq.trans (up2_at (Or.inr (by decide)) eI31) (Eq.trans (up2_at (Or.inr (by decide)) eI30) (Eq.trans (hf26.get krm rfl) (Eq.trans (hf10.get krm rfl) (Eq.trans (hf7.get krm rfl) (Eq.trans (hf4.get krm rfl) eG8.symm)))))))
            have hG8t : (I32 rm 8).toInt = G8.toInt := congrArg Int32.toInt hG8
            have hG9 : I32 rm 9 = G9 := (Eq.trans (up2_at (Or.inr (by decide)) eI32) (Eq.trans (up2_at (Or.inr (by decide)) eI31) (Eq.trans (up2_at (Or.inr (by decide)) eI30) (Eq.trans (hf26.get krm rfl) (Eq.trans (hf10.get krm rfl) (Eq.trans (hf7.get krm rfl) (Eq.trans (hf4.get krm rfl) eG9.symm)))))))
            have hG9t : (I32 rm 9).toInt = G9.toInt := congrArg Int32.toInt hG9
            have hG10 : I32 rm 10 = G10 := (Eq.trans (up2_at (Or.inr (by decide)) eI32) (Eq.trans (up2_at (Or.inr (by decide)) eI31) (Eq.trans (up2_at (Or.inr (by decide)) eI30) (Eq.trans (hf26.get krm rfl) (Eq.trans (hf10.get krm rfl) (Eq.trans (hf7.get krm rfl) (Eq.trans (hf4.get krm rfl) eG10.symm)))))))
            have hG10t : (I32 rm 10).toInt = G10.toInt := congrArg Int32.toInt hG10
            exact r_vret hC hQ hlk hr (by decide) (by decide) dX10_readLake_94 ⟨_, _, rfl, rfl, ⟨hs32, hF32, hFJ26, (by exact Or.inl ⟨_, _, by unfold sLake; rw [pif_f (show ¬ D 0 0 ≠ 0 by omega), hsp7, bnd_ok, hsp10, bnd_ok, hsp26, bnd_ok], hp26, tkp32, ⟨by unfold SM; simp [upD, adN, aLake]; omega, nm26.cg (by simp [upD, aLake]) (by intro j; simp [upD, aLake]), pg32.cg (by simp [upD, aLake]) (by intro j; simp [upD, aLake]) (by simp [upD, aLake]) (by intro j; simp [upD, aLake])⟩, ni32.cg (by simp [upD, aLake]) (by intro j; simp [upD, aLake]) (by simp [upD, aLake]) (by intro j; simp [upD, aLake]), rw32.lak, fp32⟩), (by exact om32), (by exact oc32)⟩⟩
          · rw [show x7_.toInt = max 1 v7 by omega, show x25_.toInt = 999 by omega] at hsp26
            refine r_istore_n hC (lv' := [(3, .int x26_), (2, .int x10_), (1, .int x7_), (0, .ref a0)]) dX10_readLake_60 (by decide) rfl ?_
            refine r_aload_n hC dX10_readLake_61 3 rfl ?_
            refine r_geti hC 9 (ci := 10) rfl u10_in (by decide) mT_5_4 dX10_readLake_62 ka0 rfl rfl (fun x33_ e33 => ?_)
            have f33 : x33_.toInt = (I26 a0 9).toInt := by rw [e33]
            refine r_iconst hC (v := (5)) dX10_readLake_65 (by decide) (by decide) (fun x34_ e34 t34 => ?_)
            refine r_icmp_ne hC (tgt := 70) dX10_readLake_66 (by decide) (fun c35 => ?_) (fun c35 => ?_)
            · exfalso; omega
            have hG0 : I26 rm 0 = x1_ := (Eq.trans (hf26.get krm rfl) (Eq.trans (hf10.get krm rfl) (Eq.trans (hf7.get krm rfl) (Eq.trans (hf4.get krm rfl) e1.symm))))
            have hG0t : (I26 rm 0).toInt = x1_.toInt := congrArg Int32.toInt hG0
            have hG1 : I26 rm 1 = G1 := (Eq.trans (hf26.get krm rfl) (Eq.trans (hf10.get krm rfl) (Eq.trans (hf7.get krm rfl) (Eq.trans (hf4.get krm rfl) eG1.symm))))
            have hG1t : (I26 rm 1).toInt = G1.toInt := congrArg Int32.toInt hG1
            have hG2 : I26 rm 2 = G2 := (Eq.trans (hf26.get krm rfl) (Eq.trans (hf10.get krm rfl) (Eq.trans (hf7.get krm rfl) (Eq.trans (hf4.get krm rfl) eG2.symm))))
            have hG2t : (I26 rm 2).toInt = G2.toInt := congrArg Int32.toInt hG2
            have hG3 : I26 rm 3 = G3 := (Eq.trans (hf26.get krm rfl) (Eq.trans (hf10.get krm rfl) (Eq.trans (hf7.get krm rfl) (Eq.trans (hf4.get krm rfl) eG3.symm))))
            have hG3t : (I26 rm 3).toInt = G3.toInt := congrArg Int32.toInt hG3
            have hG4 : I26 rm 4 = G4 := (Eq.trans (hf26.get krm rfl) (Eq.trans (hf10.get krm rfl) (Eq.trans (hf7.get krm rfl) (Eq.trans (hf4.get krm rfl) eG4.symm))))
            have hG4t : (I26 rm 4).toInt = G4.toInt := congrArg Int32.toInt hG4
            have hG5 : I26 rm 5 = G5 := (Eq.trans (hf26.get krm rfl) (Eq.trans (hf10.get krm rfl) (Eq.trans (hf7.get krm rfl) (Eq.trans (hf4.get krm rfl) eG5.symm))))
            have hG5t : (I26 rm 5).toInt = G5.toInt := congrArg Int32.toInt hG5
            have hG6 : I26 rm 6 = G6 := (Eq.trans (hf26.get krm rfl) (Eq.trans (hf10.get krm rfl) (Eq.trans (hf7.get krm rfl) (Eq.trans (hf4.get krm rfl) eG6.symm))))
            have hG6t : (I26 rm 6).toInt = G6.toInt := congrArg Int32.toInt hG6
            have hG7 : I26 rm 7 = G7 := (Eq.trans (hf26.get krm rfl) (Eq.trans (hf10.get krm rfl) (Eq.trans (hf7.get krm rfl) (Eq.trans (hf4.get krm rfl) eG7.symm))))
            have hG7t : (I26 rm 7).toInt = G7.toInt := congrArg Int32.toInt hG7
            have hG8 : I26 rm 8 = G8 := (Eq.trans (hf26.get krm rfl) (Eq.trans (hf10.get krm rfl) (Eq.trans (hf7.get krm rfl) (Eq.trans (hf4.get krm rfl) eG8.symm))))
            have hG8t : (I26 rm 8).toInt = G8.toInt := congrArg Int32.toInt hG8
            have hG9 : I26 rm 9 = G9 := (Eq.trans (hf26.get krm rfl) (Eq.trans (hf10.get krm rfl) (Eq.trans (hf7.get krm rfl) (Eq.trans (hf4.get krm rfl) eG9.symm))))
            have hG9t : (I26 rm 9).toInt = G9.toInt := congrArg Int32.toInt hG9
            have hG10 : I26 rm 10 = G10 := (Eq.trans (hf26.get krm rfl) (Eq.trans (hf10.get krm rfl) (Eq.trans (hf7.get krm rfl) (Eq.trans (hf4.get krm rfl) eG10.symm))))
            have hG10t : (I26 rm 10).toInt = G10.toInt := congrArg Int32.toInt hG10
            exact r_vret hC hQ hlk hr (by decide) (by decide) dX10_readLake_69 ⟨_, _, rfl, rfl, ⟨hs26, hF26, hFJ26, (by exact Or.inr ⟨kf26, qf26, by unfold sLake; rw [pif_f (show ¬ D 0 0 ≠ 0 by omega), hsp7, bnd_ok, hsp10, bnd_ok, hsp26, bnd_er], by omega, by omega, by omega⟩), (by exact om26), (by exact oc26)⟩⟩
      · rw [show x8_.toInt = 1 by omega, show x9_.toInt = 50 by omega] at hsp10
        refine r_istore_n hC (lv' := [(2, .int x10_), (1, .int x7_), (0, .ref a0)]) dX10_readLake_40 (by decide) rfl ?_
        refine r_aload_n hC dX10_readLake_41 2 rfl ?_
        refine r_ldcS hC (i := 34) (by decide) rfl rfl dX10_readLake_42 ?_
        refine r_iload_n hC dX10_readLake_44 1 rfl ?_
        refine r_iconst hC (v := (1)) dX10_readLake_45 (by decide) (by decide) (fun x36_ e36 t36 => ?_)
        refine r_icmp_le hC (tgt := 53) dX10_readLake_46 (by decide) (fun c37 => ?_) (fun c37 => ?_)
        · refine r_iconst hC (v := (1)) dX10_readLake_53 (by decide) (by decide) (fun x38_ e38 t38 => ?_)
          refine r_sipush hC (v := (999)) dX10_readLake_54 (by decide) (by decide) (fun x39_ e39 t39 => ?_)
          refine r_callV hC (As := [.ref (g.2.2.1 34), .int x38_, .int x39_]) (rest := []) (ci := 10) (e_X10_readPart g (xL X) K len I10 J10 R hs10 a0 ka0 34 (by decide) x38_ x39_ (by omega)) mT_6_1 mT_1_10 mT_5_238 mT_6_0 mP_56 okX10_readPart ⟨by decide, by decide⟩ rfl (by show kO (K a0) = _; rw [ka0]; rfl) rfl rfl (Nat.le_of_ble_eq_true rfl) ⟨by decide, by decide⟩ dX10_readLake_57 (aI2 (F := fun st M => P g X 4 60 [(2, .int x10_), (1, .int x7_), (0, .ref a0)] st _ _ M) (M := (K, len, I10, J10, R)) fun x40_ I40 J40 h40 => ?_)
          obtain ⟨hs40, hf40, hfj40, k40_0, k40_1, k40_2⟩ := h40
          show P g X 4 60 [(2, .int x10_), (1, .int x7_), (0, .ref a0)] [.int x40_] _ _ (K, len, I40, J40, R)
          have hF40 : Fr K [(10, 0), (10, 1), (10, 2), (11, 8), (11, 9), (11, 10), (11, 11), (11, 12), (11, 13)] I I40 := hF10.trans hf40 rfl rfl
          have hFJ40 : Fr K [(11, 14)] J J40 := hFJ10.trans hfj40 rfl rfl
          have oc40 := oc10.mv qM_big hf40 rfl
          have om40 := om10.mv hf40 rfl
          refine r_istore_n hC (lv' := [(3, .int x40_), (2, .int x10_), (1, .int x7_), (0, .ref a0)]) dX10_readLake_60 (by decide) rfl ?_
          refine r_aload_n hC dX10_readLake_61 3 rfl ?_
          refine r_geti hC 9 (ci := 10) rfl u10_in (by decide) mT_5_4 dX10_readLake_62 ka0 rfl rfl (fun x41_ e41 => ?_)
          have f41 : x41_.toInt = (I40 a0 9).toInt := by rw [e41]
          refine r_iconst hC (v := (5)) dX10_readLake_65 (by decide) (by decide) (fun x42_ e42 t42 => ?_)
          refine r_icmp_ne hC (tgt := 70) dX10_readLake_66 (by decide) (fun c43 => ?_) (fun c43 => ?_)
          · exfalso; omega
          have hG0 : I40 rm 0 = x1_ := (Eq.trans (hf40.get krm rfl) (Eq.trans (hf10.get krm rfl) (Eq.trans (hf7.get krm rfl) (Eq.trans (hf4.get krm rfl) e1.symm))))
          have hG0t : (I40 rm 0).toInt = x1_.toInt := congrArg Int32.toInt hG0
          have hG1 : I40 rm 1 = G1 := (Eq.trans (hf40.get krm rfl) (Eq.trans (hf10.get krm rfl) (Eq.trans (hf7.get krm rfl) (Eq.trans (hf4.get krm rfl) eG1.symm))))
          have hG1t : (I40 rm 1).toInt = G1.toInt := congrArg Int32.toInt hG1
          have hG2 : I40 rm 2 = G2 := (Eq.trans (hf40.get krm rfl) (Eq.trans (hf10.get krm rfl) (Eq.trans (hf7.get krm rfl) (Eq.trans (hf4.get krm rfl) eG2.symm))))
          have hG2t : (I40 rm 2).toInt = G2.toInt := congrArg Int32.toInt hG2
          have hG3 : I40 rm 3 = G3 := (Eq.trans (hf40.get krm rfl) (Eq.trans (hf10.get krm rfl) (Eq.trans (hf7.get krm rfl) (Eq.trans (hf4.get krm rfl) eG3.symm))))
          have hG3t : (I40 rm 3).toInt = G3.toInt := congrArg Int32.toInt hG3
          have hG4 : I40 rm 4 = G4 := (Eq.trans (hf40.get krm rfl) (Eq.trans (hf10.get krm rfl) (Eq.trans (hf7.get krm rfl) (Eq.trans (hf4.get krm rfl) eG4.symm))))
          have hG4t : (I40 rm 4).toInt = G4.toInt := congrArg Int32.toInt hG4
          have hG5 : I40 rm 5 = G5 := (Eq.trans (hf40.get krm rfl) (Eq.trans (hf10.get krm rfl) (Eq.trans (hf7.get krm rfl) (Eq.trans (hf4.get krm rfl) eG5.symm))))
          have hG5t : (I40 rm 5).toInt = G5.toInt := congrArg Int32.toInt hG5
          have hG6 : I40 rm 6 = G6 := (Eq.trans (hf40.get krm rfl) (Eq.trans (hf10.get krm rfl) (Eq.trans (hf7.get krm rfl) (Eq.trans (hf4.get krm rfl) eG6.symm))))
          have hG6t : (I40 rm 6).toInt = G6.toInt := congrArg Int32.toInt hG6
          have hG7 : I40 rm 7 = G7 := (Eq.trans (hf40.get krm rfl) (Eq.trans (hf10.get krm rfl) (Eq.trans (hf7.get krm rfl) (Eq.trans (hf4.get krm rfl) eG7.symm))))
          have hG7t : (I40 rm 7).toInt = G7.toInt := congrArg Int32.toInt hG7
          have hG8 : I40 rm 8 = G8 := (Eq.trans (hf40.get krm rfl) (Eq.trans (hf10.get krm rfl) (Eq.trans (hf7.get krm rfl) (Eq.trans (hf4.get krm rfl) eG8.symm))))
          have hG8t : (I40 rm 8).toInt = G8.toInt := congrArg Int32.toInt hG8
          have hG9 : I40 rm 9 = G9 := (Eq.trans (hf40.get krm rfl) (Eq.trans (hf10.get krm rfl) (Eq.trans (hf7.get krm rfl) (Eq.trans (hf4.get krm rfl) eG9.symm))))
          have hG9t : (I40 rm 9).toInt = G9.toInt := congrArg Int32.toInt hG9
          have hG10 : I40 rm 10 = G10 := (Eq.trans (hf40.get krm rfl) (Eq.trans (hf10.get krm rfl) (Eq.trans (hf7.get krm rfl) (Eq.trans (hf4.get krm rfl) eG10.symm))))
          have hG10t : (I40 rm 10).toInt = G10.toInt := congrArg Int32.toInt hG10
          exact r_vret hC hQ hlk hr (by decide) (by decide) dX10_readLake_69 ⟨_, _, rfl, rfl, ⟨hs40, hF40, hFJ40, (by exact Or.inr ⟨kf10, qf10, by unfold sLake; rw [pif_f (show ¬ D 0 0 ≠ 0 by omega), hsp7, bnd_ok, hsp10, bnd_er], by omega, by omega, by omega⟩), (by exact om40), (by exact oc40)⟩⟩
        · refine r_iload_n hC dX10_readLake_49 1 rfl ?_
          refine r_goto hC (tgt := 54) dX10_readLake_50 (by decide) ?_
          refine r_sipush hC (v := (999)) dX10_readLake_54 (by decide) (by decide) (fun x44_ e44 t44 => ?_)
          refine r_callV hC (As := [.ref (g.2.2.1 34), .int x7_, .int x44_]) (rest := []) (ci := 10) (e_X10_readPart g (xL X) K len I10 J10 R hs10 a0 ka0 34 (by decide) x7_ x44_ (by omega)) mT_6_1 mT_1_10 mT_5_238 mT_6_0 mP_56 okX10_readPart ⟨by decide, by decide⟩ rfl (by show kO (K a0) = _; rw [ka0]; rfl) rfl rfl (Nat.le_of_ble_eq_true rfl) ⟨by decide, by decide⟩ dX10_readLake_57 (aI2 (F := fun st M => P g X 4 60 [(2, .int x10_), (1, .int x7_), (0, .ref a0)] st _ _ M) (M := (K, len, I10, J10, R)) fun x45_ I45 J45 h45 => ?_)
          obtain ⟨hs45, hf45, hfj45, k45_0, k45_1, k45_2⟩ := h45
          show P g X 4 60 [(2, .int x10_), (1, .int x7_), (0, .ref a0)] [.int x45_] _ _ (K, len, I45, J45, R)
          have hF45 : Fr K [(10, 0), (10, 1), (10, 2), (11, 8), (11, 9), (11, 10), (11, 11), (11, 12), (11, 13)] I I45 := hF10.trans hf45 rfl rfl
          have hFJ45 : Fr K [(11, 14)] J J45 := hFJ10.trans hfj45 rfl rfl
          have oc45 := oc10.mv qM_big hf45 rfl
          have om45 := om10.mv hf45 rfl
          refine r_istore_n hC (lv' := [(3, .int x45_), (2, .int x10_), (1, .int x7_), (0, .ref a0)]) dX10_readLake_60 (by decide) rfl ?_
          refine r_aload_n hC dX10_readLake_61 3 rfl ?_
          refine r_geti hC 9 (ci := 10) rfl u10_in (by decide) mT_5_4 dX10_readLake_62 ka0 rfl rfl (fun x46_ e46 => ?_)
          have f46 : x46_.toInt = (I45 a0 9).toInt := by rw [e46]
          refine r_iconst hC (v := (5)) dX10_readLake_65 (by decide) (by decide) (fun x47_ e47 t47 => ?_)
          refine r_icmp_ne hC (tgt := 70) dX10_readLake_66 (by decide) (fun c48 => ?_) (fun c48 => ?_)
          · exfalso; omega
          have hG0 : I45 rm 0 = x1_ := (Eq.trans (hf45.get krm rfl) (Eq.trans (hf10.get krm rfl) (Eq.trans (hf7.get krm rfl) (Eq.trans (hf4.get krm rfl) e1.symm))))
          have hG0t : (I45 rm 0).toInt = x1_.toInt := congrArg Int32.toInt hG0
          have hG1 : I45 rm 1 = G1 := (Eq.trans (hf45.get krm rfl) (Eq.trans (hf10.get krm rfl) (Eq.trans (hf7.get krm rfl) (Eq.trans (hf4.get krm rfl) eG1.symm))))
          have hG1t : (I45 rm 1).toInt = G1.toInt := congrArg Int32.toInt hG1
          have hG2 : I45 rm 2 = G2 := (Eq.trans (hf45.get krm rfl) (Eq.trans (hf10.get krm rfl) (Eq.trans (hf7.get krm rfl) (Eq.trans (hf4.get krm rfl) eG2.symm))))
          have hG2t : (I45 rm 2).toInt = G2.toInt := congrArg Int32.toInt hG2
          have hG3 : I45 rm 3 = G3 := (Eq.trans (hf45.get krm rfl) (Eq.trans (hf10.get krm rfl) (Eq.trans (hf7.get krm rfl) (Eq.trans (hf4.get krm rfl) eG3.symm))))
          have hG3t : (I45 rm 3).toInt = G3.toInt := congrArg Int32.toInt hG3
          have hG4 : I45 rm 4 = G4 := (Eq.trans (hf45.get krm rfl) (Eq.trans (hf10.get krm rfl) (Eq.trans (hf7.get krm rfl) (Eq.trans (hf4.get krm rfl) eG4.symm))))
          have hG4t : (I45 rm 4).toInt = G4.toInt := congrArg Int32.toInt hG4
          have hG5 : I45 rm 5 = G5 := (Eq.trans (hf45.get krm rfl) (Eq.trans (hf10.get krm rfl) (Eq.trans (hf7.get krm rfl) (Eq.trans (hf4.get krm rfl) eG5.symm))))
          have hG5t : (I45 rm 5).toInt = G5.toInt := congrArg Int32.toInt hG5
          have hG6 : I45 rm 6 = G6 := (Eq.trans (hf45.get krm rfl) (Eq.trans (hf10.get krm rfl) (Eq.trans (hf7.get krm rfl) (Eq.trans (hf4.get krm rfl) eG6.symm))))
          have hG6t : (I45 rm 6).toInt = G6.toInt := congrArg Int32.toInt hG6
          have hG7 : I45 rm 7 = G7 := (Eq.trans (hf45.get krm rfl) (Eq.trans (hf10.get krm rfl) (Eq.trans (hf7.get krm rfl) (Eq.trans (hf4.get krm rfl) eG7.symm))))
          have hG7t : (I45 rm 7).toInt = G7.toInt := congrArg Int32.toInt hG7
          have hG8 : I45 rm 8 = G8 := (Eq.trans (hf45.get krm rfl) (Eq.trans (hf10.get krm rfl) (Eq.trans (hf7.get krm rfl) (Eq.trans (hf4.get krm rfl) eG8.symm))))
          have hG8t : (I45 rm 8).toInt = G8.toInt := congrArg Int32.toInt hG8
          have hG9 : I45 rm 9 = G9 := (Eq.trans (hf45.get krm rfl) (Eq.trans (hf10.get krm rfl) (Eq.trans (hf7.get krm rfl) (Eq.trans (hf4.get krm rfl) eG9.symm))))
          have hG9t : (I45 rm 9).toInt = G9.toInt := congrArg Int32.toInt hG9
          have hG10 : I45 rm 10 = G10 := (Eq.trans (hf45.get krm rfl) (Eq.trans (hf10.get krm rfl) (Eq.trans (hf7.get krm rfl) (Eq.trans (hf4.get krm rfl) eG10.symm))))
          have hG10t : (I45 rm 10).toInt = G10.toInt := congrArg Int32.toInt hG10
          exact r_vret hC hQ hlk hr (by decide) (by decide) dX10_readLake_69 ⟨_, _, rfl, rfl, ⟨hs45, hF45, hFJ45, (by exact Or.inr ⟨kf10, qf10, by unfold sLake; rw [pif_f (show ¬ D 0 0 ≠ 0 by omega), hsp7, bnd_ok, hsp10, bnd_er], by omega, by omega, by omega⟩), (by exact om45), (by exact oc45)⟩⟩
    · rw [show x5_.toInt = 0 by omega, show x6_.toInt = 500 by omega] at hsp7
      refine r_istore_n hC (lv' := [(1, .int x7_), (0, .ref a0)]) dX10_readLake_30 (by decide) rfl ?_
      refine r_aload_n hC dX10_readLake_31 1 rfl ?_
      refine r_ldcS hC (i := 33) (by decide) rfl rfl dX10_readLake_32 ?_
      refine r_iconst hC (v := (1)) dX10_readLake_34 (by decide) (by decide) (fun x49_ e49 t49 => ?_)
      refine r_bipush hC (v := (50)) dX10_readLake_35 (by decide) (by decide) (fun x50_ e50 t50 => ?_)
      refine r_callV hC (As := [.ref (g.2.2.1 33), .int x49_, .int x50_]) (rest := []) (ci := 10) (e_X10_readPart g (xL X) K len I7 J7 R hs7 a0 ka0 33 (by decide) x49_ x50_ (by omega)) mT_6_1 mT_1_10 mT_5_238 mT_6_0 mP_56 okX10_readPart ⟨by decide, by decide⟩ rfl (by show kO (K a0) = _; rw [ka0]; rfl) rfl rfl (Nat.le_of_ble_eq_true rfl) ⟨by decide, by decide⟩ dX10_readLake_37 (aI2 (F := fun st M => P g X 4 40 [(1, .int x7_), (0, .ref a0)] st _ _ M) (M := (K, len, I7, J7, R)) fun x51_ I51 J51 h51 => ?_)
      obtain ⟨hs51, hf51, hfj51, k51_0, k51_1, k51_2⟩ := h51
      show P g X 4 40 [(1, .int x7_), (0, .ref a0)] [.int x51_] _ _ (K, len, I51, J51, R)
      have hF51 : Fr K [(10, 0), (10, 1), (10, 2), (11, 8), (11, 9), (11, 10), (11, 11), (11, 12), (11, 13)] I I51 := hF7.trans hf51 rfl rfl
      have hFJ51 : Fr K [(11, 14)] J J51 := hFJ7.trans hfj51 rfl rfl
      have oc51 := oc7.mv qM_big hf51 rfl
      have om51 := om7.mv hf51 rfl
      refine r_istore_n hC (lv' := [(2, .int x51_), (1, .int x7_), (0, .ref a0)]) dX10_readLake_40 (by decide) rfl ?_
      refine r_aload_n hC dX10_readLake_41 2 rfl ?_
      refine r_ldcS hC (i := 34) (by decide) rfl rfl dX10_readLake_42 ?_
      refine r_iload_n hC dX10_readLake_44 1 rfl ?_
      refine r_iconst hC (v := (1)) dX10_readLake_45 (by decide) (by decide) (fun x52_ e52 t52 => ?_)
      refine r_icmp_le hC (tgt := 53) dX10_readLake_46 (by decide) (fun c53 => ?_) (fun c53 => ?_)
      · refine r_iconst hC (v := (1)) dX10_readLake_53 (by decide) (by decide) (fun x54_ e54 t54 => ?_)
        refine r_sipush hC (v := (999)) dX10_readLake_54 (by decide) (by decide) (fun x55_ e55 t55 => ?_)
        refine r_callV hC (As := [.ref (g.2.2.1 34), .int x54_, .int x55_]) (rest := []) (ci := 10) (e_X10_readPart g (xL X) K len I51 J51 R hs51 a0 ka0 34 (by decide) x54_ x55_ (by omega)) mT_6_1 mT_1_10 mT_5_238 mT_6_0 mP_56 okX10_readPart ⟨by decide, by decide⟩ rfl (by show kO (K a0) = _; rw [ka0]; rfl) rfl rfl (Nat.le_of_ble_eq_true rfl) ⟨by decide, by decide⟩ dX10_readLake_57 (aI2 (F := fun st M => P g X 4 60 [(2, .int x51_), (1, .int x7_), (0, .ref a0)] st _ _ M) (M := (K, len, I51, J51, R)) fun x56_ I56 J56 h56 => ?_)
        obtain ⟨hs56, hf56, hfj56, k56_0, k56_1, k56_2⟩ := h56
        show P g X 4 60 [(2, .int x51_), (1, .int x7_), (0, .ref a0)] [.int x56_] _ _ (K, len, I56, J56, R)
        have hF56 : Fr K [(10, 0), (10, 1), (10, 2), (11, 8), (11, 9), (11, 10), (11, 11), (11, 12), (11, 13)] I I56 := hF51.trans hf56 rfl rfl
        have hFJ56 : Fr K [(11, 14)] J J56 := hFJ51.trans hfj56 rfl rfl
        have oc56 := oc51.mv qM_big hf56 rfl
        have om56 := om51.mv hf56 rfl
        refine r_istore_n hC (lv' := [(3, .int x56_), (2, .int x51_), (1, .int x7_), (0, .ref a0)]) dX10_readLake_60 (by decide) rfl ?_
        refine r_aload_n hC dX10_readLake_61 3 rfl ?_
        refine r_geti hC 9 (ci := 10) rfl u10_in (by decide) mT_5_4 dX10_readLake_62 ka0 rfl rfl (fun x57_ e57 => ?_)
        have f57 : x57_.toInt = (I56 a0 9).toInt := by rw [e57]
        refine r_iconst hC (v := (5)) dX10_readLake_65 (by decide) (by decide) (fun x58_ e58 t58 => ?_)
        refine r_icmp_ne hC (tgt := 70) dX10_readLake_66 (by decide) (fun c59 => ?_) (fun c59 => ?_)
        · exfalso; omega
        have hG0 : I56 rm 0 = x1_ := (Eq.trans (hf56.get krm rfl) (Eq.trans (hf51.get krm rfl) (Eq.trans (hf7.get krm rfl) (Eq.trans (hf4.get krm rfl) e1.symm))))
        have hG0t : (I56 rm 0).toInt = x1_.toInt := congrArg Int32.toInt hG0
        have hG1 : I56 rm 1 = G1 := (Eq.trans (hf56.get krm rfl) (Eq.trans (hf51.get krm rfl) (Eq.trans (hf7.get krm rfl) (Eq.trans (hf4.get krm rfl) eG1.symm))))
        have hG1t : (I56 rm 1).toInt = G1.toInt := congrArg Int32.toInt hG1
        have hG2 : I56 rm 2 = G2 := (Eq.trans (hf56.get krm rfl) (Eq.trans (hf51.get krm rfl) (Eq.trans (hf7.get krm rfl) (Eq.trans (hf4.get krm rfl) eG2.symm))))
        have hG2t : (I56 rm 2).toInt = G2.toInt := congrArg Int32.toInt hG2
        have hG3 : I56 rm 3 = G3 := (Eq.trans (hf56.get krm rfl) (Eq.trans (hf51.get krm rfl) (Eq.trans (hf7.get krm rfl) (Eq.trans (hf4.get krm rfl) eG3.symm))))
        have hG3t : (I56 rm 3).toInt = G3.toInt := congrArg Int32.toInt hG3
        have hG4 : I56 rm 4 = G4 := (Eq.trans (hf56.get krm rfl) (Eq.trans (hf51.get krm rfl) (Eq.trans (hf7.get krm rfl) (Eq.trans (hf4.get krm rfl) eG4.symm))))
        have hG4t : (I56 rm 4).toInt = G4.toInt := congrArg Int32.toInt hG4
        have hG5 : I56 rm 5 = G5 := (Eq.trans (hf56.get krm rfl) (Eq.trans (hf51.get krm rfl) (Eq.trans (hf7.get krm rfl) (Eq.trans (hf4.get krm rfl) eG5.symm))))
        have hG5t : (I56 rm 5).toInt = G5.toInt := congrArg Int32.toInt hG5
        have hG6 : I56 rm 6 = G6 := (Eq.trans (hf56.get krm rfl) (Eq.trans (hf51.get krm rfl) (Eq.trans (hf7.get krm rfl) (Eq.trans (hf4.get krm rfl) eG6.symm))))
        have hG6t : (I56 rm 6).toInt = G6.toInt := congrArg Int32.toInt hG6
        have hG7 : I56 rm 7 = G7 := (Eq.trans (hf56.get krm rfl) (Eq.trans (hf51.get krm rfl) (Eq.trans (hf7.get krm rfl) (Eq.trans (hf4.get krm rfl) eG7.symm))))
        have hG7t : (I56 rm 7).toInt = G7.toInt := congrArg Int32.toInt hG7
        have hG8 : I56 rm 8 = G8 := (Eq.trans (hf56.get krm rfl) (Eq.trans (hf51.get krm rfl) (Eq.trans (hf7.get krm rfl) (Eq.trans (hf4.get krm rfl) eG8.symm))))
        have hG8t : (I56 rm 8).toInt = G8.toInt := congrArg Int32.toInt hG8
        have hG9 : I56 rm 9 = G9 := (Eq.trans (hf56.get krm rfl) (Eq.trans (hf51.get krm rfl) (Eq.trans (hf7.get krm rfl) (Eq.trans (hf4.get krm rfl) eG9.symm))))
        have hG9t : (I56 rm 9).toInt = G9.toInt := congrArg Int32.toInt hG9
        have hG10 : I56 rm 10 = G10 := (Eq.trans (hf56.get krm rfl) (Eq.trans (hf51.get krm rfl) (Eq.trans (hf7.get krm rfl) (Eq.trans (hf4.get krm rfl) eG10.symm))))
        have hG10t : (I56 rm 10).toInt = G10.toInt := congrArg Int32.toInt hG10
        exact r_vret hC hQ hlk hr (by decide) (by decide) dX10_readLake_69 ⟨_, _, rfl, rfl, ⟨hs56, hF56, hFJ56, (by exact Or.inr ⟨kf7, qf7, by unfold sLake; rw [pif_f (show ¬ D 0 0 ≠ 0 by omega), hsp7, bnd_er], by omega, by omega, by omega⟩), (by exact om56), (by exact oc56)⟩⟩
      · refine r_iload_n hC dX10_readLake_49 1 rfl ?_
        refine r_goto hC (tgt := 54) dX10_readLake_50 (by decide) ?_
        refine r_sipush hC (v := (999)) dX10_readLake_54 (by decide) (by decide) (fun x60_ e60 t60 => ?_)
        refine r_callV hC (As := [.ref (g.2.2.1 34), .int x7_, .int x60_]) (rest := []) (ci := 10) (e_X10_readPart g (xL X) K len I51 J51 R hs51 a0 ka0 34 (by decide) x7_ x60_ (by omega)) mT_6_1 mT_1_10 mT_5_238 mT_6_0 mP_56 okX10_readPart ⟨by decide, by decide⟩ rfl (by show kO (K a0) = _; rw [ka0]; rfl) rfl rfl (Nat.le_of_ble_eq_true rfl) ⟨by decide, by decide⟩ dX10_readLake_57 (aI2 (F := fun st M => P g X 4 60 [(2, .int x51_), (1, .int x7_), (0, .ref a0)] st _ _ M) (M := (K, len, I51, J51, R)) fun x61_ I61 J61 h61 => ?_)
        obtain ⟨hs61, hf61, hfj61, k61_0, k61_1, k61_2⟩ := h61
        show P g X 4 60 [(2, .int x51_), (1, .int x7_), (0, .ref a0)] [.int x61_] _ _ (K, len, I61, J61, R)
        have hF61 : Fr K [(10, 0), (10, 1), (10, 2), (11, 8), (11, 9), (11, 10), (11, 11), (11, 12), (11, 13)] I I61 := hF51.trans hf61 rfl rfl
        have hFJ61 : Fr K [(11, 14)] J J61 := hFJ51.trans hfj61 rfl rfl
        have oc61 := oc51.mv qM_big hf61 rfl
        have om61 := om51.mv hf61 rfl
        refine r_istore_n hC (lv' := [(3, .int x61_), (2, .int x51_), (1, .int x7_), (0, .ref a0)]) dX10_readLake_60 (by decide) rfl ?_
        refine r_aload_n hC dX10_readLake_61 3 rfl ?_
        refine r_geti hC 9 (ci := 10) rfl u10_in (by decide) mT_5_4 dX10_readLake_62 ka0 rfl rfl (fun x62_ e62 => ?_)
        have f62 : x62_.toInt = (I61 a0 9).toInt := by rw [e62]
        refine r_iconst hC (v := (5)) dX10_readLake_65 (by decide) (by decide) (fun x63_ e63 t63 => ?_)
        refine r_icmp_ne hC (tgt := 70) dX10_readLake_66 (by decide) (fun c64 => ?_) (fun c64 => ?_)
        · exfalso; omega
        have hG0 : I61 rm 0 = x1_ := (Eq.trans (hf61.get krm rfl) (Eq.trans (hf51.get krm rfl) (Eq.trans (hf7.get krm rfl) (Eq.trans (hf4.get krm rfl) e1.symm))))
        have hG0t : (I61 rm 0).toInt = x1_.toInt := congrArg Int32.toInt hG0
        have hG1 : I61 rm 1 = G1 := (Eq.trans (hf61.get krm rfl) (Eq.trans (hf51.get krm rfl) (Eq.trans (hf7.get krm rfl) (Eq.trans (hf4.get krm rfl) eG1.symm))))
        have hG1t : (I61 rm 1).toInt = G1.toInt := congrArg Int32.toInt hG1
        have hG2 : I61 rm 2 = G2 := (Eq.trans (hf61.get krm rfl) (Eq.trans (hf51.get krm rfl) (Eq.trans (hf7.get krm rfl) (Eq.trans (hf4.get krm rfl) eG2.symm))))
        have hG2t : (I61 rm 2).toInt = G2.toInt := congrArg Int32.toInt hG2
        have hG3 : I61 rm 3 = G3 := (Eq.trans (hf61.get krm rfl) (Eq.trans (hf51.get krm rfl) (Eq.trans (hf7.get krm rfl) (Eq.trans (hf4.get krm rfl) eG3.symm))))
        have hG3t : (I61 rm 3).toInt = G3.toInt := congrArg Int32.toInt hG3
        have hG4 : I61 rm 4 = G4 := (Eq.trans (hf61.get krm rfl) (Eq.trans (hf51.get krm rfl) (Eq.trans (hf7.get krm rfl) (Eq.trans (hf4.get krm rfl) eG4.symm))))
        have hG4t : (I61 rm 4).toInt = G4.toInt := congrArg Int32.toInt hG4
        have hG5 : I61 rm 5 = G5 := (Eq.trans (hf61.get krm rfl) (Eq.trans (hf51.get krm rfl) (Eq.trans (hf7.get krm rfl) (Eq.trans (hf4.get krm rfl) eG5.symm))))
        have hG5t : (I61 rm 5).toInt = G5.toInt := congrArg Int32.toInt hG5
        have hG6 : I61 rm 6 = G6 := (Eq.trans (hf61.get krm rfl) (Eq.trans (hf51.get krm rfl) (Eq.trans (hf7.get krm rfl) (Eq.trans (hf4.get krm rfl) eG6.symm))))
        have hG6t : (I61 rm 6).toInt = G6.toInt := congrArg Int32.toInt hG6
        have hG7 : I61 rm 7 = G7 := (Eq.trans (hf61.get krm rfl) (Eq.trans (hf51.get krm rfl) (Eq.trans (hf7.get krm rfl) (Eq.trans (hf4.get krm rfl) eG7.symm))))
        have hG7t : (I61 rm 7).toInt = G7.toInt := congrArg Int32.toInt hG7
        have hG8 : I61 rm 8 = G8 := (Eq.trans (hf61.get krm rfl) (Eq.trans (hf51.get krm rfl) (Eq.trans (hf7.get krm rfl) (Eq.trans (hf4.get krm rfl) eG8.symm))))
        have hG8t : (I61 rm 8).toInt = G8.toInt := congrArg Int32.toInt hG8
        have hG9 : I61 rm 9 = G9 := (Eq.trans (hf61.get krm rfl) (Eq.trans (hf51.get krm rfl) (Eq.trans (hf7.get krm rfl) (Eq.trans (hf4.get krm rfl) eG9.symm))))
        have hG9t : (I61 rm 9).toInt = G9.toInt := congrArg Int32.toInt hG9
        have hG10 : I61 rm 10 = G10 := (Eq.trans (hf61.get krm rfl) (Eq.trans (hf51.get krm rfl) (Eq.trans (hf7.get krm rfl) (Eq.trans (hf4.get krm rfl) eG10.symm))))
        have hG10t : (I61 rm 10).toInt = G10.toInt := congrArg Int32.toInt hG10
        exact r_vret hC hQ hlk hr (by decide) (by decide) dX10_readLake_69 ⟨_, _, rfl, rfl, ⟨hs61, hF61, hFJ61, (by exact Or.inr ⟨kf7, qf7, by unfold sLake; rw [pif_f (show ¬ D 0 0 ≠ 0 by omega), hsp7, bnd_er], by omega, by omega, by omega⟩), (by exact om61), (by exact oc61)⟩⟩
  · refine r_aload_n hC dX10_readLake_11 0 rfl ?_
    refine r_iconst hC (v := (3)) dX10_readLake_12 (by decide) (by decide) (fun x65_ e65 t65 => ?_)
    refine r_callV hC (As := [.int x65_]) (rest := []) (ci := 10) (f_X10_wrong g (xL X) K len I J R hs a0 ka0 x65_ (tkm.e5)) mT_5_236 mT_1_10 mT_5_233 mT_5_235 mP_55 okX10_wrong ⟨by decide, by decide⟩ rfl (by show kO (K a0) = _; rw [ka0]; rfl) rfl rfl (Nat.le_of_ble_eq_true rfl) ⟨by decide, by decide⟩ dX10_readLake_13 (aV1 (F := fun st M => P g X 4 16 [(0, .ref a0)] st _ _ M) (M := (K, len, I, J, R)) fun I66 h66 => ?_)
    obtain ⟨hs66, hf66, k66_0, k66_1, k66_2⟩ := h66
    show P g X 4 16 [(0, .ref a0)] [] _ _ (K, len, I66, J, R)
    have hF66 : Fr K [(10, 0), (10, 1), (10, 2), (11, 8), (11, 9), (11, 10), (11, 11), (11, 12), (11, 13)] I I66 := hF.trans hf66 rfl rfl
    have pg66 := pg.mv hf66 kns (fun _ => rfl)
    have oc66 := oc.mv qM_big hf66 rfl
    have rw66 := rwd.mv hcx qM_big hf66 rfl
    have om66 := om.mv hf66 rfl
    have ni66 := ni.mv hf66 kns knn (fun _ => rfl) (fun _ => rfl)
    have hwp66 := tkm.2.1
    refine r_aload_n hC dX10_readLake_16 0 rfl ?_
    refine r_callV hC (As := []) (rest := []) (ci := 10) (e_X10_goesOn g (xL X) K len I66 J R hs66 a0 ka0 (by omega)) mT_5_199 mT_1_10 mT_5_196 mT_5_198 mP_49 okX10_goesOn ⟨by decide, by decide⟩ rfl (by show kO (K a0) = _; rw [ka0]; rfl) rfl rfl (Nat.le_of_ble_eq_true rfl) ⟨by decide, by decide⟩ dX10_readLake_17 (aV2 (F := fun st M => P g X 4 20 [(0, .ref a0)] st _ _ M) (M := (K, len, I66, J, R)) fun I67 J67 h67 => ?_)
    obtain ⟨hs67, hf67, hfj67, k67_0, k67_1, k67_2⟩ := h67
    show P g X 4 20 [(0, .ref a0)] [] _ _ (K, len, I67, J67, R)
    have hF67 : Fr K [(10, 0), (10, 1), (10, 2), (11, 8), (11, 9), (11, 10), (11, 11), (11, 12), (11, 13)] I I67 := hF66.trans hf67 rfl rfl
    have hFJ67 : Fr K [(11, 14)] J J67 := hFJ.trans hfj67 rfl rfl
    have oc67 := oc66.mv qM_big hf67 rfl
    have om67 := om66.mv hf67 rfl
    refine r_aload_n hC dX10_readLake_20 0 rfl ?_
    refine r_ldcS hC (i := 32) (by decide) rfl rfl dX10_readLake_21 ?_
    refine r_iconst hC (v := (0)) dX10_readLake_23 (by decide) (by decide) (fun x68_ e68 t68 => ?_)
    refine r_sipush hC (v := (500)) dX10_readLake_24 (by decide) (by decide) (fun x69_ e69 t69 => ?_)
    refine r_callV hC (As := [.ref (g.2.2.1 32), .int x68_, .int x69_]) (rest := []) (ci := 10) (e_X10_readPart g (xL X) K len I67 J67 R hs67 a0 ka0 32 (by decide) x68_ x69_ (by omega)) mT_6_1 mT_1_10 mT_5_238 mT_6_0 mP_56 okX10_readPart ⟨by decide, by decide⟩ rfl (by show kO (K a0) = _; rw [ka0]; rfl) rfl rfl (Nat.le_of_ble_eq_true rfl) ⟨by decide, by decide⟩ dX10_readLake_27 (aI2 (F := fun st M => P g X 4 30 [(0, .ref a0)] st _ _ M) (M := (K, len, I67, J67, R)) fun x70_ I70 J70 h70 => ?_)
    obtain ⟨hs70, hf70, hfj70, k70_0, k70_1, k70_2⟩ := h70
    show P g X 4 30 [(0, .ref a0)] [.int x70_] _ _ (K, len, I70, J70, R)
    have hF70 : Fr K [(10, 0), (10, 1), (10, 2), (11, 8), (11, 9), (11, 10), (11, 11), (11, 12), (11, 13)] I I70 := hF67.trans hf70 rfl rfl
    have hFJ70 : Fr K [(11, 14)] J J70 := hFJ67.trans hfj70 rfl rfl
    have oc70 := oc67.mv qM_big hf70 rfl
    have om70 := om67.mv hf70 rfl
    refine r_istore_n hC (lv' := [(1, .int x70_), (0, .ref a0)]) dX10_readLake_30 (by decide) rfl ?_
    refine r_aload_n hC dX10_readLake_31 1 rfl ?_
    refine r_ldcS hC (i := 33) (by decide) rfl rfl dX10_readLake_32 ?_
    refine r_iconst hC (v := (1)) dX10_readLake_34 (by decide) (by decide) (fun x71_ e71 t71 => ?_)
    refine r_bipush hC (v := (50)) dX10_readLake_35 (by decide) (by decide) (fun x72_ e72 t72 => ?_)
    refine r_callV hC (As := [.ref (g.2.2.1 33), .int x71_, .int x72_]) (rest := []) (ci := 10) (e_X10_readPart g (xL X) K len I70 J70 R hs70 a0 ka0 33 (by decide) x71_ x72_ (by omega)) mT_6_1 mT_1_10 mT_5_238 mT_6_0 mP_56 okX10_readPart ⟨by decide, by decide⟩ rfl (by show kO (K a0) = _; rw [ka0]; rfl) rfl rfl (Nat.le_of_ble_eq_true rfl) ⟨by decide, by decide⟩ dX10_readLake_37 (aI2 (F := fun st M => P g X 4 40 [(1, .int x70_), (0, .ref a0)] st _ _ M) (M := (K, len, I70, J70, R)) fun x73_ I73 J73 h73 => ?_)
    obtain ⟨hs73, hf73, hfj73, k73_0, k73_1, k73_2⟩ := h73
    show P g X 4 40 [(1, .int x70_), (0, .ref a0)] [.int x73_] _ _ (K, len, I73, J73, R)
    have hF73 : Fr K [(10, 0), (10, 1), (10, 2), (11, 8), (11, 9), (11, 10), (11, 11), (11, 12), (11, 13)] I I73 := hF70.trans hf73 rfl rfl
    have hFJ73 : Fr K [(11, 14)] J J73 := hFJ70.trans hfj73 rfl rfl
    have oc73 := oc70.mv qM_big hf73 rfl
    have om73 := om70.mv hf73 rfl
    refine r_istore_n hC (lv' := [(2, .int x73_), (1, .int x70_), (0, .ref a0)]) dX10_readLake_40 (by decide) rfl ?_
    refine r_aload_n hC dX10_readLake_41 2 rfl ?_
    refine r_ldcS hC (i := 34) (by decide) rfl rfl dX10_readLake_42 ?_
    refine r_iload_n hC dX10_readLake_44 1 rfl ?_
    refine r_iconst hC (v := (1)) dX10_readLake_45 (by decide) (by decide) (fun x74_ e74 t74 => ?_)
    refine r_icmp_le hC (tgt := 53) dX10_readLake_46 (by decide) (fun c75 => ?_) (fun c75 => ?_)
    · refine r_iconst hC (v := (1)) dX10_readLake_53 (by decide) (by decide) (fun x76_ e76 t76 => ?_)
      refine r_sipush hC (v := (999)) dX10_readLake_54 (by decide) (by decide) (fun x77_ e77 t77 => ?_)
      refine r_callV hC (As := [.ref (g.2.2.1 34), .int x76_, .int x77_]) (rest := []) (ci := 10) (e_X10_readPart g (xL X) K len I73 J73 R hs73 a0 ka0 34 (by decide) x76_ x77_ (by omega)) mT_6_1 mT_1_10 mT_5_238 mT_6_0 mP_56 okX10_readPart ⟨by decide, by decide⟩ rfl (by show kO (K a0) = _; rw [ka0]; rfl) rfl rfl (Nat.le_of_ble_eq_true rfl) ⟨by decide, by decide⟩ dX10_readLake_57 (aI2 (F := fun st M => P g X 4 60 [(2, .int x73_), (1, .int x70_), (0, .ref a0)] st _ _ M) (M := (K, len, I73, J73, R)) fun x78_ I78 J78 h78 => ?_)
      obtain ⟨hs78, hf78, hfj78, k78_0, k78_1, k78_2⟩ := h78
      show P g X 4 60 [(2, .int x73_), (1, .int x70_), (0, .ref a0)] [.int x78_] _ _ (K, len, I78, J78, R)
      have hF78 : Fr K [(10, 0), (10, 1), (10, 2), (11, 8), (11, 9), (11, 10), (11, 11), (11, 12), (11, 13)] I I78 := hF73.trans hf78 rfl rfl
      have hFJ78 : Fr K [(11, 14)] J J78 := hFJ73.trans hfj78 rfl rfl
      have oc78 := oc73.mv qM_big hf78 rfl
      have om78 := om73.mv hf78 rfl
      refine r_istore_n hC (lv' := [(3, .int x78_), (2, .int x73_), (1, .int x70_), (0, .ref a0)]) dX10_readLake_60 (by decide) rfl ?_
      refine r_aload_n hC dX10_readLake_61 3 rfl ?_
      refine r_geti hC 9 (ci := 10) rfl u10_in (by decide) mT_5_4 dX10_readLake_62 ka0 rfl rfl (fun x79_ e79 => ?_)
      have f79 : x79_.toInt = (I78 a0 9).toInt := by rw [e79]
      refine r_iconst hC (v := (5)) dX10_readLake_65 (by decide) (by decide) (fun x80_ e80 t80 => ?_)
      refine r_icmp_ne hC (tgt := 70) dX10_readLake_66 (by decide) (fun c81 => ?_) (fun c81 => ?_)
      · exfalso; omega
      have hG0 : I78 rm 0 = x1_ := (Eq.trans (hf78.get krm rfl) (Eq.trans (hf73.get krm rfl) (Eq.trans (hf70.get krm rfl) (Eq.trans (hf67.get krm rfl) (Eq.trans (hf66.get krm rfl) e1.symm)))))
      have hG0t : (I78 rm 0).toInt = x1_.toInt := congrArg Int32.toInt hG0
      have hG1 : I78 rm 1 = G1 := (Eq.trans (hf78.get krm rfl) (Eq.trans (hf73.get krm rfl) (Eq.trans (hf70.get krm rfl) (Eq.trans (hf67.get krm rfl) (Eq.trans (hf66.get krm rfl) eG1.symm)))))
      have hG1t : (I78 rm 1).toInt = G1.toInt := congrArg Int32.toInt hG1
      have hG2 : I78 rm 2 = G2 := (Eq.trans (hf78.get krm rfl) (Eq.trans (hf73.get krm rfl) (Eq.trans (hf70.get krm rfl) (Eq.trans (hf67.get krm rfl) (Eq.trans (hf66.get krm rfl) eG2.symm)))))
      have hG2t : (I78 rm 2).toInt = G2.toInt := congrArg Int32.toInt hG2
      have hG3 : I78 rm 3 = G3 := (Eq.trans (hf78.get krm rfl) (Eq.trans (hf73.get krm rfl) (Eq.trans (hf70.get krm rfl) (Eq.trans (hf67.get krm rfl) (Eq.trans (hf66.get krm rfl) eG3.symm)))))
      have hG3t : (I78 rm 3).toInt = G3.toInt := congrArg Int32.toInt hG3
      have hG4 : I78 rm 4 = G4 := (Eq.trans (hf78.get krm rfl) (Eq.trans (hf73.get krm rfl) (Eq.trans (hf70.get krm rfl) (Eq.trans (hf67.get krm rfl) (Eq.trans (hf66.get krm rfl) eG4.symm)))))
      have hG4t : (I78 rm 4).toInt = G4.toInt := congrArg Int32.toInt hG4
      have hG5 : I78 rm 5 = G5 := (Eq.trans (hf78.get krm rfl) (Eq.trans (hf73.get krm rfl) (Eq.trans (hf70.get krm rfl) (Eq.trans (hf67.get krm rfl) (Eq.trans (hf66.get krm rfl) eG5.symm)))))
      have hG5t : (I78 rm 5).toInt = G5.toInt := congrArg Int32.toInt hG5
      have hG6 : I78 rm 6 = G6 := (Eq.trans (hf78.get krm rfl) (Eq.trans (hf73.get krm rfl) (Eq.trans (hf70.get krm rfl) (Eq.trans (hf67.get krm rfl) (Eq.trans (hf66.get krm rfl) eG6.symm)))))
      have hG6t : (I78 rm 6).toInt = G6.toInt := congrArg Int32.toInt hG6
      have hG7 : I78 rm 7 = G7 := (Eq.trans (hf78.get krm rfl) (Eq.trans (hf73.get krm rfl) (Eq.trans (hf70.get krm rfl) (Eq.trans (hf67.get krm rfl) (Eq.trans (hf66.get krm rfl) eG7.symm)))))
      have hG7t : (I78 rm 7).toInt = G7.toInt := congrArg Int32.toInt hG7
      have hG8 : I78 rm 8 = G8 := (Eq.trans (hf78.get krm rfl) (Eq.trans (hf73.get krm rfl) (Eq.trans (hf70.get krm rfl) (Eq.trans (hf67.get krm rfl) (Eq.trans (hf66.get krm rfl) eG8.symm)))))
      have hG8t : (I78 rm 8).toInt = G8.toInt := congrArg Int32.toInt hG8
      have hG9 : I78 rm 9 = G9 := (Eq.trans (hf78.get krm rfl) (Eq.trans (hf73.get krm rfl) (Eq.trans (hf70.get krm rfl) (Eq.trans (hf67.get krm rfl) (Eq.trans (hf66.get krm rfl) eG9.symm)))))
      have hG9t : (I78 rm 9).toInt = G9.toInt := congrArg Int32.toInt hG9
      have hG10 : I78 rm 10 = G10 := (Eq.trans (hf78.get krm rfl) (Eq.trans (hf73.get krm rfl) (Eq.trans (hf70.get krm rfl) (Eq.trans (hf67.get krm rfl) (Eq.trans (hf66.get krm rfl) eG10.symm)))))
      have hG10t : (I78 rm 10).toInt = G10.toInt := congrArg Int32.toInt hG10
      exact r_vret hC hQ hlk hr (by decide) (by decide) dX10_readLake_69 ⟨_, _, rfl, rfl, ⟨hs78, hF78, hFJ78, (by exact Or.inr ⟨3, (pl B n p), by unfold sLake; rw [pif_t (show D 0 0 ≠ 0 by omega)], by omega, by omega, by omega⟩), (by exact om78), (by exact oc78)⟩⟩
    · refine r_iload_n hC dX10_readLake_49 1 rfl ?_
      refine r_goto hC (tgt := 54) dX10_readLake_50 (by decide) ?_
      refine r_sipush hC (v := (999)) dX10_readLake_54 (by decide) (by decide) (fun x82_ e82 t82 => ?_)
      refine r_callV hC (As := [.ref (g.2.2.1 34), .int x70_, .int x82_]) (rest := []) (ci := 10) (e_X10_readPart g (xL X) K len I73 J73 R hs73 a0 ka0 34 (by decide) x70_ x82_ (by omega)) mT_6_1 mT_1_10 mT_5_238 mT_6_0 mP_56 okX10_readPart ⟨by decide, by decide⟩ rfl (by show kO (K a0) = _; rw [ka0]; rfl) rfl rfl (Nat.le_of_ble_eq_true rfl) ⟨by decide, by decide⟩ dX10_readLake_57 (aI2 (F := fun st M => P g X 4 60 [(2, .int x73_), (1, .int x70_), (0, .ref a0)] st _ _ M) (M := (K, len, I73, J73, R)) fun x83_ I83 J83 h83 => ?_)
      obtain ⟨hs83, hf83, hfj83, k83_0, k83_1, k83_2⟩ := h83
      show P g X 4 60 [(2, .int x73_), (1, .int x70_), (0, .ref a0)] [.int x83_] _ _ (K, len, I83, J83, R)
      have hF83 : Fr K [(10, 0), (10, 1), (10, 2), (11, 8), (11, 9), (11, 10), (11, 11), (11, 12), (11, 13)] I I83 := hF73.trans hf83 rfl rfl
      have hFJ83 : Fr K [(11, 14)] J J83 := hFJ73.trans hfj83 rfl rfl
      have oc83 := oc73.mv qM_big hf83 rfl
      have om83 := om73.mv hf83 rfl
      refine r_istore_n hC (lv' := [(3, .int x83_), (2, .int x73_), (1, .int x70_), (0, .ref a0)]) dX10_readLake_60 (by decide) rfl ?_
      refine r_aload_n hC dX10_readLake_61 3 rfl ?_
      refine r_geti hC 9 (ci := 10) rfl u10_in (by decide) mT_5_4 dX10_readLake_62 ka0 rfl rfl (fun x84_ e84 => ?_)
      have f84 : x84_.toInt = (I83 a0 9).toInt := by rw [e84]
      refine r_iconst hC (v := (5)) dX10_readLake_65 (by decide) (by decide) (fun x85_ e85 t85 => ?_)
      refine r_icmp_ne hC (tgt := 70) dX10_readLake_66 (by decide) (fun c86 => ?_) (fun c86 => ?_)
      · exfalso; omega
      have hG0 : I83 rm 0 = x1_ := (Eq.trans (hf83.get krm rfl) (Eq.trans (hf73.get krm rfl) (Eq.trans (hf70.get krm rfl) (Eq.trans (hf67.get krm rfl) (Eq.trans (hf66.get krm rfl) e1.symm)))))
      have hG0t : (I83 rm 0).toInt = x1_.toInt := congrArg Int32.toInt hG0
      have hG1 : I83 rm 1 = G1 := (Eq.trans (hf83.get krm rfl) (Eq.trans (hf73.get krm rfl) (Eq.trans (hf70.get krm rfl) (Eq.trans (hf67.get krm rfl) (Eq.trans (hf66.get krm rfl) eG1.symm)))))
      have hG1t : (I83 rm 1).toInt = G1.toInt := congrArg Int32.toInt hG1
      have hG2 : I83 rm 2 = G2 := (Eq.trans (hf83.get krm rfl) (Eq.trans (hf73.get krm rfl) (Eq.trans (hf70.get krm rfl) (Eq.trans (hf67.get krm rfl) (Eq.trans (hf66.get krm rfl) eG2.symm)))))
      have hG2t : (I83 rm 2).toInt = G2.toInt := congrArg Int32.toInt hG2
      have hG3 : I83 rm 3 = G3 := (Eq.trans (hf83.get krm rfl) (Eq.trans (hf73.get krm rfl) (Eq.trans (hf70.get krm rfl) (Eq.trans (hf67.get krm rfl) (Eq.trans (hf66.get krm rfl) eG3.symm)))))
      have hG3t : (I83 rm 3).toInt = G3.toInt := congrArg Int32.toInt hG3
      have hG4 : I83 rm 4 = G4 := (Eq.trans (hf83.get krm rfl) (Eq.trans (hf73.get krm rfl) (Eq.trans (hf70.get krm rfl) (Eq.trans (hf67.get krm rfl) (Eq.trans (hf66.get krm rfl) eG4.symm)))))
      have hG4t : (I83 rm 4).toInt = G4.toInt := congrArg Int32.toInt hG4
      have hG5 : I83 rm 5 = G5 := (Eq.trans (hf83.get krm rfl) (Eq.trans (hf73.get krm rfl) (Eq.trans (hf70.get krm rfl) (Eq.trans (hf67.get krm rfl) (Eq.trans (hf66.get krm rfl) eG5.symm)))))
      have hG5t : (I83 rm 5).toInt = G5.toInt := congrArg Int32.toInt hG5
      have hG6 : I83 rm 6 = G6 := (Eq.trans (hf83.get krm rfl) (Eq.trans (hf73.get krm rfl) (Eq.trans (hf70.get krm rfl) (Eq.trans (hf67.get krm rfl) (Eq.trans (hf66.get krm rfl) eG6.symm)))))
      have hG6t : (I83 rm 6).toInt = G6.toInt := congrArg Int32.toInt hG6
      have hG7 : I83 rm 7 = G7 := (Eq.trans (hf83.get krm rfl) (Eq.trans (hf73.get krm rfl) (Eq.trans (hf70.get krm rfl) (Eq.trans (hf67.get krm rfl) (Eq.trans (hf66.get krm rfl) eG7.symm)))))
      have hG7t : (I83 rm 7).toInt = G7.toInt := congrArg Int32.toInt hG7
      have hG8 : I83 rm 8 = G8 := (Eq.trans (hf83.get krm rfl) (Eq.trans (hf73.get krm rfl) (Eq.trans (hf70.get krm rfl) (Eq.trans (hf67.get krm rfl) (Eq.trans (hf66.get krm rfl) eG8.symm)))))
      have hG8t : (I83 rm 8).toInt = G8.toInt := congrArg Int32.toInt hG8
      have hG9 : I83 rm 9 = G9 := (Eq.trans (hf83.get krm rfl) (Eq.trans (hf73.get krm rfl) (Eq.trans (hf70.get krm rfl) (Eq.trans (hf67.get krm rfl) (Eq.trans (hf66.get krm rfl) eG9.symm)))))
      have hG9t : (I83 rm 9).toInt = G9.toInt := congrArg Int32.toInt hG9
      have hG10 : I83 rm 10 = G10 := (Eq.trans (hf83.get krm rfl) (Eq.trans (hf73.get krm rfl) (Eq.trans (hf70.get krm rfl) (Eq.trans (hf67.get krm rfl) (Eq.trans (hf66.get krm rfl) eG10.symm)))))
      have hG10t : (I83 rm 10).toInt = G10.toInt := congrArg Int32.toInt hG10
      exact r_vret hC hQ hlk hr (by decide) (by decide) dX10_readLake_69 ⟨_, _, rfl, rfl, ⟨hs83, hF83, hFJ83, (by exact Or.inr ⟨3, (pl B n p), by unfold sLake; rw [pif_t (show D 0 0 ≠ 0 by omega)], by omega, by omega, by omega⟩), (by exact om83), (by exact oc83)⟩⟩
set_option maxHeartbeats 4000000 in
set_option maxRecDepth 100000 in
theorem f_X10_readFrom (g : GG) (l : Launch) (K len : Nat → Nat) (I : Nat → Nat → Int32) (J : Nat → Nat → Int64) (R : Nat → Nat → Option Nat) (hs : Sf K len I R) (a0 : Nat) (ka0 : K a0 = 11) (rm : Nat) (hbr : R a0 4 = some rm) (krm : K rm = 10) (mt : Nat) (hmt : R a0 5 = some mt) (kmt : K mt = 49) (nmt : len mt = 900) (B : Nat → Int) (n : Nat) (hB : BT B n mt I) (hBr : ∀ j : Nat, j < n → -128 ≤ B j ∧ B j ≤ 127) (hn : n ≤ 900) (p : Nat) (hp : p ≤ n) (tkm : TkM B n a0 p I J) (nr : Nat) (hnr : R rm 25 = some nr) (knr : K nr = 82) (lnr : len nr = 19) (ns : Nat) (hns : R rm 26 = some ns) (kns : K ns = 83) (lns : len ns = 19) (nn : Nat) (hnn : R rm 27 = some nn) (knn : K nn = 84) (lnn : len nn = 19) (D : DD) (hD : DI D) (sm : SM D rm I) (nm : NmM D nr J) (pg : PgI D ns I) (ni : NnI D ns nn I) (rwd : RW (CM rm R) (cntN D) D I) (hJ : DJ D) (p0 : kd B n p = 1) : Ct g l yX10_readFrom cX10_readFrom 3 (Option.none : Option Jvm.ClassFile.FieldType) rmX10_readFrom [.ref a0] (K, len, I, J, R) (pV2 (K, len, I, J, R) (fun I' J' => Sf K len I' R ∧ Fr K [(10, 4), (10, 5), (11, 8), (11, 9), (11, 10), (11, 11), (11, 12), (11, 13), (72, 999), (73, 999)] I I' ∧ Fr K [(11, 14)] J J' ∧ ((∃ (D' : DD) (p' : Nat), sFrom B n p D = .ok (D', p') ∧ p' ≤ n ∧ TkM B n a0 p' I' J' ∧ RpM D' rm nr ns I' J' ∧ NnI D' ns nn I' ∧ RW (CM rm R) (cntN D') D' I' ∧ I' a0 12 = I a0 12) ∨ (∃ (kf : Int) (qf : Nat), sFrom B n p D = .error (kf, qf) ∧ (I' a0 9).toInt = 5 ∧ (I' a0 12).toInt = kf ∧ (I' a0 13).toInt = qf)) ∧ (OM K rm I I') ∧ (OC (CM rm R) qM K I I'))) := by
  refine Ct_intro (by decide +kernel) (Nat.le_of_ble_eq_true rfl) (fun X hC hL hKK hNm hr hlk hQ => ?_)
  subst hL
  have hC : Cx g X cX10_readFrom "HillTapModel" 3 rmX10_readFrom := hC
  show P g X 3 0 [(0, .ref a0)] [] 0 0 (K, len, I, J, R)
  have hF : Fr K [(10, 4), (10, 5), (11, 8), (11, 9), (11, 10), (11, 11), (11, 12), (11, 13), (72, 999), (73, 999)] I I := Fr.refl
  have hFJ : Fr K [(11, 14)] J J := Fr.refl
  have ek1 := tkm.e1
  have ek2 := tkm.e2
  have ek3 := tkm.e3
  have ek4 := tkm.e4
  have ek10 := tkm.2.1
  have ek11 := tkm.2.2.2.2.2
  obtain ⟨hD0, ⟨hD1, hD2⟩, ⟨hD3, hD4⟩, ⟨hD5, hD6⟩, ⟨hD7, hD8⟩, ⟨hD9, hD10⟩, hD11, hD12⟩ := id hD
  obtain ⟨sm0, sm3, sm4, sm5, sm6, sm7, sm8, sm9, sm10⟩ := id sm
  obtain ⟨G0, eG0⟩ : ∃ z : Int32, z = I rm 0 := ⟨_, rfl⟩
  have fG0 : G0.toInt = (I rm 0).toInt := by rw [eG0]
  obtain ⟨G1, eG1⟩ : ∃ z : Int32, z = I rm 1 := ⟨_, rfl⟩
  have fG1 : G1.toInt = (I rm 1).toInt := by rw [eG1]
  obtain ⟨G2, eG2⟩ : ∃ z : Int32, z = I rm 2 := ⟨_, rfl⟩
  have fG2 : G2.toInt = (I rm 2).toInt := by rw [eG2]
  obtain ⟨G3, eG3⟩ : ∃ z : Int32, z = I rm 3 := ⟨_, rfl⟩
  have fG3 : G3.toInt = (I rm 3).toInt := by rw [eG3]
  have rG3 := hs.rng krm rfl eG3
  obtain ⟨G4, eG4⟩ : ∃ z : Int32, z = I rm 4 := ⟨_, rfl⟩
  have fG4 : G4.toInt = (I rm 4).toInt := by rw [eG4]
  have rG4 := hs.rng krm rfl eG4
  obtain ⟨G5, eG5⟩ : ∃ z : Int32, z = I rm 5 := ⟨_, rfl⟩
  have fG5 : G5.toInt = (I rm 5).toInt := by rw [eG5]
  have rG5 := hs.rng krm rfl eG5
  obtain ⟨G6, eG6⟩ : ∃ z : Int32, z = I rm 6 := ⟨_, rfl⟩
  have fG6 : G6.toInt = (I rm 6).toInt := by rw [eG6]
  have rG6 := hs.rng krm rfl eG6
  obtain ⟨G7, eG7⟩ : ∃ z : Int32, z = I rm 7 := ⟨_, rfl⟩
  have fG7 : G7.toInt = (I rm 7).toInt := by rw [eG7]
  have rG7 := hs.rng krm rfl eG7
  obtain ⟨G8, eG8⟩ : ∃ z : Int32, z = I rm 8 := ⟨_, rfl⟩
  have fG8 : G8.toInt = (I rm 8).toInt := by rw [eG8]
  have rG8 := hs.rng krm rfl eG8
  obtain ⟨G9, eG9⟩ : ∃ z : Int32, z = I rm 9 := ⟨_, rfl⟩
  have fG9 : G9.toInt = (I rm 9).toInt := by rw [eG9]
  have rG9 := hs.rng krm rfl eG9
  obtain ⟨G10, eG10⟩ : ∃ z : Int32, z = I rm 10 := ⟨_, rfl⟩
  have fG10 : G10.toInt = (I rm 10).toInt := by rw [eG10]
  have rG10 := hs.rng krm rfl eG10
  have om : OM K rm I I := OM.rf
  have hcx := CM_x hs krm
  have oc : OC (CM rm R) qM K I I := OC.rf
  refine r_aload_n hC dX10_readFrom_0 0 rfl ?_
  refine r_aload_n hC dX10_readFrom_1 0 rfl ?_
  refine r_getr hC 4 (ci := 10) rfl u10_in (by decide) mT_4_239 dX10_readFrom_2 ka0 rfl rfl hbr ?_
  refine r_getiN hC 4 (ci := 9) rfl u9_in (by decide) nF_4 dX10_readFrom_5 krm rfl rfl (fun x1_ e1 => ?_)
  have r1 := hs.rng krm rfl e1
  have f1 : x1_.toInt = (I rm 4).toInt := by rw [e1]
  have w1 : x1_ = G4 := by rw [e1]; exact eG4.symm
  have wt1 : x1_.toInt = G4.toInt := by rw [w1]
  refine r_bipush hC (v := (8)) dX10_readFrom_8 (by decide) (by decide) (fun x2_ e2 t2 => ?_)
  refine r_callV hC (As := [.int x1_, .int x2_]) (rest := []) (ci := 10) (f_X10_begins g (xL X) K len I J R hs a0 ka0 x1_ x2_ mt hmt kmt nmt B n (hB.mv9 hF kmt (fun _ => rfl)) hBr hn p hp tkm (by omega)) mT_6_19 mT_1_10 mT_6_16 mT_6_18 mP_59 okX10_begins ⟨by decide, by decide⟩ rfl (by show kO (K a0) = _; rw [ka0]; rfl) rfl rfl (Nat.le_of_ble_eq_true rfl) ⟨by decide, by decide⟩ dX10_readFrom_10 (aV2 (F := fun st M => P g X 3 13 [(0, .ref a0)] st _ _ M) (M := (K, len, I, J, R)) fun I3 J3 h3 => ?_)
  obtain ⟨hs3, hf3, hfj3, k3_0⟩ := h3
  show P g X 3 13 [(0, .ref a0)] [] _ _ (K, len, I3, J3, R)
  have hF3 : Fr K [(10, 4), (10, 5), (11, 8), (11, 9), (11, 10), (11, 11), (11, 12), (11, 13), (72, 999), (73, 999)] I I3 := hF.trans hf3 rfl rfl
  have hFJ3 : Fr K [(11, 14)] J J3 := hFJ.trans hfj3 rfl rfl
  have pg3 := pg.mv hf3 kns (fun _ => rfl)
  have nm3 := nm.mv hfj3 knr (fun _ => rfl)
  have oc3 := oc.mv qM_big hf3 rfl
  have rw3 := rwd.mv hcx qM_big hf3 rfl
  have om3 := om.mv hf3 rfl
  have ni3 := ni.mv hf3 kns knn (fun _ => rfl) (fun _ => rfl)
  rcases k3_0 with ⟨hr3, tk3, fl3⟩ | ⟨hr3, hf03, hf13, hf23⟩
  · have fq3 : I3 a0 12 = I a0 12 := fl3.trans rfl
    have hbg : ¬ 8 ≤ D 0 4 := by omega
    refine r_aload_n hC dX10_readFrom_13 0 rfl ?_
    refine r_iconst hC (v := (0)) dX10_readFrom_14 (by decide) (by decide) (fun x4_ e4 t4 => ?_)
    refine r_bipush hC (v := (59)) dX10_readFrom_15 (by decide) (by decide) (fun x5_ e5 t5 => ?_)
    refine r_callV hC (As := [.int x4_, .int x5_]) (rest := []) (ci := 10) (f_X10_readWhole g (xL X) K len I3 J3 R hs3 a0 ka0 x4_ x5_ mt hmt kmt nmt B n (hB.mv9 hF3 kmt (fun _ => rfl)) hBr hn (nx B n p) (nx_le hp).2 tk3) mT_6_5 mT_1_10 mT_6_2 mT_6_4 mP_57 okX10_readWhole ⟨by decide, by decide⟩ rfl (by show kO (K a0) = _; rw [ka0]; rfl) rfl rfl (Nat.le_of_ble_eq_true rfl) ⟨by decide, by decide⟩ dX10_readFrom_17 (aI2 (F := fun st M => P g X 3 20 [(0, .ref a0)] st _ _ M) (M := (K, len, I3, J3, R)) fun x6_ I6 J6 h6 => ?_)
    obtain ⟨hs6, hf6, hfj6, k6_0⟩ := h6
    show P g X 3 20 [(0, .ref a0)] [.int x6_] _ _ (K, len, I6, J6, R)
    have hF6 : Fr K [(10, 4), (10, 5), (11, 8), (11, 9), (11, 10), (11, 11), (11, 12), (11, 13), (72, 999), (73, 999)] I I6 := hF3.trans hf6 rfl rfl
    have hFJ6 : Fr K [(11, 14)] J J6 := hFJ3.trans hfj6 rfl rfl
    have pg6 := pg3.mv hf6 kns (fun _ => rfl)
    have nm6 := nm3.mv hfj6 knr (fun _ => rfl)
    have oc6 := oc3.mv qM_big hf6 rfl
    have rw6 := rw3.mv hcx qM_big hf6 rfl
    have om6 := om3.mv hf6 rfl
    have ni6 := ni3.mv hf6 kns knn (fun _ => rfl) (fun _ => rfl)
    rcases k6_0 with ⟨v6, p6, hsp6, hp6, tk6, hv6, fl6⟩ | ⟨kf6, qf6, hsp6, hf06, hf16, hf26⟩
    · have fq6 : I6 a0 12 = I a0 12 := fl6.trans fq3
      rw [show x4_.toInt = 0 by omega, show x5_.toInt = 59 by omega] at hsp6
      have rg6 := (sWhole_go (nx_le hp).2 hsp6).2
      refine r_istore_n hC (lv' := [(1, .int x6_), (0, .ref a0)]) dX10_readFrom_20 (by decide) rfl ?_
      refine r_aload_n hC dX10_readFrom_21 1 rfl ?_
      refine r_ldcS hC (i := 43) (by decide) rfl rfl dX10_readFrom_22 ?_
      refine r_iconst hC (v := (0)) dX10_readFrom_24 (by decide) (by decide) (fun x7_ e7 t7 => ?_)
      refine r_sipush hC (v := (999)) dX10_readFrom_25 (by decide) (by decide) (fun x8_ e8 t8 => ?_)
      refine r_callV hC (As := [.ref (g.2.2.1 43), .int x7_, .int x8_]) (rest := []) (ci := 10) (f_X10_readPart g (xL X) K len I6 J6 R hs6 a0 ka0 43 (by decide) x7_ x8_ mt hmt kmt nmt B n (hB.mv9 hF6 kmt (fun _ => rfl)) hBr hn p6 hp6 tk6 (by first | assumption | decide)) mT_6_1 mT_1_10 mT_5_238 mT_6_0 mP_56 okX10_readPart ⟨by decide, by decide⟩ rfl (by show kO (K a0) = _; rw [ka0]; rfl) rfl rfl (Nat.le_of_ble_eq_true rfl) ⟨by decide, by decide⟩ dX10_readFrom_28 (aI2 (F := fun st M => P g X 3 31 [(1, .int x6_), (0, .ref a0)] st _ _ M) (M := (K, len, I6, J6, R)) fun x9_ I9 J9 h9 => ?_)
      obtain ⟨hs9, hf9, hfj9, k9_0⟩ := h9
      show P g X 3 31 [(1, .int x6_), (0, .ref a0)] [.int x9_] _ _ (K, len, I9, J9, R)
      have hF9 : Fr K [(10, 4), (10, 5), (11, 8), (11, 9), (11, 10), (11, 11), (11, 12), (11, 13), (72, 999), (73, 999)] I I9 := hF6.trans hf9 rfl rfl
      have hFJ9 : Fr K [(11, 14)] J J9 := hFJ6.trans hfj9 rfl rfl
      have pg9 := pg6.mv hf9 kns (fun _ => rfl)
      have nm9 := nm6.mv hfj9 knr (fun _ => rfl)
      have oc9 := oc6.mv qM_big hf9 rfl
      have rw9 := rw6.mv hcx qM_big hf9 rfl
      have om9 := om6.mv hf9 rfl
      have ni9 := ni6.mv hf9 kns knn (fun _ => rfl) (fun _ => rfl)
      rcases k9_0 with ⟨v9, p9, hsp9, hp9, tk9, hv9, fl9⟩ | ⟨kf9, qf9, hsp9, hf09, hf19, hf29⟩
      · have fq9 : I9 a0 12 = I a0 12 := fl9.trans fq6
        rw [show x7_.toInt = 0 by omega, show x8_.toInt = 999 by omega] at hsp9
        have rg9 := (sNum_go hp6 hsp9).2
        refine r_istore_n hC (lv' := [(2, .int x9_), (1, .int x6_), (0, .ref a0)]) dX10_readFrom_31 (by decide) rfl ?_
        refine r_aload_n hC dX10_readFrom_32 2 rfl ?_
        have n5_33 := tk9.e5
        refine r_geti hC 9 (ci := 10) rfl u10_in (by decide) mT_5_4 dX10_readFrom_33 ka0 rfl rfl (fun x10_ e10 => ?_)
        have f10 : x10_.toInt = (I9 a0 9).toInt := by rw [e10]
        refine r_iconst hC (v := (5)) dX10_readFrom_36 (by decide) (by decide) (fun x11_ e11 t11 => ?_)
        refine r_icmp_ne hC (tgt := 41) dX10_readFrom_37 (by decide) (fun c12 => ?_) (fun c12 => ?_)
        rotate_left
        · exfalso; omega
        refine r_aload_n hC dX10_readFrom_41 2 rfl ?_
        refine r_getr hC 4 (ci := 10) rfl u10_in (by decide) mT_4_239 dX10_readFrom_42 ka0 rfl rfl hbr ?_
        obtain ⟨a13_, hb13, hk13, hn13⟩ := hs9.row krm 13 72 16 (by decide) (by decide)
        refine r_getrN hC 13 (ci := 9) rfl u9_in (by decide) nF_13 dX10_readFrom_45 krm rfl rfl hb13 ?_
        refine r_aload_n hC dX10_readFrom_48 2 rfl ?_
        refine r_getr hC 4 (ci := 10) rfl u10_in (by decide) mT_4_239 dX10_readFrom_49 ka0 rfl rfl hbr ?_
        refine r_getiN hC 4 (ci := 9) rfl u9_in (by decide) nF_4 dX10_readFrom_52 krm rfl rfl (fun x14_ e14 => ?_)
        have r14 := hs9.rng krm rfl e14
        have f14 : x14_.toInt = (I9 rm 4).toInt := by rw [e14]
        have w14 : x14_ = x1_ := by rw [e14]; exact (Eq.trans (hf9.get krm rfl) (Eq.trans (hf6.get krm rfl) (Eq.trans (hf3.get krm rfl) e1.symm)))
        have wt14 : x14_.toInt = x1_.toInt := by rw [w14]
        refine r_iload_n hC dX10_readFrom_55 1 rfl ?_
        refine x_iastore hC hk13 hn13 (by decide) rfl rfl dX10_readFrom_56 (by omega) (by omega) (fun I15 eI15 => ?_)
        have hs15 := hs9.put0 eI15 hk13 (rng_arr (by decide) _) rfl (xF_arr (by decide) _) (by decide)
        have hF15 := hF9.put eI15 hk13 (inS_arr rfl _)
        have tkp15 := tk9.put eI15 hk13 ka0 (by decide)
        have fp15 : I15 a0 12 = I a0 12 := (up2_kk eI15 hk13 ka0 (by decide)).trans fq9
        have pg15 := pg9.put eI15 hk13 kns (by decide)
        have om15 := om9.put eI15 hk13 (by first | exact Or.inr rfl | exact Or.inl (by decide) | exact Or.inl (by omega))
        have ni15 := ni9.put eI15 hk13 kns knn (by decide) (by decide)
        have nnz : 0 ≤ D 0 4 := by omega
        have ix15 : x14_.toInt = D 0 4 := by omega
        have eC15 := eI15
        rw [clx ix15 nnz] at eC15
        have rw15 := rw9.put hcx (r0 := 3) (j0 := (D 0 4).toNat) (w := v6) (cM (r := 3) (by decide) (by decide) hb13) eC15 hv6 (by rw [cnt_3]; exact Int.toNat_of_nonneg nnz) (fun h9 => absurd h9 (by decide))
        have oc15 := oc9.put (cM (r := 3) (by decide) (by decide) hb13) eC15
        refine r_aload_n hC dX10_readFrom_57 2 rfl ?_
        refine r_getr hC 4 (ci := 10) rfl u10_in (by decide) mT_4_239 dX10_readFrom_58 ka0 rfl rfl hbr ?_
        obtain ⟨a16_, hb16, hk16, hn16⟩ := hs15.row krm 14 73 16 (by decide) (by decide)
        refine r_getrN hC 14 (ci := 9) rfl u9_in (by decide) nF_14 dX10_readFrom_61 krm rfl rfl hb16 ?_
        refine r_aload_n hC dX10_readFrom_64 2 rfl ?_
        refine r_getr hC 4 (ci := 10) rfl u10_in (by decide) mT_4_239 dX10_readFrom_65 ka0 rfl rfl hbr ?_
        refine r_getiN hC 4 (ci := 9) rfl u9_in (by decide) nF_4 dX10_readFrom_68 krm rfl rfl (fun x17_ e17 => ?_)
        have r17 := hs15.rng krm rfl e17
        have f17 : x17_.toInt = (I15 rm 4).toInt := by rw [e17]
        have w17 : x17_ = x14_ := by rw [e17]; exact (Eq.trans (up2_kk eI15 hk13 krm (by decide)) e14.symm)
        have wt17 : x17_.toInt = x14_.toInt := by rw [w17]
        refine r_iload_n hC dX10_readFrom_71 0 rfl ?_
        refine x_iastore hC hk16 hn16 (by decide) rfl rfl dX10_readFrom_72 (by omega) (by omega) (fun I18 eI18 => ?_)
        have hs18 := hs15.put0 eI18 hk16 (rng_arr (by decide) _) rfl (xF_arr (by decide) _) (by decide)
        have hF18 := hF15.put eI18 hk16 (inS_arr rfl _)
        have tkp18 := tkp15.put eI18 hk16 ka0 (by decide)
        have fp18 : I18 a0 12 = I a0 12 := (up2_kk eI18 hk16 ka0 (by decide)).trans fp15
        have pg18 := pg15.put eI18 hk16 kns (by decide)
        have om18 := om15.put eI18 hk16 (by first | exact Or.inr rfl | exact Or.inl (by decide) | exact Or.inl (by omega))
        have ni18 := ni15.put eI18 hk16 kns knn (by decide) (by decide)
        have eC18 := eI18
        rw [clx (wt17.trans ix15) nnz] at eC18
        have rw18 := rw15.put hcx (r0 := 4) (j0 := (D 0 4).toNat) (w := v9) (cM (r := 4) (by decide) (by decide) hb16) eC18 hv9 (by rw [upN_o (by decide), cnt_4]; exact Int.toNat_of_nonneg nnz) (fun h9 => absurd h9 (by decide))
        have oc18 := oc15.put (cM (r := 4) (by decide) (by decide) hb16) eC18
        refine r_aload_n hC dX10_readFrom_73 2 rfl ?_
        refine r_getr hC 4 (ci := 10) rfl u10_in (by decide) mT_4_239 dX10_readFrom_74 ka0 rfl rfl hbr ?_
        refine r_dup hC dX10_readFrom_77 rfl ?_
        refine r_getiN hC 4 (ci := 9) rfl u9_in (by decide) nF_4 dX10_readFrom_78 krm rfl rfl (fun x19_ e19 => ?_)
        have r19 := hs18.rng krm rfl e19
        have f19 : x19_.toInt = (I18 rm 4).toInt := by rw [e19]
        have w19 : x19_ = x17_ := by rw [e19]; exact (Eq.trans (up2_kk eI18 hk16 krm (by decide)) e17.symm)
        have wt19 : x19_.toInt = x17_.toInt := by rw [w19]
        refine r_iconst hC (v := (1)) dX10_readFrom_81 (by decide) (by decide) (fun x20_ e20 t20 => ?_)
        refine r_iadd hC dX10_readFrom_82 (fun x21_ e21 => ?_)
        try have t21 : x21_.toInt = x19_.toInt + x20_.toInt := by rw [e21]; exact ti_add (by omega) (by omega)
        refine r_putiN hC 4 (ci := 9) rfl u9_in tyX9_ok nmX9 (by decide) nF_4 rfl rfl rfl dX10_readFrom_83 krm rfl rfl (fun I22 eI22 => ?_)
        have hs22 : Sf K len I22 R := hs18.putA4 eI22 krm (by omega) (by omega) (by have h9 := hs18.told krm; omega)
        have hF22 := hF18.put eI22 krm rfl
        have tkp22 := tkp18.put eI22 krm ka0 (by decide)
        have fp22 : I22 a0 12 = I a0 12 := (up2_kk eI22 krm ka0 (by decide)).trans fp18
        have pg22 := pg18.put eI22 krm kns (by decide)
        have om22 := om18.put eI22 krm (by first | exact Or.inr rfl | exact Or.inl (by decide) | exact Or.inl (by omega))
        have ni22 := ni18.put eI22 krm kns knn (by decide) (by decide)
        have rw22 := rw18.putO hcx eI22 krm rfl
        have oc22 := oc18.putO eI22 krm rfl
        refine r_aload_n hC dX10_readFrom_86 2 rfl ?_
        refine r_getr hC 4 (ci := 10) rfl u10_in (by decide) mT_4_239 dX10_readFrom_87 ka0 rfl rfl hbr ?_
        refine r_aload_n hC dX10_readFrom_90 2 rfl ?_
        refine r_getr hC 4 (ci := 10) rfl u10_in (by decide) mT_4_239 dX10_readFrom_91 ka0 rfl rfl hbr ?_
        refine r_getiN hC 4 (ci := 9) rfl u9_in (by decide) nF_4 dX10_readFrom_94 krm rfl rfl (fun x23_ e23 => ?_)
        have r23 := hs22.rng krm rfl e23
        have f23 : x23_.toInt = (I22 rm 4).toInt := by rw [e23]
        have w23 : x23_ = x21_ := by rw [e23]; exact (by rw [eI22]; exact up2_self _ _ _ _)
        have wt23 : x23_.toInt = x21_.toInt := by rw [w23]
        refine r_putiN hC 5 (ci := 9) rfl u9_in tyX9_ok nmX9 (by decide) nF_5 rfl rfl rfl dX10_readFrom_97 krm rfl rfl (fun I24 eI24 => ?_)
        have hs24 : Sf K len I24 R := hs22.putA5 eI24 krm (by omega) (by omega) (by omega)
        have hF24 := hF22.put eI24 krm rfl
        have tkp24 := tkp22.put eI24 krm ka0 (by decide)
        have fp24 : I24 a0 12 = I a0 12 := (up2_kk eI24 krm ka0 (by decide)).trans fp22
        have pg24 := pg22.put eI24 krm kns (by decide)
        have om24 := om22.put eI24 krm (by first | exact Or.inr rfl | exact Or.inl (by decide) | exact Or.inl (by omega))
        have ni24 := ni22.put eI24 krm kns knn (by decide) (by decide)
        have rw24 := rw22.putO hcx eI24 krm rfl
        have oc24 := oc22.putO eI24 krm rfl
        have hG0 : I24 rm 0 = G0 := (Eq.trans (up2_at (Or.inr (by decide)) eI24) (Eq.trans (up2_at (Or.inr (by decide)) eI22) (Eq.trans (up2_kk eI18 hk16 krm (by decide)) (Eq.trans (up2_kk eI15 hk13 krm (by decide)) (Eq.trans (hf9.get krm rfl) (Eq.trans (hf6.get krm rfl) (Eq.trans (hf3.get krm rfl) eG0.symm)))))))
        have hG0t : (I24 rm 0).toInt = G0.toInt := congrArg Int32.toInt hG0
        have hG1 : I24 rm 1 = G1 := (Eq.trans (up2_at (Or.inr (by decide)) eI24) (Eq.trans (up2_at (Or.inr (by decide)) eI22) (Eq.trans (up2_kk eI18 hk16 krm (by decide)) (Eq.trans (up2_kk eI15 hk13 krm (by decide)) (Eq.trans (hf9.get krm rfl) (Eq.trans (hf6.get krm rfl) (Eq.trans (hf3.get krm rfl) eG1.symm)))))))
        have hG1t : (I24 rm 1).toInt = G1.toInt := congrArg Int32.toInt hG1
        have hG2 : I24 rm 2 = G2 := (Eq.trans (up2_at (Or.inr (by decide)) eI24) (Eq.trans (up2_at (Or.inr (by decide)) eI22) (Eq.trans (up2_kk eI18 hk16 krm (by decide)) (Eq.trans (up2_kk eI15 hk13 krm (by decide)) (Eq.trans (hf9.get krm rfl) (Eq.trans (hf6.get krm rfl) (Eq.trans (hf3.get krm rfl) eG2.symm)))))))
        have hG2t : (I24 rm 2).toInt = G2.toInt := congrArg Int32.toInt hG2
        have hG3 : I24 rm 3 = G3 := (Eq.trans (up2_at (Or.inr (by decide)) eI24) (Eq.trans (up2_at (Or.inr (by decide)) eI22) (Eq.trans (up2_kk eI18 hk16 krm (by decide)) (Eq.trans (up2_kk eI15 hk13 krm (by decide)) (Eq.trans (hf9.get krm rfl) (Eq.trans (hf6.get krm rfl) (Eq.trans (hf3.get krm rfl) eG3.symm)))))))
        have hG3t : (I24 rm 3).toInt = G3.toInt := congrArg Int32.toInt hG3
        have hG4 : I24 rm 4 = x23_ := (Eq.trans (up2_at (Or.inr (by decide)) eI24) e23.symm)
        have hG4t : (I24 rm 4).toInt = x23_.toInt := congrArg Int32.toInt hG4
        have hG5 : I24 rm 5 = x23_ := (by rw [eI24]; exact up2_self _ _ _ _)
        have hG5t : (I24 rm 5).toInt = x23_.toInt := congrArg Int32.toInt hG5
        have hG6 : I24 rm 6 = G6 := (Eq.trans (up2_at (Or.inr (by decide)) eI24) (Eq.trans (up2_at (Or.inr (by decide)) eI22) (Eq.trans (up2_kk eI18 hk16 krm (by decide)) (Eq.trans (up2_kk eI15 hk13 krm (by decide)) (Eq.trans (hf9.get krm rfl) (Eq.trans (hf6.get krm rfl) (Eq.trans (hf3.get krm rfl) eG6.symm)))))))
        have hG6t : (I24 rm 6).toInt = G6.toInt := congrArg Int32.toInt hG6
        have hG7 : I24 rm 7 = G7 := (Eq.trans (up2_at (Or.inr (by decide)) eI24) (Eq.trans (up2_at (Or.inr (by decide)) eI22) (Eq.trans (up2_kk eI18 hk16 krm (by decide)) (Eq.trans (up2_kk eI15 hk13 krm (by decide)) (Eq.trans (hf9.get krm rfl) (Eq.trans (hf6.get krm rfl) (Eq.trans (hf3.get krm rfl) eG7.symm)))))))
        have hG7t : (I24 rm 7).toInt = G7.toInt := congrArg Int32.toInt hG7
        have hG8 : I24 rm 8 = G8 := (Eq.trans (up2_at (Or.inr (by decide)) eI24) (Eq.trans (up2_at (Or.inr (by decide)) eI22) (Eq.trans (up2_kk eI18 hk16 krm (by decide)) (Eq.trans (up2_kk eI15 hk13 krm (by decide)) (Eq.trans (hf9.get krm rfl) (Eq.trans (hf6.get krm rfl) (Eq.trans (hf3.get krm rfl) eG8.symm)))))))
        have hG8t : (I24 rm 8).toInt = G8.toInt := congrArg Int32.toInt hG8
        have hG9 : I24 rm 9 = G9 := (Eq.trans (up2_at (Or.inr (by decide)) eI24) (Eq.trans (up2_at (Or.inr (by decide)) eI22) (Eq.trans (up2_kk eI18 hk16 krm (by decide)) (Eq.trans (up2_kk eI15 hk13 krm (by decide)) (Eq.trans (hf9.get krm rfl) (Eq.trans (hf6.get krm rfl) (Eq.trans (hf3.get krm rfl) eG9.symm)))))))
        have hG9t : (I24 rm 9).toInt = G9.toInt := congrArg Int32.toInt hG9
        have hG10 : I24 rm 10 = G10 := (Eq.trans (up2_at (Or.inr (by decide)) eI24) (Eq.trans (up2_at (Or.inr (by decide)) eI22) (Eq.trans (up2_kk eI18 hk16 krm (by decide)) (Eq.trans (up2_kk eI15 hk13 krm (by decide)) (Eq.trans (hf9.get krm rfl) (Eq.trans (hf6.get krm rfl) (Eq.trans (hf3.get krm rfl) eG10.symm)))))))
        have hG10t : (I24 rm 10).toInt = G10.toInt := congrArg Int32.toInt hG10
        exact r_vret hC hQ hlk hr (by decide) (by decide) dX10_readFrom_100 ⟨_, _, rfl, rfl, ⟨hs24, hF24, hFJ9, (by exact Or.inl ⟨_, _, by unfold sFrom; rw [pif_f hbg, hsp6, bnd_ok, hsp9, bnd_ok], hp9, tkp24, ⟨sm.st (by omega) (by omega) (by omega) (by simp [upD, adN, aFrom]) (by simp [upD, adN, aFrom]) (by simp [upD, adN, aFrom]) (by simp [upD, adN, aFrom]) (by simp [upD, adN, aFrom]; omega) (by simp [upD, adN, aFrom]; omega) (by simp [upD, adN, aFrom]; omega) (by simp [upD, adN, aFrom]; omega) (by simp [upD, adN, aFrom]; omega) (by simp [upD, adN, aFrom]; omega) (by simp [upD, adN, aFrom]; omega) (by simp [upD, adN, aFrom]; omega), nm9.cg (by simp [upD, aFrom]) (by intro j; simp [upD, aFrom]), pg24.cg (by simp [upD, aFrom]) (by intro j; simp [upD, aFrom]) (by simp [upD, aFrom]) (by intro j; simp [upD, aFrom])⟩, ni24.cg (by simp [upD, aFrom]) (by intro j; simp [upD, aFrom]) (by simp [upD, aFrom]) (by intro j; simp [upD, aFrom]), rw24.frm (Int.toNat_of_nonneg nnz), fp24⟩), (by exact om24), (by exact oc24)⟩⟩
      · rw [show x7_.toInt = 0 by omega, show x8_.toInt = 999 by omega] at hsp9
        refine r_istore_n hC (lv' := [(2, .int x9_), (1, .int x6_), (0, .ref a0)]) dX10_readFrom_31 (by decide) rfl ?_
        refine r_aload_n hC dX10_readFrom_32 2 rfl ?_
        refine r_geti hC 9 (ci := 10) rfl u10_in (by decide) mT_5_4 dX10_readFrom_33 ka0 rfl rfl (fun x25_ e25 => ?_)
        have f25 : x25_.toInt = (I9 a0 9).toInt := by rw [e25]
        refine r_iconst hC (v := (5)) dX10_readFrom_36 (by decide) (by decide) (fun x26_ e26 t26 => ?_)
        refine r_icmp_ne hC (tgt := 41) dX10_readFrom_37 (by decide) (fun c27 => ?_) (fun c27 => ?_)
        · exfalso; omega
        have hG0 : I9 rm 0 = G0 := (Eq.trans (hf9.get krm rfl) (Eq.trans (hf6.get krm rfl) (Eq.trans (hf3.get krm rfl) eG0.symm)))
        have hG0t : (I9 rm 0).toInt = G0.toInt := congrArg Int32.toInt hG0
        have hG1 : I9 rm 1 = G1 := (Eq.trans (hf9.get krm rfl) (Eq.trans (hf6.get krm rfl) (Eq.trans (hf3.get krm rfl) eG1.symm)))
        have hG1t : (I9 rm 1).toInt = G1.toInt := congrArg Int32.toInt hG1
        have hG2 : I9 rm 2 = G2 := (Eq.trans (hf9.get krm rfl) (Eq.trans (hf6.get krm rfl) (Eq.trans (hf3.get krm rfl) eG2.symm)))
        have hG2t : (I9 rm 2).toInt = G2.toInt := congrArg Int32.toInt hG2
        have hG3 : I9 rm 3 = G3 := (Eq.trans (hf9.get krm rfl) (Eq.trans (hf6.get krm rfl) (Eq.trans (hf3.get krm rfl) eG3.symm)))
        have hG3t : (I9 rm 3).toInt = G3.toInt := congrArg Int32.toInt hG3
        have hG4 : I9 rm 4 = x1_ := (Eq.trans (hf9.get krm rfl) (Eq.trans (hf6.get krm rfl) (Eq.trans (hf3.get krm rfl) e1.symm)))
        have hG4t : (I9 rm 4).toInt = x1_.toInt := congrArg Int32.toInt hG4
        have hG5 : I9 rm 5 = G5 := (Eq.trans (hf9.get krm rfl) (Eq.trans (hf6.get krm rfl) (Eq.trans (hf3.get krm rfl) eG5.symm)))
        have hG5t : (I9 rm 5).toInt = G5.toInt := congrArg Int32.toInt hG5
        have hG6 : I9 rm 6 = G6 := (Eq.trans (hf9.get krm rfl) (Eq.trans (hf6.get krm rfl) (Eq.trans (hf3.get krm rfl) eG6.symm)))
        have hG6t : (I9 rm 6).toInt = G6.toInt := congrArg Int32.toInt hG6
        have hG7 : I9 rm 7 = G7 := (Eq.trans (hf9.get krm rfl) (Eq.trans (hf6.get krm rfl) (Eq.trans (hf3.get krm rfl) eG7.symm)))
        have hG7t : (I9 rm 7).toInt = G7.toInt := congrArg Int32.toInt hG7
        have hG8 : I9 rm 8 = G8 := (Eq.trans (hf9.get krm rfl) (Eq.trans (hf6.get krm rfl) (Eq.trans (hf3.get krm rfl) eG8.symm)))
        have hG8t : (I9 rm 8).toInt = G8.toInt := congrArg Int32.toInt hG8
        have hG9 : I9 rm 9 = G9 := (Eq.trans (hf9.get krm rfl) (Eq.trans (hf6.get krm rfl) (Eq.trans (hf3.get krm rfl) eG9.symm)))
        have hG9t : (I9 rm 9).toInt = G9.toInt := congrArg Int32.toInt hG9
        have hG10 : I9 rm 10 = G10 := (Eq.trans (hf9.get krm rfl) (Eq.trans (hf6.get krm rfl) (Eq.trans (hf3.get krm rfl) eG10.symm)))
        have hG10t : (I9 rm 10).toInt = G10.toInt := congrArg Int32.toInt hG10
        exact r_vret hC hQ hlk hr (by decide) (by decide) dX10_readFrom_40 ⟨_, _, rfl, rfl, ⟨hs9, hF9, hFJ9, (by exact Or.inr ⟨kf9, qf9, by unfold sFrom; rw [pif_f hbg, hsp6, bnd_ok, hsp9, bnd_er], by omega, by omega, by omega⟩), (by exact om9), (by exact oc9)⟩⟩
    · rw [show x4_.toInt = 0 by omega, show x5_.toInt = 59 by omega] at hsp6
      refine r_istore_n hC (lv' := [(1, .int x6_), (0, .ref a0)]) dX10_readFrom_20 (by decide) rfl ?_
      refine r_aload_n hC dX10_readFrom_21 1 rfl ?_
      refine r_ldcS hC (i := 43) (by decide) rfl rfl dX10_readFrom_22 ?_
      refine r_iconst hC (v := (0)) dX10_readFrom_24 (by decide) (by decide) (fun x28_ e28 t28 => ?_)
      refine r_sipush hC (v := (999)) dX10_readFrom_25 (by decide) (by decide) (fun x29_ e29 t29 => ?_)
      refine r_callV hC (As := [.ref (g.2.2.1 43), .int x28_, .int x29_]) (rest := []) (ci := 10) (e_X10_readPart g (xL X) K len I6 J6 R hs6 a0 ka0 43 (by decide) x28_ x29_ (by omega)) mT_6_1 mT_1_10 mT_5_238 mT_6_0 mP_56 okX10_readPart ⟨by decide, by decide⟩ rfl (by show kO (K a0) = _; rw [ka0]; rfl) rfl rfl (Nat.le_of_ble_eq_true rfl) ⟨by decide, by decide⟩ dX10_readFrom_28 (aI2 (F := fun st M => P g X 3 31 [(1, .int x6_), (0, .ref a0)] st _ _ M) (M := (K, len, I6, J6, R)) fun x30_ I30 J30 h30 => ?_)
      obtain ⟨hs30, hf30, hfj30, k30_0, k30_1, k30_2⟩ := h30
      show P g X 3 31 [(1, .int x6_), (0, .ref a0)] [.int x30_] _ _ (K, len, I30, J30, R)
      have hF30 : Fr K [(10, 4), (10, 5), (11, 8), (11, 9), (11, 10), (11, 11), (11, 12), (11, 13), (72, 999), (73, 999)] I I30 := hF6.trans hf30 rfl rfl
      have hFJ30 : Fr K [(11, 14)] J J30 := hFJ6.trans hfj30 rfl rfl
      have oc30 := oc6.mv qM_big hf30 rfl
      have om30 := om6.mv hf30 rfl
      refine r_istore_n hC (lv' := [(2, .int x30_), (1, .int x6_), (0, .ref a0)]) dX10_readFrom_31 (by decide) rfl ?_
      refine r_aload_n hC dX10_readFrom_32 2 rfl ?_
      refine r_geti hC 9 (ci := 10) rfl u10_in (by decide) mT_5_4 dX10_readFrom_33 ka0 rfl rfl (fun x31_ e31 => ?_)
      have f31 : x31_.toInt = (I30 a0 9).toInt := by rw [e31]
      refine r_iconst hC (v := (5)) dX10_readFrom_36 (by decide) (by decide) (fun x32_ e32 t32 => ?_)
      refine r_icmp_ne hC (tgt := 41) dX10_readFrom_37 (by decide) (fun c33 => ?_) (fun c33 => ?_)
      · exfalso; omega
      have hG0 : I30 rm 0 = G0 := (Eq.trans (hf30.get krm rfl) (Eq.trans (hf6.get krm rfl) (Eq.trans (hf3.get krm rfl) eG0.symm)))
      have hG0t : (I30 rm 0).toInt = G0.toInt := congrArg Int32.toInt hG0
      have hG1 : I30 rm 1 = G1 := (Eq.trans (hf30.get krm rfl) (Eq.trans (hf6.get krm rfl) (Eq.trans (hf3.get krm rfl) eG1.symm)))
      have hG1t : (I30 rm 1).toInt = G1.toInt := congrArg Int32.toInt hG1
      have hG2 : I30 rm 2 = G2 := (Eq.trans (hf30.get krm rfl) (Eq.trans (hf6.get krm rfl) (Eq.trans (hf3.get krm rfl) eG2.symm)))
      have hG2t : (I30 rm 2).toInt = G2.toInt := congrArg Int32.toInt hG2
      have hG3 : I30 rm 3 = G3 := (Eq.trans (hf30.get krm rfl) (Eq.trans (hf6.get krm rfl) (Eq.trans (hf3.get krm rfl) eG3.symm)))
      have hG3t : (I30 rm 3).toInt = G3.toInt := congrArg Int32.toInt hG3
      have hG4 : I30 rm 4 = x1_ := (Eq.trans (hf30.get krm rfl) (Eq.trans (hf6.get krm rfl) (Eq.trans (hf3.get krm rfl) e1.symm)))
      have hG4t : (I30 rm 4).toInt = x1_.toInt := congrArg Int32.toInt hG4
      have hG5 : I30 rm 5 = G5 := (Eq.trans (hf30.get krm rfl) (Eq.trans (hf6.get krm rfl) (Eq.trans (hf3.get krm rfl) eG5.symm)))
      have hG5t : (I30 rm 5).toInt = G5.toInt := congrArg Int32.toInt hG5
      have hG6 : I30 rm 6 = G6 := (Eq.trans (hf30.get krm rfl) (Eq.trans (hf6.get krm rfl) (Eq.trans (hf3.get krm rfl) eG6.symm)))
      have hG6t : (I30 rm 6).toInt = G6.toInt := congrArg Int32.toInt hG6
      have hG7 : I30 rm 7 = G7 := (Eq.trans (hf30.get krm rfl) (Eq.trans (hf6.get krm rfl) (Eq.trans (hf3.get krm rfl) eG7.symm)))
      have hG7t : (I30 rm 7).toInt = G7.toInt := congrArg Int32.toInt hG7
      have hG8 : I30 rm 8 = G8 := (Eq.trans (hf30.get krm rfl) (Eq.trans (hf6.get krm rfl) (Eq.trans (hf3.get krm rfl) eG8.symm)))
      have hG8t : (I30 rm 8).toInt = G8.toInt := congrArg Int32.toInt hG8
      have hG9 : I30 rm 9 = G9 := (Eq.trans (hf30.get krm rfl) (Eq.trans (hf6.get krm rfl) (Eq.trans (hf3.get krm rfl) eG9.symm)))
      have hG9t : (I30 rm 9).toInt = G9.toInt := congrArg Int32.toInt hG9
      have hG10 : I30 rm 10 = G10 := (Eq.trans (hf30.get krm rfl) (Eq.trans (hf6.get krm rfl) (Eq.trans (hf3.get krm rfl) eG10.symm)))
      have hG10t : (I30 rm 10).toInt = G10.toInt := congrArg Int32.toInt hG10
      exact r_vret hC hQ hlk hr (by decide) (by decide) dX10_readFrom_40 ⟨_, _, rfl, rfl, ⟨hs30, hF30, hFJ30, (by exact Or.inr ⟨kf6, qf6, by unfold sFrom; rw [pif_f hbg, hsp6, bnd_er], by omega, by omega, by omega⟩), (by exact om30), (by exact oc30)⟩⟩
  · have hbg : 8 ≤ D 0 4 := by omega
    refine r_aload_n hC dX10_readFrom_13 0 rfl ?_
    refine r_iconst hC (v := (0)) dX10_readFrom_14 (by decide) (by decide) (fun x34_ e34 t34 => ?_)
    refine r_bipush hC (v := (59)) dX10_readFrom_15 (by decide) (by decide) (fun x35_ e35 t35 => ?_)
    refine r_callV hC (As := [.int x34_, .int x35_]) (rest := []) (ci := 10) (e_X10_readWhole g (xL X) K len I3 J3 R hs3 a0 ka0 x34_ x35_ (by omega)) mT_6_5 mT_1_10 mT_6_2 mT_6_4 mP_57 okX10_readWhole ⟨by decide, by decide⟩ rfl (by show kO (K a0) = _; rw [ka0]; rfl) rfl rfl (Nat.le_of_ble_eq_true rfl) ⟨by decide, by decide⟩ dX10_readFrom_17 (aI2 (F := fun st M => P g X 3 20 [(0, .ref a0)] st _ _ M) (M := (K, len, I3, J3, R)) fun x36_ I36 J36 h36 => ?_)
    obtain ⟨hs36, hf36, hfj36, k36_0, k36_1, k36_2⟩ := h36
    show P g X 3 20 [(0, .ref a0)] [.int x36_] _ _ (K, len, I36, J36, R)
    have hF36 : Fr K [(10, 4), (10, 5), (11, 8), (11, 9), (11, 10), (11, 11), (11, 12), (11, 13), (72, 999), (73, 999)] I I36 := hF3.trans hf36 rfl rfl
    have hFJ36 : Fr K [(11, 14)] J J36 := hFJ3.trans hfj36 rfl rfl
    have oc36 := oc3.mv qM_big hf36 rfl
    have om36 := om3.mv hf36 rfl
    refine r_istore_n hC (lv' := [(1, .int x36_), (0, .ref a0)]) dX10_readFrom_20 (by decide) rfl ?_
    refine r_aload_n hC dX10_readFrom_21 1 rfl ?_
    refine r_ldcS hC (i := 43) (by decide) rfl rfl dX10_readFrom_22 ?_
    refine r_iconst hC (v := (0)) dX10_readFrom_24 (by decide) (by decide) (fun x37_ e37 t37 => ?_)
    refine r_sipush hC (v := (999)) dX10_readFrom_25 (by decide) (by decide) (fun x38_ e38 t38 => ?_)
    refine r_callV hC (As := [.ref (g.2.2.1 43), .int x37_, .int x38_]) (rest := []) (ci := 10) (e_X10_readPart g (xL X) K len I36 J36 R hs36 a0 ka0 43 (by decide) x37_ x38_ (by omega)) mT_6_1 mT_1_10 mT_5_238 mT_6_0 mP_56 okX10_readPart ⟨by decide, by decide⟩ rfl (by show kO (K a0) = _; rw [ka0]; rfl) rfl rfl (Nat.le_of_ble_eq_true rfl) ⟨by decide, by decide⟩ dX10_readFrom_28 (aI2 (F := fun st M => P g X 3 31 [(1, .int x36_), (0, .ref a0)] st _ _ M) (M := (K, len, I36, J36, R)) fun x39_ I39 J39 h39 => ?_)
    obtain ⟨hs39, hf39, hfj39, k39_0, k39_1, k39_2⟩ := h39
    show P g X 3 31 [(1, .int x36_), (0, .ref a0)] [.int x39_] _ _ (K, len, I39, J39, R)
    have hF39 : Fr K [(10, 4), (10, 5), (11, 8), (11, 9), (11, 10), (11, 11), (11, 12), (11, 13), (72, 999), (73, 999)] I I39 := hF36.trans hf39 rfl rfl
    have hFJ39 : Fr K [(11, 14)] J J39 := hFJ36.trans hfj39 rfl rfl
    have oc39 := oc36.mv qM_big hf39 rfl
    have om39 := om36.mv hf39 rfl
    refine r_istore_n hC (lv' := [(2, .int x39_), (1, .int x36_), (0, .ref a0)]) dX10_readFrom_31 (by decide) rfl ?_
    refine r_aload_n hC dX10_readFrom_32 2 rfl ?_
    refine r_geti hC 9 (ci := 10) rfl u10_in (by decide) mT_5_4 dX10_readFrom_33 ka0 rfl rfl (fun x40_ e40 => ?_)
    have f40 : x40_.toInt = (I39 a0 9).toInt := by rw [e40]
    refine r_iconst hC (v := (5)) dX10_readFrom_36 (by decide) (by decide) (fun x41_ e41 t41 => ?_)
    refine r_icmp_ne hC (tgt := 41) dX10_readFrom_37 (by decide) (fun c42 => ?_) (fun c42 => ?_)
    · exfalso; omega
    have hG0 : I39 rm 0 = G0 := (Eq.trans (hf39.get krm rfl) (Eq.trans (hf36.get krm rfl) (Eq.trans (hf3.get krm rfl) eG0.symm)))
    have hG0t : (I39 rm 0).toInt = G0.toInt := congrArg Int32.toInt hG0
    have hG1 : I39 rm 1 = G1 := (Eq.trans (hf39.get krm rfl) (Eq.trans (hf36.get krm rfl) (Eq.trans (hf3.get krm rfl) eG1.symm)))
    have hG1t : (I39 rm 1).toInt = G1.toInt := congrArg Int32.toInt hG1
    have hG2 : I39 rm 2 = G2 := (Eq.trans (hf39.get krm rfl) (Eq.trans (hf36.get krm rfl) (Eq.trans (hf3.get krm rfl) eG2.symm)))
    have hG2t : (I39 rm 2).toInt = G2.toInt := congrArg Int32.toInt hG2
    have hG3 : I39 rm 3 = G3 := (Eq.trans (hf39.get krm rfl) (Eq.trans (hf36.get krm rfl) (Eq.trans (hf3.get krm rfl) eG3.symm)))
    have hG3t : (I39 rm 3).toInt = G3.toInt := congrArg Int32.toInt hG3
    have hG4 : I39 rm 4 = x1_ := (Eq.trans (hf39.get krm rfl) (Eq.trans (hf36.get krm rfl) (Eq.trans (hf3.get krm rfl) e1.symm)))
    have hG4t : (I39 rm 4).toInt = x1_.toInt := congrArg Int32.toInt hG4
    have hG5 : I39 rm 5 = G5 := (Eq.trans (hf39.get krm rfl) (Eq.trans (hf36.get krm rfl) (Eq.trans (hf3.get krm rfl) eG5.symm)))
    have hG5t : (I39 rm 5).toInt = G5.toInt := congrArg Int32.toInt hG5
    have hG6 : I39 rm 6 = G6 := (Eq.trans (hf39.get krm rfl) (Eq.trans (hf36.get krm rfl) (Eq.trans (hf3.get krm rfl) eG6.symm)))
    have hG6t : (I39 rm 6).toInt = G6.toInt := congrArg Int32.toInt hG6
    have hG7 : I39 rm 7 = G7 := (Eq.trans (hf39.get krm rfl) (Eq.trans (hf36.get krm rfl) (Eq.trans (hf3.get krm rfl) eG7.symm)))
    have hG7t : (I39 rm 7).toInt = G7.toInt := congrArg Int32.toInt hG7
    have hG8 : I39 rm 8 = G8 := (Eq.trans (hf39.get krm rfl) (Eq.trans (hf36.get krm rfl) (Eq.trans (hf3.get krm rfl) eG8.symm)))
    have hG8t : (I39 rm 8).toInt = G8.toInt := congrArg Int32.toInt hG8
    have hG9 : I39 rm 9 = G9 := (Eq.trans (hf39.get krm rfl) (Eq.trans (hf36.get krm rfl) (Eq.trans (hf3.get krm rfl) eG9.symm)))
    have hG9t : (I39 rm 9).toInt = G9.toInt := congrArg Int32.toInt hG9
    have hG10 : I39 rm 10 = G10 := (Eq.trans (hf39.get krm rfl) (Eq.trans (hf36.get krm rfl) (Eq.trans (hf3.get krm rfl) eG10.symm)))
    have hG10t : (I39 rm 10).toInt = G10.toInt := congrArg Int32.toInt hG10
    exact r_vret hC hQ hlk hr (by decide) (by decide) dX10_readFrom_40 ⟨_, _, rfl, rfl, ⟨hs39, hF39, hFJ39, (by exact Or.inr ⟨5, (pl B n p), by unfold sFrom; rw [pif_t hbg], by omega, by omega, by omega⟩), (by exact om39), (by exact oc39)⟩⟩
set_option maxHeartbeats 4000000 in
set_option maxRecDepth 100000 in
theorem f_X10_readRain (g : GG) (l : Launch) (K len : Nat → Nat) (I : Nat → Nat → Int32) (J : Nat → Nat → Int64) (R : Nat → Nat → Option Nat) (hs : Sf K len I R) (a0 : Nat) (ka0 : K a0 = 11) (rm : Nat) (hbr : R a0 4 = some rm) (krm : K rm = 10) (mt : Nat) (hmt : R a0 5 = some mt) (kmt : K mt = 49) (nmt : len mt = 900) (B : Nat → Int) (n : Nat) (hB : BT B n mt I) (hBr : ∀ j : Nat, j < n → -128 ≤ B j ∧ B j ≤ 127) (hn : n ≤ 900) (p : Nat) (hp : p ≤ n) (tkm : TkM B n a0 p I J) (nr : Nat) (hnr : R rm 25 = some nr) (knr : K nr = 82) (lnr : len nr = 19) (ns : Nat) (hns : R rm 26 = some ns) (kns : K ns = 83) (lns : len ns = 19) (nn : Nat) (hnn : R rm 27 = some nn) (knn : K nn = 84) (lnn : len nn = 19) (D : DD) (hD : DI D) (sm : SM D rm I) (nm : NmM D nr J) (pg : PgI D ns I) (ni : NnI D ns nn I) (rwd : RW (CM rm R) (cntN D) D I) (hJ : DJ D) (p0 : kd B n p = 1) : Ct g l yX10_readRain cX10_readRain 3 (Option.none : Option Jvm.ClassFile.FieldType) rmX10_readRain [.ref a0] (K, len, I, J, R) (pV2 (K, len, I, J, R) (fun I' J' => Sf K len I' R ∧ Fr K [(10, 6), (11, 8), (11, 9), (11, 10), (11, 11), (11, 12), (11, 13), (74, 999)] I I' ∧ Fr K [(11, 14)] J J' ∧ ((∃ (D' : DD) (p' : Nat), sRain B n p D = .ok (D', p') ∧ p' ≤ n ∧ TkM B n a0 p' I' J' ∧ RpM D' rm nr ns I' J' ∧ NnI D' ns nn I' ∧ RW (CM rm R) (cntN D') D' I' ∧ I' a0 12 = I a0 12) ∨ (∃ (kf : Int) (qf : Nat), sRain B n p D = .error (kf, qf) ∧ (I' a0 9).toInt = 5 ∧ (I' a0 12).toInt = kf ∧ (I' a0 13).toInt = qf)) ∧ (OM K rm I I') ∧ (OC (CM rm R) qM K I I'))) := by
  refine Ct_intro (by decide +kernel) (Nat.le_of_ble_eq_true rfl) (fun X hC hL hKK hNm hr hlk hQ => ?_)
  subst hL
  have hC : Cx g X cX10_readRain "HillTapModel" 3 rmX10_readRain := hC
  show P g X 3 0 [(0, .ref a0)] [] 0 0 (K, len, I, J, R)
  have hF : Fr K [(10, 6), (11, 8), (11, 9), (11, 10), (11, 11), (11, 12), (11, 13), (74, 999)] I I := Fr.refl
  have hFJ : Fr K [(11, 14)] J J := Fr.refl
  have ek1 := tkm.e1
  have ek2 := tkm.e2
  have ek3 := tkm.e3
  have ek4 := tkm.e4
  have ek10 := tkm.2.1
  have ek11 := tkm.2.2.2.2.2
  obtain ⟨hD0, ⟨hD1, hD2⟩, ⟨hD3, hD4⟩, ⟨hD5, hD6⟩, ⟨hD7, hD8⟩, ⟨hD9, hD10⟩, hD11, hD12⟩ := id hD
  obtain ⟨sm0, sm3, sm4, sm5, sm6, sm7, sm8, sm9, sm10⟩ := id sm
  obtain ⟨G0, eG0⟩ : ∃ z : Int32, z = I rm 0 := ⟨_, rfl⟩
  have fG0 : G0.toInt = (I rm 0).toInt := by rw [eG0]
  obtain ⟨G1, eG1⟩ : ∃ z : Int32, z = I rm 1 := ⟨_, rfl⟩
  have fG1 : G1.toInt = (I rm 1).toInt := by rw [eG1]
  obtain ⟨G2, eG2⟩ : ∃ z : Int32, z = I rm 2 := ⟨_, rfl⟩
  have fG2 : G2.toInt = (I rm 2).toInt := by rw [eG2]
  obtain ⟨G3, eG3⟩ : ∃ z : Int32, z = I rm 3 := ⟨_, rfl⟩
  have fG3 : G3.toInt = (I rm 3).toInt := by rw [eG3]
  have rG3 := hs.rng krm rfl eG3
  obtain ⟨G4, eG4⟩ : ∃ z : Int32, z = I rm 4 := ⟨_, rfl⟩
  have fG4 : G4.toInt = (I rm 4).toInt := by rw [eG4]
  have rG4 := hs.rng krm rfl eG4
  obtain ⟨G5, eG5⟩ : ∃ z : Int32, z = I rm 5 := ⟨_, rfl⟩
  have fG5 : G5.toInt = (I rm 5).toInt := by rw [eG5]
  have rG5 := hs.rng krm rfl eG5
  obtain ⟨G6, eG6⟩ : ∃ z : Int32, z = I rm 6 := ⟨_, rfl⟩
  have fG6 : G6.toInt = (I rm 6).toInt := by rw [eG6]
  have rG6 := hs.rng krm rfl eG6
  obtain ⟨G7, eG7⟩ : ∃ z : Int32, z = I rm 7 := ⟨_, rfl⟩
  have fG7 : G7.toInt = (I rm 7).toInt := by rw [eG7]
  have rG7 := hs.rng krm rfl eG7
  obtain ⟨G8, eG8⟩ : ∃ z : Int32, z = I rm 8 := ⟨_, rfl⟩
  have fG8 : G8.toInt = (I rm 8).toInt := by rw [eG8]
  have rG8 := hs.rng krm rfl eG8
  obtain ⟨G9, eG9⟩ : ∃ z : Int32, z = I rm 9 := ⟨_, rfl⟩
  have fG9 : G9.toInt = (I rm 9).toInt := by rw [eG9]
  have rG9 := hs.rng krm rfl eG9
  obtain ⟨G10, eG10⟩ : ∃ z : Int32, z = I rm 10 := ⟨_, rfl⟩
  have fG10 : G10.toInt = (I rm 10).toInt := by rw [eG10]
  have rG10 := hs.rng krm rfl eG10
  have om : OM K rm I I := OM.rf
  have hcx := CM_x hs krm
  have oc : OC (CM rm R) qM K I I := OC.rf
  refine r_aload_n hC dX10_readRain_0 0 rfl ?_
  refine r_aload_n hC dX10_readRain_1 0 rfl ?_
  refine r_getr hC 4 (ci := 10) rfl u10_in (by decide) mT_4_239 dX10_readRain_2 ka0 rfl rfl hbr ?_
  refine r_getiN hC 6 (ci := 9) rfl u9_in (by decide) nF_6 dX10_readRain_5 krm rfl rfl (fun x1_ e1 => ?_)
  have r1 := hs.rng krm rfl e1
  have f1 : x1_.toInt = (I rm 6).toInt := by rw [e1]
  have w1 : x1_ = G6 := by rw [e1]; exact eG6.symm
  have wt1 : x1_.toInt = G6.toInt := by rw [w1]
  refine r_bipush hC (v := (6)) dX10_readRain_8 (by decide) (by decide) (fun x2_ e2 t2 => ?_)
  refine r_callV hC (As := [.int x1_, .int x2_]) (rest := []) (ci := 10) (f_X10_begins g (xL X) K len I J R hs a0 ka0 x1_ x2_ mt hmt kmt nmt B n (hB.mv9 hF kmt (fun _ => rfl)) hBr hn p hp tkm (by omega)) mT_6_19 mT_1_10 mT_6_16 mT_6_18 mP_59 okX10_begins ⟨by decide, by decide⟩ rfl (by show kO (K a0) = _; rw [ka0]; rfl) rfl rfl (Nat.le_of_ble_eq_true rfl) ⟨by decide, by decide⟩ dX10_readRain_10 (aV2 (F := fun st M => P g X 3 13 [(0, .ref a0)] st _ _ M) (M := (K, len, I, J, R)) fun I3 J3 h3 => ?_)
  obtain ⟨hs3, hf3, hfj3, k3_0⟩ := h3
  show P g X 3 13 [(0, .ref a0)] [] _ _ (K, len, I3, J3, R)
  have hF3 : Fr K [(10, 6), (11, 8), (11, 9), (11, 10), (11, 11), (11, 12), (11, 13), (74, 999)] I I3 := hF.trans hf3 rfl rfl
  have hFJ3 : Fr K [(11, 14)] J J3 := hFJ.trans hfj3 rfl rfl
  have pg3 := pg.mv hf3 kns (fun _ => rfl)
  have nm3 := nm.mv hfj3 knr (fun _ => rfl)
  have oc3 := oc.mv qM_big hf3 rfl
  have rw3 := rwd.mv hcx qM_big hf3 rfl
  have om3 := om.mv hf3 rfl
  have ni3 := ni.mv hf3 kns knn (fun _ => rfl) (fun _ => rfl)
  rcases k3_0 with ⟨hr3, tk3, fl3⟩ | ⟨hr3, hf03, hf13, hf23⟩
  · have fq3 : I3 a0 12 = I a0 12 := fl3.trans rfl
    have hbg : ¬ 6 ≤ D 0 6 := by omega
    refine r_aload_n hC dX10_readRain_13 0 rfl ?_
    refine r_iconst hC (v := (0)) dX10_readRain_14 (by decide) (by decide) (fun x4_ e4 t4 => ?_)
    refine r_bipush hC (v := (59)) dX10_readRain_15 (by decide) (by decide) (fun x5_ e5 t5 => ?_)
    refine r_callV hC (As := [.int x4_, .int x5_]) (rest := []) (ci := 10) (f_X10_readWhole g (xL X) K len I3 J3 R hs3 a0 ka0 x4_ x5_ mt hmt kmt nmt B n (hB.mv9 hF3 kmt (fun _ => rfl)) hBr hn (nx B n p) (nx_le hp).2 tk3) mT_6_5 mT_1_10 mT_6_2 mT_6_4 mP_57 okX10_readWhole ⟨by decide, by decide⟩ rfl (by show kO (K a0) = _; rw [ka0]; rfl) rfl rfl (Nat.le_of_ble_eq_true rfl) ⟨by decide, by decide⟩ dX10_readRain_17 (aI2 (F := fun st M => P g X 3 20 [(0, .ref a0)] st _ _ M) (M := (K, len, I3, J3, R)) fun x6_ I6 J6 h6 => ?_)
    obtain ⟨hs6, hf6, hfj6, k6_0⟩ := h6
    show P g X 3 20 [(0, .ref a0)] [.int x6_] _ _ (K, len, I6, J6, R)
    have hF6 : Fr K [(10, 6), (11, 8), (11, 9), (11, 10), (11, 11), (11, 12), (11, 13), (74, 999)] I I6 := hF3.trans hf6 rfl rfl
    have hFJ6 : Fr K [(11, 14)] J J6 := hFJ3.trans hfj6 rfl rfl
    have pg6 := pg3.mv hf6 kns (fun _ => rfl)
    have nm6 := nm3.mv hfj6 knr (fun _ => rfl)
    have oc6 := oc3.mv qM_big hf6 rfl
    have rw6 := rw3.mv hcx qM_big hf6 rfl
    have om6 := om3.mv hf6 rfl
    have ni6 := ni3.mv hf6 kns knn (fun _ => rfl) (fun _ => rfl)
    rcases k6_0 with ⟨v6, p6, hsp6, hp6, tk6, hv6, fl6⟩ | ⟨kf6, qf6, hsp6, hf06, hf16, hf26⟩
    · have fq6 : I6 a0 12 = I a0 12 := fl6.trans fq3
      rw [show x4_.toInt = 0 by omega, show x5_.toInt = 59 by omega] at hsp6
      have rg6 := (sWhole_go (nx_le hp).2 hsp6).2
      refine r_istore_n hC (lv' := [(1, .int x6_), (0, .ref a0)]) dX10_readRain_20 (by decide) rfl ?_
      refine r_aload_n hC dX10_readRain_21 1 rfl ?_
      refine r_ldcS hC (i := 44) (by decide) rfl rfl dX10_readRain_22 ?_
      refine r_iconst hC (v := (1)) dX10_readRain_24 (by decide) (by decide) (fun x7_ e7 t7 => ?_)
      refine r_bipush hC (v := (99)) dX10_readRain_25 (by decide) (by decide) (fun x8_ e8 t8 => ?_)
      refine r_callV hC (As := [.ref (g.2.2.1 44), .int x7_, .int x8_]) (rest := []) (ci := 10) (f_X10_readPart g (xL X) K len I6 J6 R hs6 a0 ka0 44 (by decide) x7_ x8_ mt hmt kmt nmt B n (hB.mv9 hF6 kmt (fun _ => rfl)) hBr hn p6 hp6 tk6 (by first | assumption | decide)) mT_6_1 mT_1_10 mT_5_238 mT_6_0 mP_56 okX10_readPart ⟨by decide, by decide⟩ rfl (by show kO (K a0) = _; rw [ka0]; rfl) rfl rfl (Nat.le_of_ble_eq_true rfl) ⟨by decide, by decide⟩ dX10_readRain_27 (aI2 (F := fun st M => P g X 3 30 [(1, .int x6_), (0, .ref a0)] st _ _ M) (M := (K, len, I6, J6, R)) fun x9_ I9 J9 h9 => ?_)
      obtain ⟨hs9, hf9, hfj9, k9_0⟩ := h9
      show P g X 3 30 [(1, .int x6_), (0, .ref a0)] [.int x9_] _ _ (K, len, I9, J9, R)
      have hF9 : Fr K [(10, 6), (11, 8), (11, 9), (11, 10), (11, 11), (11, 12), (11, 13), (74, 999)] I I9 := hF6.trans hf9 rfl rfl
      have hFJ9 : Fr K [(11, 14)] J J9 := hFJ6.trans hfj9 rfl rfl
      have pg9 := pg6.mv hf9 kns (fun _ => rfl)
      have nm9 := nm6.mv hfj9 knr (fun _ => rfl)
      have oc9 := oc6.mv qM_big hf9 rfl
      have rw9 := rw6.mv hcx qM_big hf9 rfl
      have om9 := om6.mv hf9 rfl
      have ni9 := ni6.mv hf9 kns knn (fun _ => rfl) (fun _ => rfl)
      rcases k9_0 with ⟨v9, p9, hsp9, hp9, tk9, hv9, fl9⟩ | ⟨kf9, qf9, hsp9, hf09, hf19, hf29⟩
      · have fq9 : I9 a0 12 = I a0 12 := fl9.trans fq6
        rw [show x7_.toInt = 1 by omega, show x8_.toInt = 99 by omega] at hsp9
        have rg9 := (sNum_go hp6 hsp9).2
        refine r_istore_n hC (lv' := [(2, .int x9_), (1, .int x6_), (0, .ref a0)]) dX10_readRain_30 (by decide) rfl ?_
        refine r_aload_n hC dX10_readRain_31 2 rfl ?_
        have n5_32 := tk9.e5
        refine r_geti hC 9 (ci := 10) rfl u10_in (by decide) mT_5_4 dX10_readRain_32 ka0 rfl rfl (fun x10_ e10 => ?_)
        have f10 : x10_.toInt = (I9 a0 9).toInt := by rw [e10]
        refine r_iconst hC (v := (5)) dX10_readRain_35 (by decide) (by decide) (fun x11_ e11 t11 => ?_)
        refine r_icmp_ne hC (tgt := 40) dX10_readRain_36 (by decide) (fun c12 => ?_) (fun c12 => ?_)
        rotate_left
        · exfalso; omega
        refine r_aload_n hC dX10_readRain_40 2 rfl ?_
        refine r_getr hC 4 (ci := 10) rfl u10_in (by decide) mT_4_239 dX10_readRain_41 ka0 rfl rfl hbr ?_
        obtain ⟨a13_, hb13, hk13, hn13⟩ := hs9.row krm 15 74 60 (by decide) (by decide)
        refine r_getrN hC 15 (ci := 9) rfl u9_in (by decide) nF_15 dX10_readRain_44 krm rfl rfl hb13 ?_
        refine r_iload_n hC dX10_readRain_47 1 rfl ?_
        refine r_dup2 hC dX10_readRain_48 rfl rfl ?_
        refine x_iaload hC hk13 hn13 (by decide) rfl rfl dX10_readRain_49 (by omega) (by omega) (fun x14_ e14 => ?_)
        refine r_iload_n hC dX10_readRain_50 0 rfl ?_
        have rx : x14_.toInt = D 5 (v6).toNat := by rw [e14, show x6_.toNatClampNeg = (v6).toNat from by have h9 := clampI (i := x6_) (by omega); omega]; exact rw9 5 _ _ _ (cM (r := 5) (by decide) (by decide) hb13) (show ((v6).toNat : Int) < 60 from by omega) (fun h9 => absurd h9 (by decide))
        have rb := hJ.1 (v6).toNat
        refine r_iadd hC dX10_readRain_51 (fun x15_ e15 => ?_)
        try have t15 : x15_.toInt = x14_.toInt + x9_.toInt := by rw [e15]; exact ti_add (by omega) (by omega)
        refine x_iastore hC hk13 hn13 (by decide) rfl rfl dX10_readRain_52 (by omega) (by omega) (fun I16 eI16 => ?_)
        have hs16 := hs9.put0 eI16 hk13 (rng_arr (by decide) _) rfl (xF_arr (by decide) _) (by decide)
        have hF16 := hF9.put eI16 hk13 (inS_arr rfl _)
        have tkp16 := tk9.put eI16 hk13 ka0 (by decide)
        have fp16 : I16 a0 12 = I a0 12 := (up2_kk eI16 hk13 ka0 (by decide)).trans fq9
        have pg16 := pg9.put eI16 hk13 kns (by decide)
        have om16 := om9.put eI16 hk13 (by first | exact Or.inr rfl | exact Or.inl (by decide) | exact Or.inl (by omega))
        have ni16 := ni9.put eI16 hk13 kns knn (by decide) (by decide)
        have jx16 : x6_.toNatClampNeg = (v6).toNat := by have h9 := clampI (i := x6_) (by omega); omega
        rw [jx16] at eI16
        clear jx16
        have rw16 := rw9.ovr hcx (j0 := (v6).toNat) (w := D 5 (v6).toNat + v9) (cM (r := 5) (by decide) (by decide) hb13) eI16 (by omega) (by decide)
        have oc16 := oc9.put (cM (r := 5) (by decide) (by decide) hb13) eI16
        refine r_aload_n hC dX10_readRain_53 2 rfl ?_
        refine r_getr hC 4 (ci := 10) rfl u10_in (by decide) mT_4_239 dX10_readRain_54 ka0 rfl rfl hbr ?_
        refine r_dup hC dX10_readRain_57 rfl ?_
        refine r_getiN hC 6 (ci := 9) rfl u9_in (by decide) nF_6 dX10_readRain_58 krm rfl rfl (fun x17_ e17 => ?_)
        have r17 := hs16.rng krm rfl e17
        have f17 : x17_.toInt = (I16 rm 6).toInt := by rw [e17]
        have w17 : x17_ = x1_ := by rw [e17]; exact (Eq.trans (up2_kk eI16 hk13 krm (by decide)) (Eq.trans (hf9.get krm rfl) (Eq.trans (hf6.get krm rfl) (Eq.trans (hf3.get krm rfl) e1.symm))))
        have wt17 : x17_.toInt = x1_.toInt := by rw [w17]
        refine r_iconst hC (v := (1)) dX10_readRain_61 (by decide) (by decide) (fun x18_ e18 t18 => ?_)
        refine r_iadd hC dX10_readRain_62 (fun x19_ e19 => ?_)
        try have t19 : x19_.toInt = x17_.toInt + x18_.toInt := by rw [e19]; exact ti_add (by omega) (by omega)
        refine r_putiN hC 6 (ci := 9) rfl u9_in tyX9_ok nmX9 (by decide) nF_6 rfl rfl rfl dX10_readRain_63 krm rfl rfl (fun I20 eI20 => ?_)
        have hs20 := hs16.put1 eI20 krm rfl (by omega) (by omega) rfl rfl (by decide)
        have hF20 := hF16.put eI20 krm rfl
        have tkp20 := tkp16.put eI20 krm ka0 (by decide)
        have fp20 : I20 a0 12 = I a0 12 := (up2_kk eI20 krm ka0 (by decide)).trans fp16
        have pg20 := pg16.put eI20 krm kns (by decide)
        have om20 := om16.put eI20 krm (by first | exact Or.inr rfl | exact Or.inl (by decide) | exact Or.inl (by omega))
        have ni20 := ni16.put eI20 krm kns knn (by decide) (by decide)
        have rw20 := rw16.putO hcx eI20 krm rfl
        have oc20 := oc16.putO eI20 krm rfl
        have hG0 : I20 rm 0 = G0 := (Eq.trans (up2_at (Or.inr (by decide)) eI20) (Eq.trans (up2_kk eI16 hk13 krm (by decide)) (Eq.trans (hf9.get krm rfl) (Eq.trans (hf6.get krm rfl) (Eq.trans (hf3.get krm rfl) eG0.symm)))))
        have hG0t : (I20 rm 0).toInt = G0.toInt := congrArg Int32.toInt hG0
        have hG1 : I20 rm 1 = G1 := (Eq.trans (up2_at (Or.inr (by decide)) eI20) (Eq.trans (up2_kk eI16 hk13 krm (by decide)) (Eq.trans (hf9.get krm rfl) (Eq.trans (hf6.get krm rfl) (Eq.trans (hf3.get krm rfl) eG1.symm)))))
        have hG1t : (I20 rm 1).toInt = G1.toInt := congrArg Int32.toInt hG1
        have hG2 : I20 rm 2 = G2 := (Eq.trans (up2_at (Or.inr (by decide)) eI20) (Eq.trans (up2_kk eI16 hk13 krm (by decide)) (Eq.trans (hf9.get krm rfl) (Eq.trans (hf6.get krm rfl) (Eq.trans (hf3.get krm rfl) eG2.symm)))))
        have hG2t : (I20 rm 2).toInt = G2.toInt := congrArg Int32.toInt hG2
        have hG3 : I20 rm 3 = G3 := (Eq.trans (up2_at (Or.inr (by decide)) eI20) (Eq.trans (up2_kk eI16 hk13 krm (by decide)) (Eq.trans (hf9.get krm rfl) (Eq.trans (hf6.get krm rfl) (Eq.trans (hf3.get krm rfl) eG3.symm)))))
        have hG3t : (I20 rm 3).toInt = G3.toInt := congrArg Int32.toInt hG3
        have hG4 : I20 rm 4 = G4 := (Eq.trans (up2_at (Or.inr (by decide)) eI20) (Eq.trans (up2_kk eI16 hk13 krm (by decide)) (Eq.trans (hf9.get krm rfl) (Eq.trans (hf6.get krm rfl) (Eq.trans (hf3.get krm rfl) eG4.symm)))))
        have hG4t : (I20 rm 4).toInt = G4.toInt := congrArg Int32.toInt hG4
        have hG5 : I20 rm 5 = G5 := (Eq.trans (up2_at (Or.inr (by decide)) eI20) (Eq.trans (up2_kk eI16 hk13 krm (by decide)) (Eq.trans (hf9.get krm rfl) (Eq.trans (hf6.get krm rfl) (Eq.trans (hf3.get krm rfl) eG5.symm)))))
        have hG5t : (I20 rm 5).toInt = G5.toInt := congrArg Int32.toInt hG5
        have hG6 : I20 rm 6 = x19_ := (by rw [eI20]; exact up2_self _ _ _ _)
        have hG6t : (I20 rm 6).toInt = x19_.toInt := congrArg Int32.toInt hG6
        have hG7 : I20 rm 7 = G7 := (Eq.trans (up2_at (Or.inr (by decide)) eI20) (Eq.trans (up2_kk eI16 hk13 krm (by decide)) (Eq.trans (hf9.get krm rfl) (Eq.trans (hf6.get krm rfl) (Eq.trans (hf3.get krm rfl) eG7.symm)))))
        have hG7t : (I20 rm 7).toInt = G7.toInt := congrArg Int32.toInt hG7
        have hG8 : I20 rm 8 = G8 := (Eq.trans (up2_at (Or.inr (by decide)) eI20) (Eq.trans (up2_kk eI16 hk13 krm (by decide)) (Eq.trans (hf9.get krm rfl) (Eq.trans (hf6.get krm rfl) (Eq.trans (hf3.get krm rfl) eG8.symm)))))
        have hG8t : (I20 rm 8).toInt = G8.toInt := congrArg Int32.toInt hG8
        have hG9 : I20 rm 9 = G9 := (Eq.trans (up2_at (Or.inr (by decide)) eI20) (Eq.trans (up2_kk eI16 hk13 krm (by decide)) (Eq.trans (hf9.get krm rfl) (Eq.trans (hf6.get krm rfl) (Eq.trans (hf3.get krm rfl) eG9.symm)))))
        have hG9t : (I20 rm 9).toInt = G9.toInt := congrArg Int32.toInt hG9
        have hG10 : I20 rm 10 = G10 := (Eq.trans (up2_at (Or.inr (by decide)) eI20) (Eq.trans (up2_kk eI16 hk13 krm (by decide)) (Eq.trans (hf9.get krm rfl) (Eq.trans (hf6.get krm rfl) (Eq.trans (hf3.get krm rfl) eG10.symm)))))
        have hG10t : (I20 rm 10).toInt = G10.toInt := congrArg Int32.toInt hG10
        exact r_vret hC hQ hlk hr (by decide) (by decide) dX10_readRain_66 ⟨_, _, rfl, rfl, ⟨hs20, hF20, hFJ9, (by exact Or.inl ⟨_, _, by unfold sRain; rw [pif_f hbg, hsp6, bnd_ok, hsp9, bnd_ok], hp9, tkp20, ⟨sm.st (by omega) (by omega) (by omega) (by simp [upD, adN, aRain]) (by simp [upD, adN, aRain]) (by simp [upD, adN, aRain]) (by simp [upD, adN, aRain]) (by simp [upD, adN, aRain]; omega) (by simp [upD, adN, aRain]; omega) (by simp [upD, adN, aRain]; omega) (by simp [upD, adN, aRain]; omega) (by simp [upD, adN, aRain]; omega) (by simp [upD, adN, aRain]; omega) (by simp [upD, adN, aRain]; omega) (by simp [upD, adN, aRain]; omega), nm9.cg (by simp [upD, aRain]) (by intro j; simp [upD, aRain]), pg20.cg (by simp [upD, aRain]) (by intro j; simp [upD, aRain]) (by simp [upD, aRain]) (by intro j; simp [upD, aRain])⟩, ni20.cg (by simp [upD, aRain]) (by intro j; simp [upD, aRain]) (by simp [upD, aRain]) (by intro j; simp [upD, aRain]), rw20.rai, fp20⟩), (by exact om20), (by exact oc20)⟩⟩
      · rw [show x7_.toInt = 1 by omega, show x8_.toInt = 99 by omega] at hsp9
        refine r_istore_n hC (lv' := [(2, .int x9_), (1, .int x6_), (0, .ref a0)]) dX10_readRain_30 (by decide) rfl ?_
        refine r_aload_n hC dX10_readRain_31 2 rfl ?_
        refine r_geti hC 9 (ci := 10) rfl u10_in (by decide) mT_5_4 dX10_readRain_32 ka0 rfl rfl (fun x21_ e21 => ?_)
        have f21 : x21_.toInt = (I9 a0 9).toInt := by rw [e21]
        refine r_iconst hC (v := (5)) dX10_readRain_35 (by decide) (by decide) (fun x22_ e22 t22 => ?_)
        refine r_icmp_ne hC (tgt := 40) dX10_readRain_36 (by decide) (fun c23 => ?_) (fun c23 => ?_)
        · exfalso; omega
        have hG0 : I9 rm 0 = G0 := (Eq.trans (hf9.get krm rfl) (Eq.trans (hf6.get krm rfl) (Eq.trans (hf3.get krm rfl) eG0.symm)))
        have hG0t : (I9 rm 0).toInt = G0.toInt := congrArg Int32.toInt hG0
        have hG1 : I9 rm 1 = G1 := (Eq.trans (hf9.get krm rfl) (Eq.trans (hf6.get krm rfl) (Eq.trans (hf3.get krm rfl) eG1.symm)))
        have hG1t : (I9 rm 1).toInt = G1.toInt := congrArg Int32.toInt hG1
        have hG2 : I9 rm 2 = G2 := (Eq.trans (hf9.get krm rfl) (Eq.trans (hf6.get krm rfl) (Eq.trans (hf3.get krm rfl) eG2.symm)))
        have hG2t : (I9 rm 2).toInt = G2.toInt := congrArg Int32.toInt hG2
        have hG3 : I9 rm 3 = G3 := (Eq.trans (hf9.get krm rfl) (Eq.trans (hf6.get krm rfl) (Eq.trans (hf3.get krm rfl) eG3.symm)))
        have hG3t : (I9 rm 3).toInt = G3.toInt := congrArg Int32.toInt hG3
        have hG4 : I9 rm 4 = G4 := (Eq.trans (hf9.get krm rfl) (Eq.trans (hf6.get krm rfl) (Eq.trans (hf3.get krm rfl) eG4.symm)))
        have hG4t : (I9 rm 4).toInt = G4.toInt := congrArg Int32.toInt hG4
        have hG5 : I9 rm 5 = G5 := (Eq.trans (hf9.get krm rfl) (Eq.trans (hf6.get krm rfl) (Eq.trans (hf3.get krm rfl) eG5.symm)))
        have hG5t : (I9 rm 5).toInt = G5.toInt := congrArg Int32.toInt hG5
        have hG6 : I9 rm 6 = x1_ := (Eq.trans (hf9.get krm rfl) (Eq.trans (hf6.get krm rfl) (Eq.trans (hf3.get krm rfl) e1.symm)))
        have hG6t : (I9 rm 6).toInt = x1_.toInt := congrArg Int32.toInt hG6
        have hG7 : I9 rm 7 = G7 := (Eq.trans (hf9.get krm rfl) (Eq.trans (hf6.get krm rfl) (Eq.trans (hf3.get krm rfl) eG7.symm)))
        have hG7t : (I9 rm 7).toInt = G7.toInt := congrArg Int32.toInt hG7
        have hG8 : I9 rm 8 = G8 := (Eq.trans (hf9.get krm rfl) (Eq.trans (hf6.get krm rfl) (Eq.trans (hf3.get krm rfl) eG8.symm)))
        have hG8t : (I9 rm 8).toInt = G8.toInt := congrArg Int32.toInt hG8
        have hG9 : I9 rm 9 = G9 := (Eq.trans (hf9.get krm rfl) (Eq.trans (hf6.get krm rfl) (Eq.trans (hf3.get krm rfl) eG9.symm)))
        have hG9t : (I9 rm 9).toInt = G9.toInt := congrArg Int32.toInt hG9
        have hG10 : I9 rm 10 = G10 := (Eq.trans (hf9.get krm rfl) (Eq.trans (hf6.get krm rfl) (Eq.trans (hf3.get krm rfl) eG10.symm)))
        have hG10t : (I9 rm 10).toInt = G10.toInt := congrArg Int32.toInt hG10
        exact r_vret hC hQ hlk hr (by decide) (by decide) dX10_readRain_39 ⟨_, _, rfl, rfl, ⟨hs9, hF9, hFJ9, (by exact Or.inr ⟨kf9, qf9, by unfold sRain; rw [pif_f hbg, hsp6, bnd_ok, hsp9, bnd_er], by omega, by omega, by omega⟩), (by exact om9), (by exact oc9)⟩⟩
    · rw [show x4_.toInt = 0 by omega, show x5_.toInt = 59 by omega] at hsp6
      refine r_istore_n hC (lv' := [(1, .int x6_), (0, .ref a0)]) dX10_readRain_20 (by decide) rfl ?_
      refine r_aload_n hC dX10_readRain_21 1 rfl ?_
      refine r_ldcS hC (i := 44) (by decide) rfl rfl dX10_readRain_22 ?_
      refine r_iconst hC (v := (1)) dX10_readRain_24 (by decide) (by decide) (fun x24_ e24 t24 => ?_)
      refine r_bipush hC (v := (99)) dX10_readRain_25 (by decide) (by decide) (fun x25_ e25 t25 => ?_)
      refine r_callV hC (As := [.ref (g.2.2.1 44), .int x24_, .int x25_]) (rest := []) (ci := 10) (e_X10_readPart g (xL X) K len I6 J6 R hs6 a0 ka0 44 (by decide) x24_ x25_ (by omega)) mT_6_1 mT_1_10 mT_5_238 mT_6_0 mP_56 okX10_readPart ⟨by decide, by decide⟩ rfl (by show kO (K a0) = _; rw [ka0]; rfl) rfl rfl (Nat.le_of_ble_eq_true rfl) ⟨by decide, by decide⟩ dX10_readRain_27 (aI2 (F := fun st M => P g X 3 30 [(1, .int x6_), (0, .ref a0)] st _ _ M) (M := (K, len, I6, J6, R)) fun x26_ I26 J26 h26 => ?_)
      obtain ⟨hs26, hf26, hfj26, k26_0, k26_1, k26_2⟩ := h26
      show P g X 3 30 [(1, .int x6_), (0, .ref a0)] [.int x26_] _ _ (K, len, I26, J26, R)
      have hF26 : Fr K [(10, 6), (11, 8), (11, 9), (11, 10), (11, 11), (11, 12), (11, 13), (74, 999)] I I26 := hF6.trans hf26 rfl rfl
      have hFJ26 : Fr K [(11, 14)] J J26 := hFJ6.trans hfj26 rfl rfl
      have oc26 := oc6.mv qM_big hf26 rfl
      have om26 := om6.mv hf26 rfl
      refine r_istore_n hC (lv' := [(2, .int x26_), (1, .int x6_), (0, .ref a0)]) dX10_readRain_30 (by decide) rfl ?_
      refine r_aload_n hC dX10_readRain_31 2 rfl ?_
      refine r_geti hC 9 (ci := 10) rfl u10_in (by decide) mT_5_4 dX10_readRain_32 ka0 rfl rfl (fun x27_ e27 => ?_)
      have f27 : x27_.toInt = (I26 a0 9).toInt := by rw [e27]
      refine r_iconst hC (v := (5)) dX10_readRain_35 (by decide) (by decide) (fun x28_ e28 t28 => ?_)
      refine r_icmp_ne hC (tgt := 40) dX10_readRain_36 (by decide) (fun c29 => ?_) (fun c29 => ?_)
      · exfalso; omega
      have hG0 : I26 rm 0 = G0 := (Eq.trans (hf26.get krm rfl) (Eq.trans (hf6.get krm rfl) (Eq.trans (hf3.get krm rfl) eG0.symm)))
      have hG0t : (I26 rm 0).toInt = G0.toInt := congrArg Int32.toInt hG0
      have hG1 : I26 rm 1 = G1 := (Eq.trans (hf26.get krm rfl) (Eq.trans (hf6.get krm rfl) (Eq.trans (hf3.get krm rfl) eG1.symm)))
      have hG1t : (I26 rm 1).toInt = G1.toInt := congrArg Int32.toInt hG1
      have hG2 : I26 rm 2 = G2 := (Eq.trans (hf26.get krm rfl) (Eq.trans (hf6.get krm rfl) (Eq.trans (hf3.get krm rfl) eG2.symm)))
      have hG2t : (I26 rm 2).toInt = G2.toInt := congrArg Int32.toInt hG2
      have hG3 : I26 rm 3 = G3 := (Eq.trans (hf26.get krm rfl) (Eq.trans (hf6.get krm rfl) (Eq.trans (hf3.get krm rfl) eG3.symm)))
      have hG3t : (I26 rm 3).toInt = G3.toInt := congrArg Int32.toInt hG3
      have hG4 : I26 rm 4 = G4 := (Eq.trans (hf26.get krm rfl) (Eq.trans (hf6.get krm rfl) (Eq.trans (hf3.get krm rfl) eG4.symm)))
      have hG4t : (I26 rm 4).toInt = G4.toInt := congrArg Int32.toInt hG4
      have hG5 : I26 rm 5 = G5 := (Eq.trans (hf26.get krm rfl) (Eq.trans (hf6.get krm rfl) (Eq.trans (hf3.get krm rfl) eG5.symm)))
      have hG5t : (I26 rm 5).toInt = G5.toInt := congrArg Int32.toInt hG5
      have hG6 : I26 rm 6 = x1_ := (Eq.trans (hf26.get krm rfl) (Eq.trans (hf6.get krm rfl) (Eq.trans (hf3.get krm rfl) e1.symm)))
      have hG6t : (I26 rm 6).toInt = x1_.toInt := congrArg Int32.toInt hG6
      have hG7 : I26 rm 7 = G7 := (Eq.trans (hf26.get krm rfl) (Eq.trans (hf6.get krm rfl) (Eq.trans (hf3.get krm rfl) eG7.symm)))
      have hG7t : (I26 rm 7).toInt = G7.toInt := congrArg Int32.toInt hG7
      have hG8 : I26 rm 8 = G8 := (Eq.trans (hf26.get krm rfl) (Eq.trans (hf6.get krm rfl) (Eq.trans (hf3.get krm rfl) eG8.symm)))
      have hG8t : (I26 rm 8).toInt = G8.toInt := congrArg Int32.toInt hG8
      have hG9 : I26 rm 9 = G9 := (Eq.trans (hf26.get krm rfl) (Eq.trans (hf6.get krm rfl) (Eq.trans (hf3.get krm rfl) eG9.symm)))
      have hG9t : (I26 rm 9).toInt = G9.toInt := congrArg Int32.toInt hG9
      have hG10 : I26 rm 10 = G10 := (Eq.trans (hf26.get krm rfl) (Eq.trans (hf6.get krm rfl) (Eq.trans (hf3.get krm rfl) eG10.symm)))
      have hG10t : (I26 rm 10).toInt = G10.toInt := congrArg Int32.toInt hG10
      exact r_vret hC hQ hlk hr (by decide) (by decide) dX10_readRain_39 ⟨_, _, rfl, rfl, ⟨hs26, hF26, hFJ26, (by exact Or.inr ⟨kf6, qf6, by unfold sRain; rw [pif_f hbg, hsp6, bnd_er], by omega, by omega, by omega⟩), (by exact om26), (by exact oc26)⟩⟩
  · have hbg : 6 ≤ D 0 6 := by omega
    refine r_aload_n hC dX10_readRain_13 0 rfl ?_
    refine r_iconst hC (v := (0)) dX10_readRain_14 (by decide) (by decide) (fun x30_ e30 t30 => ?_)
    refine r_bipush hC (v := (59)) dX10_readRain_15 (by decide) (by decide) (fun x31_ e31 t31 => ?_)
    refine r_callV hC (As := [.int x30_, .int x31_]) (rest := []) (ci := 10) (e_X10_readWhole g (xL X) K len I3 J3 R hs3 a0 ka0 x30_ x31_ (by omega)) mT_6_5 mT_1_10 mT_6_2 mT_6_4 mP_57 okX10_readWhole ⟨by decide, by decide⟩ rfl (by show kO (K a0) = _; rw [ka0]; rfl) rfl rfl (Nat.le_of_ble_eq_true rfl) ⟨by decide, by decide⟩ dX10_readRain_17 (aI2 (F := fun st M => P g X 3 20 [(0, .ref a0)] st _ _ M) (M := (K, len, I3, J3, R)) fun x32_ I32 J32 h32 => ?_)
    obtain ⟨hs32, hf32, hfj32, k32_0, k32_1, k32_2⟩ := h32
    show P g X 3 20 [(0, .ref a0)] [.int x32_] _ _ (K, len, I32, J32, R)
    have hF32 : Fr K [(10, 6), (11, 8), (11, 9), (11, 10), (11, 11), (11, 12), (11, 13), (74, 999)] I I32 := hF3.trans hf32 rfl rfl
    have hFJ32 : Fr K [(11, 14)] J J32 := hFJ3.trans hfj32 rfl rfl
    have oc32 := oc3.mv qM_big hf32 rfl
    have om32 := om3.mv hf32 rfl
    refine r_istore_n hC (lv' := [(1, .int x32_), (0, .ref a0)]) dX10_readRain_20 (by decide) rfl ?_
    refine r_aload_n hC dX10_readRain_21 1 rfl ?_
    refine r_ldcS hC (i := 44) (by decide) rfl rfl dX10_readRain_22 ?_
    refine r_iconst hC (v := (1)) dX10_readRain_24 (by decide) (by decide) (fun x33_ e33 t33 => ?_)
    refine r_bipush hC (v := (99)) dX10_readRain_25 (by decide) (by decide) (fun x34_ e34 t34 => ?_)
    refine r_callV hC (As := [.ref (g.2.2.1 44), .int x33_, .int x34_]) (rest := []) (ci := 10) (e_X10_readPart g (xL X) K len I32 J32 R hs32 a0 ka0 44 (by decide) x33_ x34_ (by omega)) mT_6_1 mT_1_10 mT_5_238 mT_6_0 mP_56 okX10_readPart ⟨by decide, by decide⟩ rfl (by show kO (K a0) = _; rw [ka0]; rfl) rfl rfl (Nat.le_of_ble_eq_true rfl) ⟨by decide, by decide⟩ dX10_readRain_27 (aI2 (F := fun st M => P g X 3 30 [(1, .int x32_), (0, .ref a0)] st _ _ M) (M := (K, len, I32, J32, R)) fun x35_ I35 J35 h35 => ?_)
    obtain ⟨hs35, hf35, hfj35, k35_0, k35_1, k35_2⟩ := h35
    show P g X 3 30 [(1, .int x32_), (0, .ref a0)] [.int x35_] _ _ (K, len, I35, J35, R)
    have hF35 : Fr K [(10, 6), (11, 8), (11, 9), (11, 10), (11, 11), (11, 12), (11, 13), (74, 999)] I I35 := hF32.trans hf35 rfl rfl
    have hFJ35 : Fr K [(11, 14)] J J35 := hFJ32.trans hfj35 rfl rfl
    have oc35 := oc32.mv qM_big hf35 rfl
    have om35 := om32.mv hf35 rfl
    refine r_istore_n hC (lv' := [(2, .int x35_), (1, .int x32_), (0, .ref a0)]) dX10_readRain_30 (by decide) rfl ?_
    refine r_aload_n hC dX10_readRain_31 2 rfl ?_
    refine r_geti hC 9 (ci := 10) rfl u10_in (by decide) mT_5_4 dX10_readRain_32 ka0 rfl rfl (fun x36_ e36 => ?_)
    have f36 : x36_.toInt = (I35 a0 9).toInt := by rw [e36]
    refine r_iconst hC (v := (5)) dX10_readRain_35 (by decide) (by decide) (fun x37_ e37 t37 => ?_)
    refine r_icmp_ne hC (tgt := 40) dX10_readRain_36 (by decide) (fun c38 => ?_) (fun c38 => ?_)
    · exfalso; omega
    have hG0 : I35 rm 0 = G0 := (Eq.trans (hf35.get krm rfl) (Eq.trans (hf32.get krm rfl) (Eq.trans (hf3.get krm rfl) eG0.symm)))
    have hG0t : (I35 rm 0).toInt = G0.toInt := congrArg Int32.toInt hG0
    have hG1 : I35 rm 1 = G1 := (Eq.trans (hf35.get krm rfl) (Eq.trans (hf32.get krm rfl) (Eq.trans (hf3.get krm rfl) eG1.symm)))
    have hG1t : (I35 rm 1).toInt = G1.toInt := congrArg Int32.toInt hG1
    have hG2 : I35 rm 2 = G2 := (Eq.trans (hf35.get krm rfl) (Eq.trans (hf32.get krm rfl) (Eq.trans (hf3.get krm rfl) eG2.symm)))
    have hG2t : (I35 rm 2).toInt = G2.toInt := congrArg Int32.toInt hG2
    have hG3 : I35 rm 3 = G3 := (Eq.trans (hf35.get krm rfl) (Eq.trans (hf32.get krm rfl) (Eq.trans (hf3.get krm rfl) eG3.symm)))
    have hG3t : (I35 rm 3).toInt = G3.toInt := congrArg Int32.toInt hG3
    have hG4 : I35 rm 4 = G4 := (Eq.trans (hf35.get krm rfl) (Eq.trans (hf32.get krm rfl) (Eq.trans (hf3.get krm rfl) eG4.symm)))
    have hG4t : (I35 rm 4).toInt = G4.toInt := congrArg Int32.toInt hG4
    have hG5 : I35 rm 5 = G5 := (Eq.trans (hf35.get krm rfl) (Eq.trans (hf32.get krm rfl) (Eq.trans (hf3.get krm rfl) eG5.symm)))
    have hG5t : (I35 rm 5).toInt = G5.toInt := congrArg Int32.toInt hG5
    have hG6 : I35 rm 6 = x1_ := (Eq.trans (hf35.get krm rfl) (Eq.trans (hf32.get krm rfl) (Eq.trans (hf3.get krm rfl) e1.symm)))
    have hG6t : (I35 rm 6).toInt = x1_.toInt := congrArg Int32.toInt hG6
    have hG7 : I35 rm 7 = G7 := (Eq.trans (hf35.get krm rfl) (Eq.trans (hf32.get krm rfl) (Eq.trans (hf3.get krm rfl) eG7.symm)))
    have hG7t : (I35 rm 7).toInt = G7.toInt := congrArg Int32.toInt hG7
    have hG8 : I35 rm 8 = G8 := (Eq.trans (hf35.get krm rfl) (Eq.trans (hf32.get krm rfl) (Eq.trans (hf3.get krm rfl) eG8.symm)))
    have hG8t : (I35 rm 8).toInt = G8.toInt := congrArg Int32.toInt hG8
    have hG9 : I35 rm 9 = G9 := (Eq.trans (hf35.get krm rfl) (Eq.trans (hf32.get krm rfl) (Eq.trans (hf3.get krm rfl) eG9.symm)))
    have hG9t : (I35 rm 9).toInt = G9.toInt := congrArg Int32.toInt hG9
    have hG10 : I35 rm 10 = G10 := (Eq.trans (hf35.get krm rfl) (Eq.trans (hf32.get krm rfl) (Eq.trans (hf3.get krm rfl) eG10.symm)))
    have hG10t : (I35 rm 10).toInt = G10.toInt := congrArg Int32.toInt hG10
    exact r_vret hC hQ hlk hr (by decide) (by decide) dX10_readRain_39 ⟨_, _, rfl, rfl, ⟨hs35, hF35, hFJ35, (by exact Or.inr ⟨5, (pl B n p), by unfold sRain; rw [pif_t hbg], by omega, by omega, by omega⟩), (by exact om35), (by exact oc35)⟩⟩

