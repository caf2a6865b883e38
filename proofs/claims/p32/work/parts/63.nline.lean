set_option maxHeartbeats 4000000 in
set_option maxRecDepth 100000 in
theorem f_X10_readPeg (g : GG) (l : Launch) (K len : Nat → Nat) (I : Nat → Nat → Int32) (J : Nat → Nat → Int64) (R : Nat → Nat → Option Nat) (hs : Sf K len I R) (a0 : Nat) (ka0 : K a0 = 11) (rm : Nat) (hbr : R a0 4 = some rm) (krm : K rm = 10) (mt : Nat) (hmt : R a0 5 = some mt) (kmt : K mt = 49) (nmt : len mt = 900) (B : Nat → Int) (n : Nat) (hB : BT B n mt I) (hBr : ∀ j : Nat, j < n → -128 ≤ B j ∧ B j ≤ 127) (hn : n ≤ 900) (p : Nat) (hp : p ≤ n) (tkm : TkM B n a0 p I J) (nr : Nat) (hnr : R rm 25 = some nr) (knr : K nr = 82) (lnr : len nr = 19) (ns : Nat) (hns : R rm 26 = some ns) (kns : K ns = 83) (lns : len ns = 19) (nn : Nat) (hnn : R rm 27 = some nn) (knn : K nn = 84) (lnn : len nn = 19) (D : DD) (hD : DI D) (sm : SM D rm I) (nm : NmM D nr J) (pg : PgI D ns I) (ni : NnI D ns nn I) (rwd : RW (CM rm R) (cntN D) D I) (hJ : DJ D) (p0 : kd B n p = 1) : Ct g l yX10_readPeg cX10_readPeg 3 (Option.none : Option Jvm.ClassFile.FieldType) rmX10_readPeg [.ref a0] (K, len, I, J, R) (pV2 (K, len, I, J, R) (fun I' J' => Sf K len I' R ∧ Fr K [(10, 3), (10, 10), (11, 8), (11, 9), (11, 10), (11, 11), (11, 12), (11, 13), (70, 999), (71, 999), (83, 999), (84, 999)] I I' ∧ Fr K [(11, 14), (82, 999)] J J' ∧ ((∃ (D' : DD) (p' : Nat), sPeg B n p D = .ok (D', p') ∧ p' ≤ n ∧ TkM B n a0 p' I' J' ∧ RpM D' rm nr ns I' J' ∧ NnI D' ns nn I' ∧ RW (CM rm R) (cntN D') D' I' ∧ I' a0 12 = I a0 12) ∨ (∃ (kf : Int) (qf : Nat), sPeg B n p D = .error (kf, qf) ∧ (I' a0 9).toInt = 5 ∧ (I' a0 12).toInt = kf ∧ (I' a0 13).toInt = qf)) ∧ (OM K rm I I') ∧ (OC (CM rm R) qM K I I'))) := by
  refine Ct_intro (by decide +kernel) (Nat.le_of_ble_eq_true rfl) (fun X hC hL hKK hNm hr hlk hQ => ?_)
  subst hL
  have hC : Cx g X cX10_readPeg "HillTapModel" 3 rmX10_readPeg := hC
  show P g X 3 0 [(0, .ref a0)] [] 0 0 (K, len, I, J, R)
  have hF : Fr K [(10, 3), (10, 10), (11, 8), (11, 9), (11, 10), (11, 11), (11, 12), (11, 13), (70, 999), (71, 999), (83, 999), (84, 999)] I I := Fr.refl
  have hFJ : Fr K [(11, 14), (82, 999)] J J := Fr.refl
  have ek1 := tkm.e1
  have ek2 := tkm.e2
  have ek3 := tkm.e3
  have ek4 := tkm.e4
  have ek10 := tkm.2.1
  have ek11 := tkm.2.2.2.2.2
  obtain ⟨hD0, ⟨hD1, hD2⟩, ⟨hD3, hD4⟩, ⟨hD5, hD6⟩, ⟨hD7, hD8⟩, ⟨hD9, hD10⟩, hD11, hD12⟩ := id hD
  obtain ⟨sm0, sm3, sm4, sm5, sm6, sm7, sm8, sm9, sm10⟩ := id sm
  obtain ⟨G0, eG0⟩ : ∃ z : Int32, z = I rm 0 := ⟨_, rfl⟩
  have fG0 : G0.toInt = (I rm 0).toInt := by rw [eG0]
  obtain ⟨G1, eG1⟩ : ∃ z : Int32, z = I rm 1 := ⟨_, rfl⟩
  have fG1 : G1.toInt = (I rm 1).toInt := by rw [eG1]
  obtain ⟨G2, eG2⟩ : ∃ z : Int32, z = I rm 2 := ⟨_, rfl⟩
  have fG2 : G2.toInt = (I rm 2).toInt := by rw [eG2]
  obtain ⟨G3, eG3⟩ : ∃ z : Int32, z = I rm 3 := ⟨_, rfl⟩
  have fG3 : G3.toInt = (I rm 3).toInt := by rw [eG3]
  have rG3 := hs.rng krm rfl eG3
  obtain ⟨G4, eG4⟩ : ∃ z : Int32, z = I rm 4 := ⟨_, rfl⟩
  have fG4 : G4.toInt = (I rm 4).toInt := by rw [eG4]
  have rG4 := hs.rng krm rfl eG4
  obtain ⟨G5, eG5⟩ : ∃ z : Int32, z = I rm 5 := ⟨_, rfl⟩
  have fG5 : G5.toInt = (I rm 5).toInt := by rw [eG5]
  have rG5 := hs.rng krm rfl eG5
  obtain ⟨G6, eG6⟩ : ∃ z : Int32, z = I rm 6 := ⟨_, rfl⟩
  have fG6 : G6.toInt = (I rm 6).toInt := by rw [eG6]
  have rG6 := hs.rng krm rfl eG6
  obtain ⟨G7, eG7⟩ : ∃ z : Int32, z = I rm 7 := ⟨_, rfl⟩
  have fG7 : G7.toInt = (I rm 7).toInt := by rw [eG7]
  have rG7 := hs.rng krm rfl eG7
  obtain ⟨G8, eG8⟩ : ∃ z : Int32, z = I rm 8 := ⟨_, rfl⟩
  have fG8 : G8.toInt = (I rm 8).toInt := by rw [eG8]
  have rG8 := hs.rng krm rfl eG8
  obtain ⟨G9, eG9⟩ : ∃ z : Int32, z = I rm 9 := ⟨_, rfl⟩
  have fG9 : G9.toInt = (I rm 9).toInt := by rw [eG9]
  have rG9 := hs.rng krm rfl eG9
  obtain ⟨G10, eG10⟩ : ∃ z : Int32, z = I rm 10 := ⟨_, rfl⟩
  have fG10 : G10.toInt = (I rm 10).toInt := by rw [eG10]
  have rG10 := hs.rng krm rfl eG10
  have om : OM K rm I I := OM.rf
  have hcx := CM_x hs krm
  have oc : OC (CM rm R) qM K I I := OC.rf
  refine r_aload_n hC dX10_readPeg_0 0 rfl ?_
  refine r_aload_n hC dX10_readPeg_1 0 rfl ?_
  refine r_getr hC 4 (ci := 10) rfl u10_in (by decide) mT_4_239 dX10_readPeg_2 ka0 rfl rfl hbr ?_
  refine r_getiN hC 3 (ci := 9) rfl u9_in (by decide) nF_3 dX10_readPeg_5 krm rfl rfl (fun x1_ e1 => ?_)
  have r1 := hs.rng krm rfl e1
  have f1 : x1_.toInt = (I rm 3).toInt := by rw [e1]
  have w1 : x1_ = G3 := by rw [e1]; exact eG3.symm
  have wt1 : x1_.toInt = G3.toInt := by rw [w1]
  refine r_iconst hC (v := (5)) dX10_readPeg_8 (by decide) (by decide) (fun x2_ e2 t2 => ?_)
  refine r_callV hC (As := [.int x1_, .int x2_]) (rest := []) (ci := 10) (f_X10_begins g (xL X) K len I J R hs a0 ka0 x1_ x2_ mt hmt kmt nmt B n (hB.mv9 hF kmt (fun _ => rfl)) hBr hn p hp tkm (by omega)) mT_6_19 mT_1_10 mT_6_16 mT_6_18 mP_59 okX10_begins ⟨by decide, by decide⟩ rfl (by show kO (K a0) = _; rw [ka0]; rfl) rfl rfl (Nat.le_of_ble_eq_true rfl) ⟨by decide, by decide⟩ dX10_readPeg_9 (aV2 (F := fun st M => P g X 3 12 [(0, .ref a0)] st _ _ M) (M := (K, len, I, J, R)) fun I3 J3 h3 => ?_)
  obtain ⟨hs3, hf3, hfj3, k3_0⟩ := h3
  show P g X 3 12 [(0, .ref a0)] [] _ _ (K, len, I3, J3, R)
  have hF3 : Fr K [(10, 3), (10, 10), (11, 8), (11, 9), (11, 10), (11, 11), (11, 12), (11, 13), (70, 999), (71, 999), (83, 999), (84, 999)] I I3 := hF.trans hf3 rfl rfl
  have hFJ3 : Fr K [(11, 14), (82, 999)] J J3 := hFJ.trans hfj3 rfl rfl
  have pg3 := pg.mv hf3 kns (fun _ => rfl)
  have nm3 := nm.mv hfj3 knr (fun _ => rfl)
  have oc3 := oc.mv qM_big hf3 rfl
  have rw3 := rwd.mv hcx qM_big hf3 rfl
  have om3 := om.mv hf3 rfl
  have ni3 := ni.mv hf3 kns knn (fun _ => rfl) (fun _ => rfl)
  rcases k3_0 with ⟨hr3, tk3, fl3⟩ | ⟨hr3, hf03, hf13, hf23⟩
  · have fq3 : I3 a0 12 = I a0 12 := fl3.trans rfl
    have hbg : ¬ 5 ≤ D 0 5 := by omega
    refine r_aload_n hC dX10_readPeg_12 0 rfl ?_
    refine r_iconst hC (v := (0)) dX10_readPeg_13 (by decide) (by decide) (fun x4_ e4 t4 => ?_)
    refine r_aload_n hC dX10_readPeg_14 0 rfl ?_
    refine r_getr hC 4 (ci := 10) rfl u10_in (by decide) mT_4_239 dX10_readPeg_15 ka0 rfl rfl hbr ?_
    refine r_getiN hC 3 (ci := 9) rfl u9_in (by decide) nF_3 dX10_readPeg_18 krm rfl rfl (fun x5_ e5 => ?_)
    have r5 := hs3.rng krm rfl e5
    have f5 : x5_.toInt = (I3 rm 3).toInt := by rw [e5]
    have w5 : x5_ = x1_ := by rw [e5]; exact (Eq.trans (hf3.get krm rfl) e1.symm)
    have wt5 : x5_.toInt = x1_.toInt := by rw [w5]
    have q10 : I3 rm 10 = G10 := (Eq.trans (hf3.get krm rfl) eG10.symm)
    have q10t : (I3 rm 10).toInt = G10.toInt := congrArg Int32.toInt q10
    refine r_callV hC (As := [.int x4_, .int x5_]) (rest := []) (ci := 10) (f_X10_readFresh g (xL X) K len I3 J3 R hs3 a0 ka0 x4_ x5_ rm hbr krm mt hmt kmt nmt B n (hB.mv9 hF3 kmt (fun _ => rfl)) hBr hn (nx B n p) (nx_le hp).2 tk3 nr hnr knr lnr ns hns kns lns nn hnn knn lnn D hD (by omega) nm3 (by omega)) mT_6_23 mT_1_10 mT_6_20 mT_6_22 mP_60 okX10_readFresh ⟨by decide, by decide⟩ rfl (by show kO (K a0) = _; rw [ka0]; rfl) rfl rfl (Nat.le_of_ble_eq_true rfl) ⟨by decide, by decide⟩ dX10_readPeg_21 (aV2 (F := fun st M => P g X 3 24 [(0, .ref a0)] st _ _ M) (M := (K, len, I3, J3, R)) fun I6 J6 h6 => ?_)
    obtain ⟨hs6, hf6, hfj6, k6_0, k6_1⟩ := h6
    show P g X 3 24 [(0, .ref a0)] [] _ _ (K, len, I6, J6, R)
    have hF6 : Fr K [(10, 3), (10, 10), (11, 8), (11, 9), (11, 10), (11, 11), (11, 12), (11, 13), (70, 999), (71, 999), (83, 999), (84, 999)] I I6 := hF3.trans hf6 rfl rfl
    have hFJ6 : Fr K [(11, 14), (82, 999)] J J6 := hFJ3.trans hfj6 rfl rfl
    have oc6 := oc3.mv qM_big hf6 rfl
    have rw6 := rw3.mv hcx qM_big hf6 rfl
    have om6 := om3.tr k6_1
    rcases k6_0 with ⟨hsp6, tk6, nmF6, hten6, od6, nw6, on6, nv6, fl6⟩ | ⟨kf6, qf6, hsp6, hf06, hf16, hf26⟩
    · have fq6 : I6 a0 12 = I a0 12 := fl6.trans fq3
      have pgs6 := PgI.sm (pg3) od6
      have nis6 := NnI.sm ni3 od6 on6
      have nvA6 : NvA I6 nn (D 0 10).toNat _ := nv6
      have nwA6 : NvA I6 ns (D 0 10).toNat _ := nw6
      clear nv6 nw6
      have rwf6 := rw6.fresh (v := (vl B n (nx B n p)))
      have fz6_5 : (adN D (vl B n (nx B n p))) 0 5 = D 0 5 := adN_n (by decide)
      have G10_6 : (I6 rm 10).toInt = D 0 10 + 1 := hten6
      obtain ⟨N1, eN1⟩ : ∃ z : Int32, z = I6 rm 10 := ⟨_, rfl⟩
      have fN1 : N1.toInt = (I6 rm 10).toInt := by rw [eN1]
      have rN1 := hs6.rng krm rfl eN1
      refine r_aload_n hC dX10_readPeg_24 0 rfl ?_
      refine r_ldcS hC (i := 41) (by decide) rfl rfl dX10_readPeg_25 ?_
      refine r_iconst hC (v := (0)) dX10_readPeg_27 (by decide) (by decide) (fun x7_ e7 t7 => ?_)
      refine r_sipush hC (v := (999)) dX10_readPeg_28 (by decide) (by decide) (fun x8_ e8 t8 => ?_)
      refine r_callV hC (As := [.ref (g.2.2.1 41), .int x7_, .int x8_]) (rest := []) (ci := 10) (f_X10_readPart g (xL X) K len I6 J6 R hs6 a0 ka0 41 (by decide) x7_ x8_ mt hmt kmt nmt B n (hB.mv9 hF6 kmt (fun _ => rfl)) hBr hn (nx B n (nx B n p)) (nx_le (nx_le hp).2).2 tk6 (by first | assumption | decide)) mT_6_1 mT_1_10 mT_5_238 mT_6_0 mP_56 okX10_readPart ⟨by decide, by decide⟩ rfl (by show kO (K a0) = _; rw [ka0]; rfl) rfl rfl (Nat.le_of_ble_eq_true rfl) ⟨by decide, by decide⟩ dX10_readPeg_31 (aI2 (F := fun st M => P g X 3 34 [(0, .ref a0)] st _ _ M) (M := (K, len, I6, J6, R)) fun x9_ I9 J9 h9 => ?_)
      obtain ⟨hs9, hf9, hfj9, k9_0⟩ := h9
      show P g X 3 34 [(0, .ref a0)] [.int x9_] _ _ (K, len, I9, J9, R)
      have hF9 : Fr K [(10, 3), (10, 10), (11, 8), (11, 9), (11, 10), (11, 11), (11, 12), (11, 13), (70, 999), (71, 999), (83, 999), (84, 999)] I I9 := hF6.trans hf9 rfl rfl
      have hFJ9 : Fr K [(11, 14), (82, 999)] J J9 := hFJ6.trans hfj9 rfl rfl
      have pg9 := pgs6.mv hf9 kns (fun _ => rfl)
      have nm9 := nmF6.mv hfj9 knr (fun _ => rfl)
      have oc9 := oc6.mv qM_big hf9 rfl
      have rw9 := rwf6.mv hcx qM_big hf9 rfl
      have om9 := om6.mv hf9 rfl
      have ni9 := nis6.mv hf9 kns knn (fun _ => rfl) (fun _ => rfl)
      have nv9 := nvmv nvA6 hf9 knn (by rfl)
      have nwa9 := nvmv nwA6 hf9 kns (by rfl)
      rcases k9_0 with ⟨v9, p9, hsp9, hp9, tk9, hv9, fl9⟩ | ⟨kf9, qf9, hsp9, hf09, hf19, hf29⟩
      · have fq9 : I9 a0 12 = I a0 12 := fl9.trans fq6
        rw [show x7_.toInt = 0 by omega, show x8_.toInt = 999 by omega] at hsp9
        have rg9 := (sNum_go (nx_le (nx_le hp).2).2 hsp9).2
        refine r_istore_n hC (lv' := [(1, .int x9_), (0, .ref a0)]) dX10_readPeg_34 (by decide) rfl ?_
        refine r_aload_n hC dX10_readPeg_35 1 rfl ?_
        refine r_ldcS hC (i := 42) (by decide) rfl rfl dX10_readPeg_36 ?_
        refine r_iconst hC (v := (0)) dX10_readPeg_38 (by decide) (by decide) (fun x10_ e10 t10 => ?_)
        refine r_sipush hC (v := (999)) dX10_readPeg_39 (by decide) (by decide) (fun x11_ e11 t11 => ?_)
        refine r_callV hC (As := [.ref (g.2.2.1 42), .int x10_, .int x11_]) (rest := []) (ci := 10) (f_X10_readPart g (xL X) K len I9 J9 R hs9 a0 ka0 42 (by decide) x10_ x11_ mt hmt kmt nmt B n (hB.mv9 hF9 kmt (fun _ => rfl)) hBr hn p9 hp9 tk9 (by first | assumption | decide)) mT_6_1 mT_1_10 mT_5_238 mT_6_0 mP_56 okX10_readPart ⟨by decide, by decide⟩ rfl (by show kO (K a0) = _; rw [ka0]; rfl) rfl rfl (Nat.le_of_ble_eq_true rfl) ⟨by decide, by decide⟩ dX10_readPeg_42 (aI2 (F := fun st M => P g X 3 45 [(1, .int x9_), (0, .ref a0)] st _ _ M) (M := (K, len, I9, J9, R)) fun x12_ I12 J12 h12 => ?_)
        obtain ⟨hs12, hf12, hfj12, k12_0⟩ := h12
        show P g X 3 45 [(1, .int x9_), (0, .ref a0)] [.int x12_] _ _ (K, len, I12, J12, R)
        have hF12 : Fr K [(10, 3), (10, 10), (11, 8), (11, 9), (11, 10), (11, 11), (11, 12), (11, 13), (70, 999), (71, 999), (83, 999), (84, 999)] I I12 := hF9.trans hf12 rfl rfl
        have hFJ12 : Fr K [(11, 14), (82, 999)] J J12 := hFJ9.trans hfj12 rfl rfl
        have pg12 := pg9.mv hf12 kns (fun _ => rfl)
        have nm12 := nm9.mv hfj12 knr (fun _ => rfl)
        have oc12 := oc9.mv qM_big hf12 rfl
        have rw12 := rw9.mv hcx qM_big hf12 rfl
        have om12 := om9.mv hf12 rfl
        have ni12 := ni9.mv hf12 kns knn (fun _ => rfl) (fun _ => rfl)
        have nv12 := nvmv nv9 hf12 knn (by rfl)
        have nwa12 := nvmv nwa9 hf12 kns (by rfl)
        rcases k12_0 with ⟨v12, p12, hsp12, hp12, tk12, hv12, fl12⟩ | ⟨kf12, qf12, hsp12, hf012, hf112, hf212⟩
        · have fq12 : I12 a0 12 = I a0 12 := fl12.trans fq9
          rw [show x10_.toInt = 0 by omega, show x11_.toInt = 999 by omega] at hsp12
          have rg12 := (sNum_go hp9 hsp12).2
          refine r_istore_n hC (lv' := [(2, .int x12_), (1, .int x9_), (0, .ref a0)]) dX10_readPeg_45 (by decide) rfl ?_
          refine r_aload_n hC dX10_readPeg_46 2 rfl ?_
          have n5_47 := tk12.e5
          refine r_geti hC 9 (ci := 10) rfl u10_in (by decide) mT_5_4 dX10_readPeg_47 ka0 rfl rfl (fun x13_ e13 => ?_)
          have f13 : x13_.toInt = (I12 a0 9).toInt := by rw [e13]
          refine r_iconst hC (v := (5)) dX10_readPeg_50 (by decide) (by decide) (fun x14_ e14 t14 => ?_)
          refine r_icmp_ne hC (tgt := 55) dX10_readPeg_51 (by decide) (fun c15 => ?_) (fun c15 => ?_)
          rotate_left
          · exfalso; omega
          refine r_aload_n hC dX10_readPeg_55 2 rfl ?_
          refine r_getr hC 4 (ci := 10) rfl u10_in (by decide) mT_4_239 dX10_readPeg_56 ka0 rfl rfl hbr ?_
          obtain ⟨a16_, hb16, hk16, hn16⟩ := hs12.row krm 11 70 5 (by decide) (by decide)
          refine r_getrN hC 11 (ci := 9) rfl u9_in (by decide) nF_11 dX10_readPeg_59 krm rfl rfl hb16 ?_
          refine r_aload_n hC dX10_readPeg_62 2 rfl ?_
          refine r_getr hC 4 (ci := 10) rfl u10_in (by decide) mT_4_239 dX10_readPeg_63 ka0 rfl rfl hbr ?_
          refine r_getiN hC 3 (ci := 9) rfl u9_in (by decide) nF_3 dX10_readPeg_66 krm rfl rfl (fun x17_ e17 => ?_)
          have r17 := hs12.rng krm rfl e17
          have f17 : x17_.toInt = (I12 rm 3).toInt := by rw [e17]
          have w17 : x17_ = x5_ := by rw [e17]; exact (Eq.trans (hf12.get krm rfl) (Eq.trans (hf9.get krm rfl) (Eq.trans (hf6.get krm rfl) e5.symm)))
          have wt17 : x17_.toInt = x5_.toInt := by rw [w17]
          refine r_iload_n hC dX10_readPeg_69 1 rfl ?_
          refine x_iastore hC hk16 hn16 (by decide) rfl rfl dX10_readPeg_70 (by omega) (by omega) (fun I18 eI18 => ?_)
          have hs18 := hs12.put0 eI18 hk16 (rng_arr (by decide) _) rfl (xF_arr (by decide) _) (by decide)
          have hF18 := hF12.put eI18 hk16 (inS_arr rfl _)
          have tkp18 := tk12.put eI18 hk16 ka0 (by decide)
          have fp18 : I18 a0 12 = I a0 12 := (up2_kk eI18 hk16 ka0 (by decide)).trans fq12
          have pg18 := pg12.put eI18 hk16 kns (by decide)
          have om18 := om12.put eI18 hk16 (by first | exact Or.inr rfl | exact Or.inl (by decide) | exact Or.inl (by omega))
          have ni18 := ni12.put eI18 hk16 kns knn (by decide) (by decide)
          have nv18 := nvput nv12 eI18 hk16 knn (by decide)
          have nwa18 := nvput nwa12 eI18 hk16 kns (by decide)
          have nnz : 0 ≤ (adN D (vl B n (nx B n p))) 0 5 := by omega
          have ix18 : x17_.toInt = (adN D (vl B n (nx B n p))) 0 5 := by omega
          have eC18 := eI18
          rw [clx ix18 nnz] at eC18
          have rw18 := rw12.put hcx (r0 := 1) (j0 := ((adN D (vl B n (nx B n p))) 0 5).toNat) (w := v9) (cM (r := 1) (by decide) (by decide) hb16) eC18 hv9 (by rw [cnt_1]; exact Int.toNat_of_nonneg nnz) (fun h9 => absurd h9 (by decide))
          have oc18 := oc12.put (cM (r := 1) (by decide) (by decide) hb16) eC18
          refine r_aload_n hC dX10_readPeg_71 2 rfl ?_
          refine r_getr hC 4 (ci := 10) rfl u10_in (by decide) mT_4_239 dX10_readPeg_72 ka0 rfl rfl hbr ?_
          obtain ⟨a19_, hb19, hk19, hn19⟩ := hs18.row krm 12 71 5 (by decide) (by decide)
          refine r_getrN hC 12 (ci := 9) rfl u9_in (by decide) nF_12 dX10_readPeg_75 krm rfl rfl hb19 ?_
          refine r_aload_n hC dX10_readPeg_78 2 rfl ?_
          refine r_getr hC 4 (ci := 10) rfl u10_in (by decide) mT_4_239 dX10_readPeg_79 ka0 rfl rfl hbr ?_
          refine r_getiN hC 3 (ci := 9) rfl u9_in (by decide) nF_3 dX10_readPeg_82 krm rfl rfl (fun x20_ e20 => ?_)
          have r20 := hs18.rng krm rfl e20
          have f20 : x20_.toInt = (I18 rm 3).toInt := by rw [e20]
          have w20 : x20_ = x17_ := by rw [e20]; exact (Eq.trans (up2_kk eI18 hk16 krm (by decide)) e17.symm)
          have wt20 : x20_.toInt = x17_.toInt := by rw [w20]
          refine r_iload_n hC dX10_readPeg_85 0 rfl ?_
          refine x_iastore hC hk19 hn19 (by decide) rfl rfl dX10_readPeg_86 (by omega) (by omega) (fun I21 eI21 => ?_)
          have hs21 := hs18.put0 eI21 hk19 (rng_arr (by decide) _) rfl (xF_arr (by decide) _) (by decide)
          have hF21 := hF18.put eI21 hk19 (inS_arr rfl _)
          have tkp21 := tkp18.put eI21 hk19 ka0 (by decide)
          have fp21 : I21 a0 12 = I a0 12 := (up2_kk eI21 hk19 ka0 (by decide)).trans fp18
          have pg21 := pg18.put eI21 hk19 kns (by decide)
          have om21 := om18.put eI21 hk19 (by first | exact Or.inr rfl | exact Or.inl (by decide) | exact Or.inl (by omega))
          have ni21 := ni18.put eI21 hk19 kns knn (by decide) (by decide)
          have nv21 := nvput nv18 eI21 hk19 knn (by decide)
          have nwa21 := nvput nwa18 eI21 hk19 kns (by decide)
          have eC21 := eI21
          rw [clx (wt20.trans ix18) nnz] at eC21
          have rw21 := rw18.put hcx (r0 := 2) (j0 := ((adN D (vl B n (nx B n p))) 0 5).toNat) (w := v12) (cM (r := 2) (by decide) (by decide) hb19) eC21 hv12 (by rw [upN_o (by decide), cnt_2]; exact Int.toNat_of_nonneg nnz) (fun h9 => absurd h9 (by decide))
          have oc21 := oc18.put (cM (r := 2) (by decide) (by decide) hb19) eC21
          refine r_aload_n hC dX10_readPeg_87 2 rfl ?_
          refine r_getr hC 4 (ci := 10) rfl u10_in (by decide) mT_4_239 dX10_readPeg_88 ka0 rfl rfl hbr ?_
          refine r_dup hC dX10_readPeg_91 rfl ?_
          refine r_getiN hC 3 (ci := 9) rfl u9_in (by decide) nF_3 dX10_readPeg_92 krm rfl rfl (fun x22_ e22 => ?_)
          have r22 := hs21.rng krm rfl e22
          have f22 : x22_.toInt = (I21 rm 3).toInt := by rw [e22]
          have w22 : x22_ = x20_ := by rw [e22]; exact (Eq.trans (up2_kk eI21 hk19 krm (by decide)) e20.symm)
          have wt22 : x22_.toInt = x20_.toInt := by rw [w22]
          refine r_iconst hC (v := (1)) dX10_readPeg_95 (by decide) (by decide) (fun x23_ e23 t23 => ?_)
          refine r_iadd hC dX10_readPeg_96 (fun x24_ e24 => ?_)
          try have t24 : x24_.toInt = x22_.toInt + x23_.toInt := by rw [e24]; exact ti_add (by omega) (by omega)
          refine r_putiN hC 3 (ci := 9) rfl u9_in tyX9_ok nmX9 (by decide) nF_3 rfl rfl rfl dX10_readPeg_97 krm rfl rfl (fun I25 eI25 => ?_)
          have hs25 := hs21.put1 eI25 krm rfl (by omega) (by omega) rfl rfl (by decide)
          have hF25 := hF21.put eI25 krm rfl
          have tkp25 := tkp21.put eI25 krm ka0 (by decide)
          have fp25 : I25 a0 12 = I a0 12 := (up2_kk eI25 krm ka0 (by decide)).trans fp21
          have pg25 := pg21.put eI25 krm kns (by decide)
          have om25 := om21.put eI25 krm (by first | exact Or.inr rfl | exact Or.inl (by decide) | exact Or.inl (by omega))
          have ni25 := ni21.put eI25 krm kns knn (by decide) (by decide)
          have nv25 := nvput nv21 eI25 krm knn (by decide)
          have nwa25 := nvput nwa21 eI25 krm kns (by decide)
          have rw25 := rw21.putO hcx eI25 krm rfl
          have oc25 := oc21.putO eI25 krm rfl
          have hG0 : I25 rm 0 = G0 := (Eq.trans (up2_at (Or.inr (by decide)) eI25) (Eq.trans (up2_kk eI21 hk19 krm (by decide)) (Eq.trans (up2_kk eI18 hk16 krm (by decide)) (Eq.trans (hf12.get krm rfl) (Eq.trans (hf9.get krm rfl) (Eq.trans (hf6.get krm rfl) (Eq.trans (hf3.get krm rfl) eG0.symm)))))))
          have hG0t : (I25 rm 0).toInt = G0.toInt := congrArg Int32.toInt hG0
          have hG1 : I25 rm 1 = G1 := (Eq.trans (up2_at (Or.inr (by decide)) eI25) (Eq.trans (up2_kk eI21 hk19 krm (by decide)) (Eq.trans (up2_kk eI18 hk16 krm (by decide)) (Eq.trans (hf12.get krm rfl) (Eq.trans (hf9.get krm rfl) (Eq.trans (hf6.get krm rfl) (Eq.trans (hf3.get krm rfl) eG1.symm)))))))
          have hG1t : (I25 rm 1).toInt = G1.toInt := congrArg Int32.toInt hG1
          have hG2 : I25 rm 2 = G2 := (Eq.trans (up2_at (Or.inr (by decide)) eI25) (Eq.trans (up2_kk eI21 hk19 krm (by decide)) (Eq.trans (up2_kk eI18 hk16 krm (by decide)) (Eq.trans (hf12.get krm rfl) (Eq.trans (hf9.get krm rfl) (Eq.trans (hf6.get krm rfl) (Eq.trans (hf3.get krm rfl) eG2.symm)))))))
          have hG2t : (I25 rm 2).toInt = G2.toInt := congrArg Int32.toInt hG2
          have hG3 : I25 rm 3 = x24_ := (by rw [eI25]; exact up2_self _ _ _ _)
          have hG3t : (I25 rm 3).toInt = x24_.toInt := congrArg Int32.toInt hG3
          have hG4 : I25 rm 4 = G4 := (Eq.trans (up2_at (Or.inr (by decide)) eI25) (Eq.trans (up2_kk eI21 hk19 krm (by decide)) (Eq.trans (up2_kk eI18 hk16 krm (by decide)) (Eq.trans (hf12.get krm rfl) (Eq.trans (hf9.get krm rfl) (Eq.trans (hf6.get krm rfl) (Eq.trans (hf3.get krm rfl) eG4.symm)))))))
          have hG4t : (I25 rm 4).toInt = G4.toInt := congrArg Int32.toInt hG4
          have hG5 : I25 rm 5 = G5 := (Eq.trans (up2_at (Or.inr (by decide)) eI25) (Eq.trans (up2_kk eI21 hk19 krm (by decide)) (Eq.trans (up2_kk eI18 hk16 krm (by decide)) (Eq.trans (hf12.get krm rfl) (Eq.trans (hf9.get krm rfl) (Eq.trans (hf6.get krm rfl) (Eq.trans (hf3.get krm rfl) eG5.symm)))))))
          have hG5t : (I25 rm 5).toInt = G5.toInt := congrArg Int32.toInt hG5
          have hG6 : I25 rm 6 = G6 := (Eq.trans (up2_at (Or.inr (by decide)) eI25) (Eq.trans (up2_kk eI21 hk19 krm (by decide)) (Eq.trans (up2_kk eI18 hk16 krm (by decide)) (Eq.trans (hf12.get krm rfl) (Eq.trans (hf9.get krm rfl) (Eq.trans (hf6.get krm rfl) (Eq.trans (hf3.get krm rfl) eG6.symm)))))))
          have hG6t : (I25 rm 6).toInt = G6.toInt := congrArg Int32.toInt hG6
          have hG7 : I25 rm 7 = G7 := (Eq.trans (up2_at (Or.inr (by decide)) eI25) (Eq.trans (up2_kk eI21 hk19 krm (by decide)) (Eq.trans (up2_kk eI18 hk16 krm (by decide)) (Eq.trans (hf12.get krm rfl) (Eq.trans (hf9.get krm rfl) (Eq.trans (hf6.get krm rfl) (Eq.trans (hf3.get krm rfl) eG7.symm)))))))
          have hG7t : (I25 rm 7).toInt = G7.toInt := congrArg Int32.toInt hG7
          have hG8 : I25 rm 8 = G8 := (Eq.trans (up2_at (Or.inr (by decide)) eI25) (Eq.trans (up2_kk eI21 hk19 krm (by decide)) (Eq.trans (up2_kk eI18 hk16 krm (by decide)) (Eq.trans (hf12.get krm rfl) (Eq.trans (hf9.get krm rfl) (Eq.trans (hf6.get krm rfl) (Eq.trans (hf3.get krm rfl) eG8.symm)))))))
          have hG8t : (I25 rm 8).toInt = G8.toInt := congrArg Int32.toInt hG8
          have hG9 : I25 rm 9 = G9 := (Eq.trans (up2_at (Or.inr (by decide)) eI25) (Eq.trans (up2_kk eI21 hk19 krm (by decide)) (Eq.trans (up2_kk eI18 hk16 krm (by decide)) (Eq.trans (hf12.get krm rfl) (Eq.trans (hf9.get krm rfl) (Eq.trans (hf6.get krm rfl) (Eq.trans (hf3.get krm rfl) eG9.symm)))))))
          have hG9t : (I25 rm 9).toInt = G9.toInt := congrArg Int32.toInt hG9
          have hG10 : I25 rm 10 = N1 := (Eq.trans (up2_at (Or.inr (by decide)) eI25) (Eq.trans (up2_kk eI21 hk19 krm (by decide)) (Eq.trans (up2_kk eI18 hk16 krm (by decide)) (Eq.trans (hf12.get krm rfl) (Eq.trans (hf9.get krm rfl) eN1.symm)))))
          have hG10t : (I25 rm 10).toInt = N1.toInt := congrArg Int32.toInt hG10
          exact r_vret hC hQ hlk hr (by decide) (by decide) dX10_readPeg_100 ⟨_, _, rfl, rfl, ⟨hs25, hF25, hFJ12, (by exact Or.inl ⟨_, _, by unfold sPeg; rw [pif_f hbg, hsp6, bnd_ok, hsp9, bnd_ok, hsp12, bnd_ok], hp12, tkp25, ⟨sm.st (by omega) (by omega) (by omega) (by simp [upD, adN, aPeg]) (by simp [upD, adN, aPeg]) (by simp [upD, adN, aPeg]) (by simp [upD, adN, aPeg]) (by simp [upD, adN, aPeg]; omega) (by simp [upD, adN, aPeg]; omega) (by simp [upD, adN, aPeg]; omega) (by simp [upD, adN, aPeg]; omega) (by simp [upD, adN, aPeg]; omega) (by simp [upD, adN, aPeg]; omega) (by simp [upD, adN, aPeg]; omega) (by simp [upD, adN, aPeg]; omega), nm12.cg (by simp [upD, aPeg]) (by intro j; simp [upD, aPeg]), (pg25.peg (by omega) (by omega) (sFresh_new hsp6) (nwa25.tr (by omega))).cg (by simp [upD, aPeg]) (by intro j; simp [upD, aPeg]) (by simp [upD, aPeg]) (by intro j; simp [upD, aPeg])⟩, ni25.peg (by omega) (by omega) (nv25.tr (by omega)), rw25.peg (Int.toNat_of_nonneg nnz), fp25⟩), (by exact om25), (by exact oc25)⟩⟩
        · rw [show x10_.toInt = 0 by omega, show x11_.toInt = 999 by omega] at hsp12
          refine r_istore_n hC (lv' := [(2, .int x12_), (1, .int x9_), (0, .ref a0)]) dX10_readPeg_45 (by decide) rfl ?_
          refine r_aload_n hC dX10_readPeg_46 2 rfl ?_
          refine r_geti hC 9 (ci := 10) rfl u10_in (by decide) mT_5_4 dX10_readPeg_47 ka0 rfl rfl (fun x26_ e26 => ?_)
          have f26 : x26_.toInt = (I12 a0 9).toInt := by rw [e26]
          refine r_iconst hC (v := (5)) dX10_readPeg_50 (by decide) (by decide) (fun x27_ e27 t27 => ?_)
          refine r_icmp_ne hC (tgt := 55) dX10_readPeg_51 (by decide) (fun c28 => ?_) (fun c28 => ?_)
          · exfalso; omega
          have hG0 : I12 rm 0 = G0 := (Eq.trans (hf12.get krm rfl) (Eq.trans (hf9.get krm rfl) (Eq.trans (hf6.get krm rfl) (Eq.trans (hf3.get krm rfl) eG0.symm))))
          have hG0t : (I12 rm 0).toInt = G0.toInt := congrArg Int32.toInt hG0
          have hG1 : I12 rm 1 = G1 := (Eq.trans (hf12.get krm rfl) (Eq.trans (hf9.get krm rfl) (Eq.trans (hf6.get krm rfl) (Eq.trans (hf3.get krm rfl) eG1.symm))))
          have hG1t : (I12 rm 1).toInt = G1.toInt := congrArg Int32.toInt hG1
          have hG2 : I12 rm 2 = G2 := (Eq.trans (hf12.get krm rfl) (Eq.trans (hf9.get krm rfl) (Eq.trans (hf6.get krm rfl) (Eq.trans (hf3.get krm rfl) eG2.symm))))
          have hG2t : (I12 rm 2).toInt = G2.toInt := congrArg Int32.toInt hG2
          have hG3 : I12 rm 3 = x5_ := (Eq.trans (hf12.get krm rfl) (Eq.trans (hf9.get krm rfl) (Eq.trans (hf6.get krm rfl) e5.symm)))
          have hG3t : (I12 rm 3).toInt = x5_.toInt := congrArg Int32.toInt hG3
          have hG4 : I12 rm 4 = G4 := (Eq.trans (hf12.get krm rfl) (Eq.trans (hf9.get krm rfl) (Eq.trans (hf6.get krm rfl) (Eq.trans (hf3.get krm rfl) eG4.symm))))
          have hG4t : (I12 rm 4).toInt = G4.toInt := congrArg Int32.toInt hG4
          have hG5 : I12 rm 5 = G5 := (Eq.trans (hf12.get krm rfl) (Eq.trans (hf9.get krm rfl) (Eq.trans (hf6.get krm rfl) (Eq.trans (hf3.get krm rfl) eG5.symm))))
          have hG5t : (I12 rm 5).toInt = G5.toInt := congrArg Int32.toInt hG5
          have hG6 : I12 rm 6 = G6 := (Eq.trans (hf12.get krm rfl) (Eq.trans (hf9.get krm rfl) (Eq.trans (hf6.get krm rfl) (Eq.trans (hf3.get krm rfl) eG6.symm))))
          have hG6t : (I12 rm 6).toInt = G6.toInt := congrArg Int32.toInt hG6
          have hG7 : I12 rm 7 = G7 := (Eq.trans (hf12.get krm rfl) (Eq.trans (hf9.get krm rfl) (Eq.trans (hf6.get krm rfl) (Eq.trans (hf3.get krm rfl) eG7.symm))))
          have hG7t : (I12 rm 7).toInt = G7.toInt := congrArg Int32.toInt hG7
          have hG8 : I12 rm 8 = G8 := (Eq.trans (hf12.get krm rfl) (Eq.trans (hf9.get krm rfl) (Eq.trans (hf6.get krm rfl) (Eq.trans (hf3.get krm rfl) eG8.symm))))
          have hG8t : (I12 rm 8).toInt = G8.toInt := congrArg Int32.toInt hG8
          have hG9 : I12 rm 9 = G9 := (Eq.trans (hf12.get krm rfl) (Eq.trans (hf9.get krm rfl) (Eq.trans (hf6.get krm rfl) (Eq.trans (hf3.get krm rfl) eG9.symm))))
          have hG9t : (I12 rm 9).toInt = G9.toInt := congrArg Int32.toInt hG9
          have hG10 : I12 rm 10 = N1 := (Eq.trans (hf12.get krm rfl) (Eq.trans (hf9.get krm rfl) eN1.symm))
          have hG10t : (I12 rm 10).toInt = N1.toInt := congrArg Int32.toInt hG10
          exact r_vret hC hQ hlk hr (by decide) (by decide) dX10_readPeg_54 ⟨_, _, rfl, rfl, ⟨hs12, hF12, hFJ12, (by exact Or.inr ⟨kf12, qf12, by unfold sPeg; rw [pif_f hbg, hsp6, bnd_ok, hsp9, bnd_ok, hsp12, bnd_er], by omega, by omega, by omega⟩), (by exact om12), (by exact oc12)⟩⟩
      · rw [show x7_.toInt = 0 by omega, show x8_.toInt = 999 by omega] at hsp9
        refine r_istore_n hC (lv' := [(1, .int x9_), (0, .ref a0)]) dX10_readPeg_34 (by decide) rfl ?_
        refine r_aload_n hC dX10_readPeg_35 1 rfl ?_
        refine r_ldcS hC (i := 42) (by decide) rfl rfl dX10_readPeg_36 ?_
        refine r_iconst hC (v := (0)) dX10_readPeg_38 (by decide) (by decide) (fun x29_ e29 t29 => ?_)
        refine r_sipush hC (v := (999)) dX10_readPeg_39 (by decide) (by decide) (fun x30_ e30 t30 => ?_)
        refine r_callV hC (As := [.ref (g.2.2.1 42), .int x29_, .int x30_]) (rest := []) (ci := 10) (e_X10_readPart g (xL X) K len I9 J9 R hs9 a0 ka0 42 (by decide) x29_ x30_ (by omega)) mT_6_1 mT_1_10 mT_5_238 mT_6_0 mP_56 okX10_readPart ⟨by decide, by decide⟩ rfl (by show kO (K a0) = _; rw [ka0]; rfl) rfl rfl (Nat.le_of_ble_eq_true rfl) ⟨by decide, by decide⟩ dX10_readPeg_42 (aI2 (F := fun st M => P g X 3 45 [(1, .int x9_), (0, .ref a0)] st _ _ M) (M := (K, len, I9, J9, R)) fun x31_ I31 J31 h31 => ?_)
        obtain ⟨hs31, hf31, hfj31, k31_0, k31_1, k31_2⟩ := h31
        show P g X 3 45 [(1, .int x9_), (0, .ref a0)] [.int x31_] _ _ (K, len, I31, J31, R)
        have hF31 : Fr K [(10, 3), (10, 10), (11, 8), (11, 9), (11, 10), (11, 11), (11, 12), (11, 13), (70, 999), (71, 999), (83, 999), (84, 999)] I I31 := hF9.trans hf31 rfl rfl
        have hFJ31 : Fr K [(11, 14), (82, 999)] J J31 := hFJ9.trans hfj31 rfl rfl
        have oc31 := oc9.mv qM_big hf31 rfl
        have om31 := om9.mv hf31 rfl
        refine r_istore_n hC (lv' := [(2, .int x31_), (1, .int x9_), (0, .ref a0)]) dX10_readPeg_45 (by decide) rfl ?_
        refine r_aload_n hC dX10_readPeg_46 2 rfl ?_
        refine r_geti hC 9 (ci := 10) rfl u10_in (by decide) mT_5_4 dX10_readPeg_47 ka0 rfl rfl (fun x32_ e32 => ?_)
        have f32 : x32_.toInt = (I31 a0 9).toInt := by rw [e32]
        refine r_iconst hC (v := (5)) dX10_readPeg_50 (by decide) (by decide) (fun x33_ e33 t33 => ?_)
        refine r_icmp_ne hC (tgt := 55) dX10_readPeg_51 (by decide) (fun c34 => ?_) (fun c34 => ?_)
        · exfalso; omega
        have hG0 : I31 rm 0 = G0 := (Eq.trans (hf31.get krm rfl) (Eq.trans (hf9.get krm rfl) (Eq.trans (hf6.get krm rfl) (Eq.trans (hf3.get krm rfl) eG0.symm))))
        have hG0t : (I31 rm 0).toInt = G0.toInt := congrArg Int32.toInt hG0
        have hG1 : I31 rm 1 = G1 := (Eq.trans (hf31.get krm rfl) (Eq.trans (hf9.get krm rfl) (Eq.trans (hf6.get krm rfl) (Eq.trans (hf3.get krm rfl) eG1.symm))))
        have hG1t : (I31 rm 1).toInt = G1.toInt := congrArg Int32.toInt hG1
        have hG2 : I31 rm 2 = G2 := (Eq.trans (hf31.get krm rfl) (Eq.trans (hf9.get krm rfl) (Eq.trans (hf6.get krm rfl) (Eq.trans (hf3.get krm rfl) eG2.symm))))
        have hG2t : (I31 rm 2).toInt = G2.toInt := congrArg Int32.toInt hG2
        have hG3 : I31 rm 3 = x5_ := (Eq.trans (hf31.get krm rfl) (Eq.trans (hf9.get krm rfl) (Eq.trans (hf6.get krm rfl) e5.symm)))
        have hG3t : (I31 rm 3).toInt = x5_.toInt := congrArg Int32.toInt hG3
        have hG4 : I31 rm 4 = G4 := (Eq.trans (hf31.get krm rfl) (Eq.trans (hf9.get krm rfl) (Eq.trans (hf6.get krm rfl) (Eq.trans (hf3.get krm rfl) eG4.symm))))
        have hG4t : (I31 rm 4).toInt = G4.toInt := congrArg Int32.toInt hG4
        have hG5 : I31 rm 5 = G5 := (Eq.trans (hf31.get krm rfl) (Eq.trans (hf9.get krm rfl) (Eq.trans (hf6.get krm rfl) (Eq.trans (hf3.get krm rfl) eG5.symm))))
        have hG5t : (I31 rm 5).toInt = G5.toInt := congrArg Int32.toInt hG5
        have hG6 : I31 rm 6 = G6 := (Eq.trans (hf31.get krm rfl) (Eq.trans (hf9.get krm rfl) (Eq.trans (hf6.get krm rfl) (Eq.trans (hf3.get krm rfl) eG6.symm))))
        have hG6t : (I31 rm 6).toInt = G6.toInt := congrArg Int32.toInt hG6
        have hG7 : I31 rm 7 = G7 := (Eq.trans (hf31.get krm rfl) (Eq.trans (hf9.get krm rfl) (Eq.trans (hf6.get krm rfl) (Eq.trans (hf3.get krm rfl) eG7.symm))))
        have hG7t : (I31 rm 7).toInt = G7.toInt := congrArg Int32.toInt hG7
        have hG8 : I31 rm 8 = G8 := (Eq.trans (hf31.get krm rfl) (Eq.trans (hf9.get krm rfl) (Eq.trans (hf6.get krm rfl) (Eq.trans (hf3.get krm rfl) eG8.symm))))
        have hG8t : (I31 rm 8).toInt = G8.toInt := congrArg Int32.toInt hG8
        have hG9 : I31 rm 9 = G9 := (Eq.trans (hf31.get krm rfl) (Eq.trans (hf9.get krm rfl) (Eq.trans (hf6.get krm rfl) (Eq.trans (hf3.get krm rfl) eG9.symm))))
        have hG9t : (I31 rm 9).toInt = G9.toInt := congrArg Int32.toInt hG9
        have hG10 : I31 rm 10 = N1 := (Eq.trans (hf31.get krm rfl) (Eq.trans (hf9.get krm rfl) eN1.symm))
        have hG10t : (I31 rm 10).toInt = N1.toInt := congrArg Int32.toInt hG10
        exact r_vret hC hQ hlk hr (by decide) (by decide) dX10_readPeg_54 ⟨_, _, rfl, rfl, ⟨hs31, hF31, hFJ31, (by exact Or.inr ⟨kf9, qf9, by unfold sPeg; rw [pif_f hbg, hsp6, bnd_ok, hsp9, bnd_er], by omega, by omega, by omega⟩), (by exact om31), (by exact oc31)⟩⟩
    · obtain ⟨N1, eN1⟩ : ∃ z : Int32, z = I6 rm 10 := ⟨_, rfl⟩
      have fN1 : N1.toInt = (I6 rm 10).toInt := by rw [eN1]
      have rN1 := hs6.rng krm rfl eN1
      refine r_aload_n hC dX10_readPeg_24 0 rfl ?_
      refine r_ldcS hC (i := 41) (by decide) rfl rfl dX10_readPeg_25 ?_
      refine r_iconst hC (v := (0)) dX10_readPeg_27 (by decide) (by decide) (fun x35_ e35 t35 => ?_)
      refine r_sipush hC (v := (999)) dX10_readPeg_28 (by decide) (by decide) (fun x36_ e36 t36 => ?_)
      refine r_callV hC (As := [.ref (g.2.2.1 41), .int x35_, .int x36_]) (rest := []) (ci := 10) (e_X10_readPart g (xL X) K len I6 J6 R hs6 a0 ka0 41 (by decide) x35_ x36_ (by omega)) mT_6_1 mT_1_10 mT_5_238 mT_6_0 mP_56 okX10_readPart ⟨by decide, by decide⟩ rfl (by show kO (K a0) = _; rw [ka0]; rfl) rfl rfl (Nat.le_of_ble_eq_true rfl) ⟨by decide, by decide⟩ dX10_readPeg_31 (aI2 (F := fun st M => P g X 3 34 [(0, .ref a0)] st _ _ M) (M := (K, len, I6, J6, R)) fun x37_ I37 J37 h37 => ?_)
      obtain ⟨hs37, hf37, hfj37, k37_0, k37_1, k37_2⟩ := h37
      show P g X 3 34 [(0, .ref a0)] [.int x37_] _ _ (K, len, I37, J37, R)
      have hF37 : Fr K [(10, 3), (10, 10), (11, 8), (11, 9), (11, 10), (11, 11), (11, 12), (11, 13), (70, 999), (71, 999), (83, 999), (84, 999)] I I37 := hF6.trans hf37 rfl rfl
      have hFJ37 : Fr K [(11, 14), (82, 999)] J J37 := hFJ6.trans hfj37 rfl rfl
      have oc37 := oc6.mv qM_big hf37 rfl
      have om37 := om6.mv hf37 rfl
      refine r_istore_n hC (lv' := [(1, .int x37_), (0, .ref a0)]) dX10_readPeg_34 (by decide) rfl ?_
      refine r_aload_n hC dX10_readPeg_35 1 rfl ?_
      refine r_ldcS hC (i := 42) (by decide) rfl rfl dX10_readPeg_36 ?_
      refine r_iconst hC (v := (0)) dX10_readPeg_38 (by decide) (by decide) (fun x38_ e38 t38 => ?_)
      refine r_sipush hC (v := (999)) dX10_readPeg_39 (by decide) (by decide) (fun x39_ e39 t39 => ?_)
      refine r_callV hC (As := [.ref (g.2.2.1 42), .int x38_, .int x39_]) (rest := []) (ci := 10) (e_X10_readPart g (xL X) K len I37 J37 R hs37 a0 ka0 42 (by decide) x38_ x39_ (by omega)) mT_6_1 mT_1_10 mT_5_238 mT_6_0 mP_56 okX10_readPart ⟨by decide, by decide⟩ rfl (by show kO (K a0) = _; rw [ka0]; rfl) rfl rfl (Nat.le_of_ble_eq_true rfl) ⟨by decide, by decide⟩ dX10_readPeg_42 (aI2 (F := fun st M => P g X 3 45 [(1, .int x37_), (0, .ref a0)] st _ _ M) (M := (K, len, I37, J37, R)) fun x40_ I40 J40 h40 => ?_)
      obtain ⟨hs40, hf40, hfj40, k40_0, k40_1, k40_2⟩ := h40
      show P g X 3 45 [(1, .int x37_), (0, .ref a0)] [.int x40_] _ _ (K, len, I40, J40, R)
      have hF40 : Fr K [(10, 3), (10, 10), (11, 8), (11, 9), (11, 10), (11, 11), (11, 12), (11, 13), (70, 999), (71, 999), (83, 999), (84, 999)] I I40 := hF37.trans hf40 rfl rfl
      have hFJ40 : Fr K [(11, 14), (82, 999)] J J40 := hFJ37.trans hfj40 rfl rfl
      have oc40 := oc37.mv qM_big hf40 rfl
      have om40 := om37.mv hf40 rfl
      refine r_istore_n hC (lv' := [(2, .int x40_), (1, .int x37_), (0, .ref a0)]) dX10_readPeg_45 (by decide) rfl ?_
      refine r_aload_n hC dX10_readPeg_46 2 rfl ?_
      refine r_geti hC 9 (ci := 10) rfl u10_in (by decide) mT_5_4 dX10_readPeg_47 ka0 rfl rfl (fun x41_ e41 => ?_)
      have f41 : x41_.toInt = (I40 a0 9).toInt := by rw [e41]
      refine r_iconst hC (v := (5)) dX10_readPeg_50 (by decide) (by decide) (fun x42_ e42 t42 => ?_)
      refine r_icmp_ne hC (tgt := 55) dX10_readPeg_51 (by decide) (fun c43 => ?_) (fun c43 => ?_)
      · exfalso; omega
      have hG0 : I40 rm 0 = G0 := (Eq.trans (hf40.get krm rfl) (Eq.trans (hf37.get krm rfl) (Eq.trans (hf6.get krm rfl) (Eq.trans (hf3.get krm rfl) eG0.symm))))
      have hG0t : (I40 rm 0).toInt = G0.toInt := congrArg Int32.toInt hG0
      have hG1 : I40 rm 1 = G1 := (Eq.trans (hf40.get krm rfl) (Eq.trans (hf37.get krm rfl) (Eq.trans (hf6.get krm rfl) (Eq.trans (hf3.get krm rfl) eG1.symm))))
      have hG1t : (I40 rm 1).toInt = G1.toInt := congrArg Int32.toInt hG1
      have hG2 : I40 rm 2 = G2 := (Eq.trans (hf40.get krm rfl) (Eq.trans (hf37.get krm rfl) (Eq.trans (hf6.get krm rfl) (Eq.trans (hf3.get krm rfl) eG2.symm))))
      have hG2t : (I40 rm 2).toInt = G2.toInt := congrArg Int32.toInt hG2
      have hG3 : I40 rm 3 = x5_ := (Eq.trans (hf40.get krm rfl) (Eq.trans (hf37.get krm rfl) (Eq.trans (hf6.get krm rfl) e5.symm)))
      have hG3t : (I40 rm 3).toInt = x5_.toInt := congrArg Int32.toInt hG3
      have hG4 : I40 rm 4 = G4 := (Eq.trans (hf40.get krm rfl) (Eq.trans (hf37.get krm rfl) (Eq.trans (hf6.get krm rfl) (Eq.trans (hf3.get krm rfl) eG4.symm))))
      have hG4t : (I40 rm 4).toInt = G4.toInt := congrArg Int32.toInt hG4
      have hG5 : I40 rm 5 = G5 := (Eq.trans (hf40.get krm rfl) (Eq.trans (hf37.get krm rfl) (Eq.trans (hf6.get krm rfl) (Eq.trans (hf3.get krm rfl) eG5.symm))))
      have hG5t : (I40 rm 5).toInt = G5.toInt := congrArg Int32.toInt hG5
      have hG6 : I40 rm 6 = G6 := (Eq.trans (hf40.get krm rfl) (Eq.trans (hf37.get krm rfl) (Eq.trans (hf6.get krm rfl) (Eq.trans (hf3.get krm rfl) eG6.symm))))
      have hG6t : (I40 rm 6).toInt = G6.toInt := congrArg Int32.toInt hG6
      have hG7 : I40 rm 7 = G7 := (Eq.trans (hf40.get krm rfl) (Eq.trans (hf37.get krm rfl) (Eq.trans (hf6.get krm rfl) (Eq.trans (hf3.get krm rfl) eG7.symm))))
      have hG7t : (I40 rm 7).toInt = G7.toInt := congrArg Int32.toInt hG7
      have hG8 : I40 rm 8 = G8 := (Eq.trans (hf40.get krm rfl) (Eq.trans (hf37.get krm rfl) (Eq.trans (hf6.get krm rfl) (Eq.trans (hf3.get krm rfl) eG8.symm))))
      have hG8t : (I40 rm 8).toInt = G8.toInt := congrArg Int32.toInt hG8
      have hG9 : I40 rm 9 = G9 := (Eq.trans (hf40.get krm rfl) (Eq.trans (hf37.get krm rfl) (Eq.trans (hf6.get krm rfl) (Eq.trans (hf3.get krm rfl) eG9.symm))))
      have hG9t : (I40 rm 9).toInt = G9.toInt := congrArg Int32.toInt hG9
      have hG10 : I40 rm 10 = N1 := (Eq.trans (hf40.get krm rfl) (Eq.trans (hf37.get krm rfl) eN1.symm))
      have hG10t : (I40 rm 10).toInt = N1.toInt := congrArg Int32.toInt hG10
      exact r_vret hC hQ hlk hr (by decide) (by decide) dX10_readPeg_54 ⟨_, _, rfl, rfl, ⟨hs40, hF40, hFJ40, (by exact Or.inr ⟨kf6, qf6, by unfold sPeg; rw [pif_f hbg, hsp6, bnd_er], by omega, by omega, by omega⟩), (by exact om40), (by exact oc40)⟩⟩
  · have hbg : 5 ≤ D 0 5 := by omega
    refine r_aload_n hC dX10_readPeg_12 0 rfl ?_
    refine r_iconst hC (v := (0)) dX10_readPeg_13 (by decide) (by decide) (fun x44_ e44 t44 => ?_)
    refine r_aload_n hC dX10_readPeg_14 0 rfl ?_
    refine r_getr hC 4 (ci := 10) rfl u10_in (by decide) mT_4_239 dX10_readPeg_15 ka0 rfl rfl hbr ?_
    refine r_getiN hC 3 (ci := 9) rfl u9_in (by decide) nF_3 dX10_readPeg_18 krm rfl rfl (fun x45_ e45 => ?_)
    have r45 := hs3.rng krm rfl e45
    have f45 : x45_.toInt = (I3 rm 3).toInt := by rw [e45]
    have w45 : x45_ = x1_ := by rw [e45]; exact (Eq.trans (hf3.get krm rfl) e1.symm)
    have wt45 : x45_.toInt = x1_.toInt := by rw [w45]
    have q10 : I3 rm 10 = G10 := (Eq.trans (hf3.get krm rfl) eG10.symm)
    have q10t : (I3 rm 10).toInt = G10.toInt := congrArg Int32.toInt q10
    refine r_callV hC (As := [.int x44_, .int x45_]) (rest := []) (ci := 10) (e_X10_readFresh g (xL X) K len I3 J3 R hs3 a0 ka0 x44_ x45_ rm hbr krm (by omega)) mT_6_23 mT_1_10 mT_6_20 mT_6_22 mP_60 okX10_readFresh ⟨by decide, by decide⟩ rfl (by show kO (K a0) = _; rw [ka0]; rfl) rfl rfl (Nat.le_of_ble_eq_true rfl) ⟨by decide, by decide⟩ dX10_readPeg_21 (aV2 (F := fun st M => P g X 3 24 [(0, .ref a0)] st _ _ M) (M := (K, len, I3, J3, R)) fun I46 J46 h46 => ?_)
    obtain ⟨hs46, hf46, hfj46, k46_0, k46_1, k46_2, k46_3⟩ := h46
    show P g X 3 24 [(0, .ref a0)] [] _ _ (K, len, I46, J46, R)
    have hF46 : Fr K [(10, 3), (10, 10), (11, 8), (11, 9), (11, 10), (11, 11), (11, 12), (11, 13), (70, 999), (71, 999), (83, 999), (84, 999)] I I46 := hF3.trans hf46 rfl rfl
    have hFJ46 : Fr K [(11, 14), (82, 999)] J J46 := hFJ3.trans hfj46 rfl rfl
    have oc46 := oc3.mv qM_big hf46 rfl
    have om46 := om3.tr k46_3
    obtain ⟨N1, eN1⟩ : ∃ z : Int32, z = I46 rm 10 := ⟨_, rfl⟩
    have fN1 : N1.toInt = (I46 rm 10).toInt := by rw [eN1]
    have rN1 := hs46.rng krm rfl eN1
    refine r_aload_n hC dX10_readPeg_24 0 rfl ?_
    refine r_ldcS hC (i := 41) (by decide) rfl rfl dX10_readPeg_25 ?_
    refine r_iconst hC (v := (0)) dX10_readPeg_27 (by decide) (by decide) (fun x47_ e47 t47 => ?_)
    refine r_sipush hC (v := (999)) dX10_readPeg_28 (by decide) (by decide) (fun x48_ e48 t48 => ?_)
    refine r_callV hC (As := [.ref (g.2.2.1 41), .int x47_, .int x48_]) (rest := []) (ci := 10) (e_X10_readPart g (xL X) K len I46 J46 R hs46 a0 ka0 41 (by decide) x47_ x48_ (by omega)) mT_6_1 mT_1_10 mT_5_238 mT_6_0 mP_56 okX10_readPart ⟨by decide, by decide⟩ rfl (by show kO (K a0) = _; rw [ka0]; rfl) rfl rfl (Nat.le_of_ble_eq_true rfl) ⟨by decide, by decide⟩ dX10_readPeg_31 (aI2 (F := fun st M => P g X 3 34 [(0, .ref a0)] st _ _ M) (M := (K, len, I46, J46, R)) fun x49_ I49 J49 h49 => ?_)
    obtain ⟨hs49, hf49, hfj49, k49_0, k49_1, k49_2⟩ := h49
    show P g X 3 34 [(0, .ref a0)] [.int x49_] _ _ (K, len, I49, J49, R)
    have hF49 : Fr K [(10, 3), (10, 10), (11, 8), (11, 9), (11, 10), (11, 11), (11, 12), (11, 13), (70, 999), (71, 999), (83, 999), (84, 999)] I I49 := hF46.trans hf49 rfl rfl
    have hFJ49 : Fr K [(11, 14), (82, 999)] J J49 := hFJ46.trans hfj49 rfl rfl
    have oc49 := oc46.mv qM_big hf49 rfl
    have om49 := om46.mv hf49 rfl
    refine r_istore_n hC (lv' := [(1, .int x49_), (0, .ref a0)]) dX10_readPeg_34 (by decide) rfl ?_
    refine r_aload_n hC dX10_readPeg_35 1 rfl ?_
    refine r_ldcS hC (i := 42) (by decide) rfl rfl dX10_readPeg_36 ?_
    refine r_iconst hC (v := (0)) dX10_readPeg_38 (by decide) (by decide) (fun x50_ e50 t50 => ?_)
    refine r_sipush hC (v := (999)) dX10_readPeg_39 (by decide) (by decide) (fun x51_ e51 t51 => ?_)
    refine r_callV hC (As := [.ref (g.2.2.1 42), .int x50_, .int x51_]) (rest := []) (ci := 10) (e_X10_readPart g (xL X) K len I49 J49 R hs49 a0 ka0 42 (by decide) x50_ x51_ (by omega)) mT_6_1 mT_1_10 mT_5_238 mT_6_0 mP_56 okX10_readPart ⟨by decide, by decide⟩ rfl (by show kO (K a0) = _; rw [ka0]; rfl) rfl rfl (Nat.le_of_ble_eq_true rfl) ⟨by decide, by decide⟩ dX10_readPeg_42 (aI2 (F := fun st M => P g X 3 45 [(1, .int x49_), (0, .ref a0)] st _ _ M) (M := (K, len, I49, J49, R)) fun x52_ I52 J52 h52 => ?_)
    obtain ⟨hs52, hf52, hfj52, k52_0, k52_1, k52_2⟩ := h52
    show P g X 3 45 [(1, .int x49_), (0, .ref a0)] [.int x52_] _ _ (K, len, I52, J52, R)
    have hF52 : Fr K [(10, 3), (10, 10), (11, 8), (11, 9), (11, 10), (11, 11), (11, 12), (11, 13), (70, 999), (71, 999), (83, 999), (84, 999)] I I52 := hF49.trans hf52 rfl rfl
    have hFJ52 : Fr K [(11, 14), (82, 999)] J J52 := hFJ49.trans hfj52 rfl rfl
    have oc52 := oc49.mv qM_big hf52 rfl
    have om52 := om49.mv hf52 rfl
    refine r_istore_n hC (lv' := [(2, .int x52_), (1, .int x49_), (0, .ref a0)]) dX10_readPeg_45 (by decide) rfl ?_
    refine r_aload_n hC dX10_readPeg_46 2 rfl ?_
    refine r_geti hC 9 (ci := 10) rfl u10_in (by decide) mT_5_4 dX10_readPeg_47 ka0 rfl rfl (fun x53_ e53 => ?_)
    have f53 : x53_.toInt = (I52 a0 9).toInt := by rw [e53]
    refine r_iconst hC (v := (5)) dX10_readPeg_50 (by decide) (by decide) (fun x54_ e54 t54 => ?_)
    refine r_icmp_ne hC (tgt := 55) dX10_readPeg_51 (by decide) (fun c55 => ?_) (fun c55 => ?_)
    · exfalso; omega
    have hG0 : I52 rm 0 = G0 := (Eq.trans (hf52.get krm rfl) (Eq.trans (hf49.get krm rfl) (Eq.trans (hf46.get krm rfl) (Eq.trans (hf3.get krm rfl) eG0.symm))))
    have hG0t : (I52 rm 0).toInt = G0.toInt := congrArg Int32.toInt hG0
    have hG1 : I52 rm 1 = G1 := (Eq.trans (hf52.get krm rfl) (Eq.trans (hf49.get krm rfl) (Eq.trans (hf46.get krm rfl) (Eq.trans (hf3.get krm rfl) eG1.symm))))
    have hG1t : (I52 rm 1).toInt = G1.toInt := congrArg Int32.toInt hG1
    have hG2 : I52 rm 2 = G2 := (Eq.trans (hf52.get krm rfl) (Eq.trans (hf49.get krm rfl) (Eq.trans (hf46.get krm rfl) (Eq.trans (hf3.get krm rfl) eG2.symm))))
    have hG2t : (I52 rm 2).toInt = G2.toInt := congrArg Int32.toInt hG2
    have hG3 : I52 rm 3 = x45_ := (Eq.trans (hf52.get krm rfl) (Eq.trans (hf49.get krm rfl) (Eq.trans (hf46.get krm rfl) e45.symm)))
    have hG3t : (I52 rm 3).toInt = x45_.toInt := congrArg Int32.toInt hG3
    have hG4 : I52 rm 4 = G4 := (Eq.trans (hf52.get krm rfl) (Eq.trans (hf49.get krm rfl) (Eq.trans (hf46.get krm rfl) (Eq.trans (hf3.get krm rfl) eG4.symm))))
    have hG4t : (I52 rm 4).toInt = G4.toInt := congrArg Int32.toInt hG4
    have hG5 : I52 rm 5 = G5 := (Eq.trans (hf52.get krm rfl) (Eq.trans (hf49.get krm rfl) (Eq.trans (hf46.get krm rfl) (Eq.trans (hf3.get krm rfl) eG5.symm))))
    have hG5t : (I52 rm 5).toInt = G5.toInt := congrArg Int32.toInt hG5
    have hG6 : I52 rm 6 = G6 := (Eq.trans (hf52.get krm rfl) (Eq.trans (hf49.get krm rfl) (Eq.trans (hf46.get krm rfl) (Eq.trans (hf3.get krm rfl) eG6.symm))))
    have hG6t : (I52 rm 6).toInt = G6.toInt := congrArg Int32.toInt hG6
    have hG7 : I52 rm 7 = G7 := (Eq.trans (hf52.get krm rfl) (Eq.trans (hf49.get krm rfl) (Eq.trans (hf46.get krm rfl) (Eq.trans (hf3.get krm rfl) eG7.symm))))
    have hG7t : (I52 rm 7).toInt = G7.toInt := congrArg Int32.toInt hG7
    have hG8 : I52 rm 8 = G8 := (Eq.trans (hf52.get krm rfl) (Eq.trans (hf49.get krm rfl) (Eq.trans (hf46.get krm rfl) (Eq.trans (hf3.get krm rfl) eG8.symm))))
    have hG8t : (I52 rm 8).toInt = G8.toInt := congrArg Int32.toInt hG8
    have hG9 : I52 rm 9 = G9 := (Eq.trans (hf52.get krm rfl) (Eq.trans (hf49.get krm rfl) (Eq.trans (hf46.get krm rfl) (Eq.trans (hf3.get krm rfl) eG9.symm))))
    have hG9t : (I52 rm 9).toInt = G9.toInt := congrArg Int32.toInt hG9
    have hG10 : I52 rm 10 = N1 := (Eq.trans (hf52.get krm rfl) (Eq.trans (hf49.get krm rfl) eN1.symm))
    have hG10t : (I52 rm 10).toInt = N1.toInt := congrArg Int32.toInt hG10
    exact r_vret hC hQ hlk hr (by decide) (by decide) dX10_readPeg_54 ⟨_, _, rfl, rfl, ⟨hs52, hF52, hFJ52, (by exact Or.inr ⟨5, (pl B n p), by unfold sPeg; rw [pif_t hbg], by omega, by omega, by omega⟩), (by exact om52), (by exact oc52)⟩⟩
set_option maxHeartbeats 4000000 in
set_option maxRecDepth 100000 in
theorem f_X10_readVillage (g : GG) (l : Launch) (K len : Nat → Nat) (I : Nat → Nat → Int32) (J : Nat → Nat → Int64) (R : Nat → Nat → Option Nat) (hs : Sf K len I R) (a0 : Nat) (ka0 : K a0 = 11) (rm : Nat) (hbr : R a0 4 = some rm) (krm : K rm = 10) (mt : Nat) (hmt : R a0 5 = some mt) (kmt : K mt = 49) (nmt : len mt = 900) (B : Nat → Int) (n : Nat) (hB : BT B n mt I) (hBr : ∀ j : Nat, j < n → -128 ≤ B j ∧ B j ≤ 127) (hn : n ≤ 900) (p : Nat) (hp : p ≤ n) (tkm : TkM B n a0 p I J) (nr : Nat) (hnr : R rm 25 = some nr) (knr : K nr = 82) (lnr : len nr = 19) (ns : Nat) (hns : R rm 26 = some ns) (kns : K ns = 83) (lns : len ns = 19) (nn : Nat) (hnn : R rm 27 = some nn) (knn : K nn = 84) (lnn : len nn = 19) (D : DD) (hD : DI D) (sm : SM D rm I) (nm : NmM D nr J) (pg : PgI D ns I) (ni : NnI D ns nn I) (rwd : RW (CM rm R) (cntN D) D I) (hJ : DJ D) (p0 : kd B n p = 1) : Ct g l yX10_readVillage cX10_readVillage 4 (Option.none : Option Jvm.ClassFile.FieldType) rmX10_readVillage [.ref a0] (K, len, I, J, R) (pV2 (K, len, I, J, R) (fun I' J' => Sf K len I' R ∧ Fr K [(10, 8), (10, 10), (11, 8), (11, 9), (11, 10), (11, 11), (11, 12), (11, 13), (77, 999), (78, 999), (79, 999), (83, 999), (84, 999)] I I' ∧ Fr K [(11, 14), (82, 999)] J J' ∧ ((∃ (D' : DD) (p' : Nat), sVillage B n p D = .ok (D', p') ∧ p' ≤ n ∧ TkM B n a0 p' I' J' ∧ RpM D' rm nr ns I' J' ∧ NnI D' ns nn I' ∧ RW (CM rm R) (cntN D') D' I' ∧ I' a0 12 = I a0 12) ∨ (∃ (kf : Int) (qf : Nat), sVillage B n p D = .error (kf, qf) ∧ (I' a0 9).toInt = 5 ∧ (I' a0 12).toInt = kf ∧ (I' a0 13).toInt = qf)) ∧ (OM K rm I I') ∧ (OC (CM rm R) qM K I I'))) := by
  refine Ct_intro (by decide +kernel) (Nat.le_of_ble_eq_true rfl) (fun X hC hL hKK hNm hr hlk hQ => ?_)
  subst hL
  have hC : Cx g X cX10_readVillage "HillTapModel" 4 rmX10_readVillage := hC
  show P g X 4 0 [(0, .ref a0)] [] 0 0 (K, len, I, J, R)
  have hF : Fr K [(10, 8), (10, 10), (11, 8), (11, 9), (11, 10), (11, 11), (11, 12), (11, 13), (77, 999), (78, 999), (79, 999), (83, 999), (84, 999)] I I := Fr.refl
  have hFJ : Fr K [(11, 14), (82, 999)] J J := Fr.refl
  have ek1 := tkm.e1
  have ek2 := tkm.e2
  have ek3 := tkm.e3
  have ek4 := tkm.e4
  have ek10 := tkm.2.1
  have ek11 := tkm.2.2.2.2.2
  obtain ⟨hD0, ⟨hD1, hD2⟩, ⟨hD3, hD4⟩, ⟨hD5, hD6⟩, ⟨hD7, hD8⟩, ⟨hD9, hD10⟩, hD11, hD12⟩ := id hD
  obtain ⟨sm0, sm3, sm4, sm5, sm6, sm7, sm8, sm9, sm10⟩ := id sm
  obtain ⟨G0, eG0⟩ : ∃ z : Int32, z = I rm 0 := ⟨_, rfl⟩
  have fG0 : G0.toInt = (I rm 0).toInt := by rw [eG0]
  obtain ⟨G1, eG1⟩ : ∃ z : Int32, z = I rm 1 := ⟨_, rfl⟩
  have fG1 : G1.toInt = (I rm 1).toInt := by rw [eG1]
  obtain ⟨G2, eG2⟩ : ∃ z : Int32, z = I rm 2 := ⟨_, rfl⟩
  have fG2 : G2.toInt = (I rm 2).toInt := by rw [eG2]
  obtain ⟨G3, eG3⟩ : ∃ z : Int32, z = I rm 3 := ⟨_, rfl⟩
  have fG3 : G3.toInt = (I rm 3).toInt := by rw [eG3]
  have rG3 := hs.rng krm rfl eG3
  obtain ⟨G4, eG4⟩ : ∃ z : Int32, z = I rm 4 := ⟨_, rfl⟩
  have fG4 : G4.toInt = (I rm 4).toInt := by rw [eG4]
  have rG4 := hs.rng krm rfl eG4
  obtain ⟨G5, eG5⟩ : ∃ z : Int32, z = I rm 5 := ⟨_, rfl⟩
  have fG5 : G5.toInt = (I rm 5).toInt := by rw [eG5]
  have rG5 := hs.rng krm rfl eG5
  obtain ⟨G6, eG6⟩ : ∃ z : Int32, z = I rm 6 := ⟨_, rfl⟩
  have fG6 : G6.toInt = (I rm 6).toInt := by rw [eG6]
  have rG6 := hs.rng krm rfl eG6
  obtain ⟨G7, eG7⟩ : ∃ z : Int32, z = I rm 7 := ⟨_, rfl⟩
  have fG7 : G7.toInt = (I rm 7).toInt := by rw [eG7]
  have rG7 := hs.rng krm rfl eG7
  obtain ⟨G8, eG8⟩ : ∃ z : Int32, z = I rm 8 := ⟨_, rfl⟩
  have fG8 : G8.toInt = (I rm 8).toInt := by rw [eG8]
  have rG8 := hs.rng krm rfl eG8
  obtain ⟨G9, eG9⟩ : ∃ z : Int32, z = I rm 9 := ⟨_, rfl⟩
  have fG9 : G9.toInt = (I rm 9).toInt := by rw [eG9]
  have rG9 := hs.rng krm rfl eG9
  obtain ⟨G10, eG10⟩ : ∃ z : Int32, z = I rm 10 := ⟨_, rfl⟩
  have fG10 : G10.toInt = (I rm 10).toInt := by rw [eG10]
  have rG10 := hs.rng krm rfl eG10
  have om : OM K rm I I := OM.rf
  have hcx := CM_x hs krm
  have oc : OC (CM rm R) qM K I I := OC.rf
  refine r_aload_n hC dX10_readVillage_0 0 rfl ?_
  refine r_aload_n hC dX10_readVillage_1 0 rfl ?_
  refine r_getr hC 4 (ci := 10) rfl u10_in (by decide) mT_4_239 dX10_readVillage_2 ka0 rfl rfl hbr ?_
  refine r_getiN hC 8 (ci := 9) rfl u9_in (by decide) nF_8 dX10_readVillage_5 krm rfl rfl (fun x1_ e1 => ?_)
  have r1 := hs.rng krm rfl e1
  have f1 : x1_.toInt = (I rm 8).toInt := by rw [e1]
  have w1 : x1_ = G8 := by rw [e1]; exact eG8.symm
  have wt1 : x1_.toInt = G8.toInt := by rw [w1]
  refine r_iconst hC (v := (4)) dX10_readVillage_8 (by decide) (by decide) (fun x2_ e2 t2 => ?_)
  refine r_callV hC (As := [.int x1_, .int x2_]) (rest := []) (ci := 10) (f_X10_begins g (xL X) K len I J R hs a0 ka0 x1_ x2_ mt hmt kmt nmt B n (hB.mv9 hF kmt (fun _ => rfl)) hBr hn p hp tkm (by omega)) mT_6_19 mT_1_10 mT_6_16 mT_6_18 mP_59 okX10_begins ⟨by decide, by decide⟩ rfl (by show kO (K a0) = _; rw [ka0]; rfl) rfl rfl (Nat.le_of_ble_eq_true rfl) ⟨by decide, by decide⟩ dX10_readVillage_9 (aV2 (F := fun st M => P g X 4 12 [(0, .ref a0)] st _ _ M) (M := (K, len, I, J, R)) fun I3 J3 h3 => ?_)
  obtain ⟨hs3, hf3, hfj3, k3_0⟩ := h3
  show P g X 4 12 [(0, .ref a0)] [] _ _ (K, len, I3, J3, R)
  have hF3 : Fr K [(10, 8), (10, 10), (11, 8), (11, 9), (11, 10), (11, 11), (11, 12), (11, 13), (77, 999), (78, 999), (79, 999), (83, 999), (84, 999)] I I3 := hF.trans hf3 rfl rfl
  have hFJ3 : Fr K [(11, 14), (82, 999)] J J3 := hFJ.trans hfj3 rfl rfl
  have pg3 := pg.mv hf3 kns (fun _ => rfl)
  have nm3 := nm.mv hfj3 knr (fun _ => rfl)
  have oc3 := oc.mv qM_big hf3 rfl
  have rw3 := rwd.mv hcx qM_big hf3 rfl
  have om3 := om.mv hf3 rfl
  have ni3 := ni.mv hf3 kns knn (fun _ => rfl) (fun _ => rfl)
  rcases k3_0 with ⟨hr3, tk3, fl3⟩ | ⟨hr3, hf03, hf13, hf23⟩
  · have fq3 : I3 a0 12 = I a0 12 := fl3.trans rfl
    have hbg : ¬ 4 ≤ D 0 8 := by omega
    refine r_aload_n hC dX10_readVillage_12 0 rfl ?_
    refine r_iconst hC (v := (1)) dX10_readVillage_13 (by decide) (by decide) (fun x4_ e4 t4 => ?_)
    refine r_aload_n hC dX10_readVillage_14 0 rfl ?_
    refine r_getr hC 4 (ci := 10) rfl u10_in (by decide) mT_4_239 dX10_readVillage_15 ka0 rfl rfl hbr ?_
    refine r_getiN hC 8 (ci := 9) rfl u9_in (by decide) nF_8 dX10_readVillage_18 krm rfl rfl (fun x5_ e5 => ?_)
    have r5 := hs3.rng krm rfl e5
    have f5 : x5_.toInt = (I3 rm 8).toInt := by rw [e5]
    have w5 : x5_ = x1_ := by rw [e5]; exact (Eq.trans (hf3.get krm rfl) e1.symm)
    have wt5 : x5_.toInt = x1_.toInt := by rw [w5]
    have q10 : I3 rm 10 = G10 := (Eq.trans (hf3.get krm rfl) eG10.symm)
    have q10t : (I3 rm 10).toInt = G10.toInt := congrArg Int32.toInt q10
    refine r_callV hC (As := [.int x4_, .int x5_]) (rest := []) (ci := 10) (f_X10_readFresh g (xL X) K len I3 J3 R hs3 a0 ka0 x4_ x5_ rm hbr krm mt hmt kmt nmt B n (hB.mv9 hF3 kmt (fun _ => rfl)) hBr hn (nx B n p) (nx_le hp).2 tk3 nr hnr knr lnr ns hns kns lns nn hnn knn lnn D hD (by omega) nm3 (by omega)) mT_6_23 mT_1_10 mT_6_20 mT_6_22 mP_60 okX10_readFresh ⟨by decide, by decide⟩ rfl (by show kO (K a0) = _; rw [ka0]; rfl) rfl rfl (Nat.le_of_ble_eq_true rfl) ⟨by decide, by decide⟩ dX10_readVillage_21 (aV2 (F := fun st M => P g X 4 24 [(0, .ref a0)] st _ _ M) (M := (K, len, I3, J3, R)) fun I6 J6 h6 => ?_)
    obtain ⟨hs6, hf6, hfj6, k6_0, k6_1⟩ := h6
    show P g X 4 24 [(0, .ref a0)] [] _ _ (K, len, I6, J6, R)
    have hF6 : Fr K [(10, 8), (10, 10), (11, 8), (11, 9), (11, 10), (11, 11), (11, 12), (11, 13), (77, 999), (78, 999), (79, 999), (83, 999), (84, 999)] I I6 := hF3.trans hf6 rfl rfl
    have hFJ6 : Fr K [(11, 14), (82, 999)] J J6 := hFJ3.trans hfj6 rfl rfl
    have oc6 := oc3.mv qM_big hf6 rfl
    have rw6 := rw3.mv hcx qM_big hf6 rfl
    have om6 := om3.tr k6_1
    rcases k6_0 with ⟨hsp6, tk6, nmF6, hten6, od6, nw6, on6, nv6, fl6⟩ | ⟨kf6, qf6, hsp6, hf06, hf16, hf26⟩
    · have fq6 : I6 a0 12 = I a0 12 := fl6.trans fq3
      have pgs6 := PgI.sm (pg3) od6
      have pgf6 := PgI.other (v := (vl B n (nx B n p))) pgs6 (by omega) (sFresh_new hsp6) nw6 (by omega)
      have nis6 := NnI.sm ni3 od6 on6
      have nif6 := NnI.other (v := (vl B n (nx B n p))) nis6 nw6 (by omega)
      clear nw6 nv6
      have rwf6 := rw6.fresh (v := (vl B n (nx B n p)))
      have fz6_8 : (adN D (vl B n (nx B n p))) 0 8 = D 0 8 := adN_n (by decide)
      have G10_6 : (I6 rm 10).toInt = D 0 10 + 1 := hten6
      obtain ⟨N1, eN1⟩ : ∃ z : Int32, z = I6 rm 10 := ⟨_, rfl⟩
      have fN1 : N1.toInt = (I6 rm 10).toInt := by rw [eN1]
      have rN1 := hs6.rng krm rfl eN1
      refine r_aload_n hC dX10_readVillage_24 0 rfl ?_
      refine r_ldcwS hC (i := 55) (by decide) rfl rfl dX10_readVillage_25 ?_
      refine r_iconst hC (v := (0)) dX10_readVillage_28 (by decide) (by decide) (fun x7_ e7 t7 => ?_)
      refine r_sipush hC (v := (999)) dX10_readVillage_29 (by decide) (by decide) (fun x8_ e8 t8 => ?_)
      refine r_callV hC (As := [.ref (g.2.2.1 55), .int x7_, .int x8_]) (rest := []) (ci := 10) (f_X10_readPart g (xL X) K len I6 J6 R hs6 a0 ka0 55 (by decide) x7_ x8_ mt hmt kmt nmt B n (hB.mv9 hF6 kmt (fun _ => rfl)) hBr hn (nx B n (nx B n p)) (nx_le (nx_le hp).2).2 tk6 (by first | assumption | decide)) mT_6_1 mT_1_10 mT_5_238 mT_6_0 mP_56 okX10_readPart ⟨by decide, by decide⟩ rfl (by show kO (K a0) = _; rw [ka0]; rfl) rfl rfl (Nat.le_of_ble_eq_true rfl) ⟨by decide, by decide⟩ dX10_readVillage_32 (aI2 (F := fun st M => P g X 4 35 [(0, .ref a0)] st _ _ M) (M := (K, len, I6, J6, R)) fun x9_ I9 J9 h9 => ?_)
      obtain ⟨hs9, hf9, hfj9, k9_0⟩ := h9
      show P g X 4 35 [(0, .ref a0)] [.int x9_] _ _ (K, len, I9, J9, R)
      have hF9 : Fr K [(10, 8), (10, 10), (11, 8), (11, 9), (11, 10), (11, 11), (11, 12), (11, 13), (77, 999), (78, 999), (79, 999), (83, 999), (84, 999)] I I9 := hF6.trans hf9 rfl rfl
      have hFJ9 : Fr K [(11, 14), (82, 999)] J J9 := hFJ6.trans hfj9 rfl rfl
      have pg9 := pgf6.mv hf9 kns (fun _ => rfl)
      have nm9 := nmF6.mv hfj9 knr (fun _ => rfl)
      have oc9 := oc6.mv qM_big hf9 rfl
      have rw9 := rwf6.mv hcx qM_big hf9 rfl
      have om9 := om6.mv hf9 rfl
      have ni9 := nif6.mv hf9 kns knn (fun _ => rfl) (fun _ => rfl)
      rcases k9_0 with ⟨v9, p9, hsp9, hp9, tk9, hv9, fl9⟩ | ⟨kf9, qf9, hsp9, hf09, hf19, hf29⟩
      · have fq9 : I9 a0 12 = I a0 12 := fl9.trans fq6
        rw [show x7_.toInt = 0 by omega, show x8_.toInt = 999 by omega] at hsp9
        have rg9 := (sNum_go (nx_le (nx_le hp).2).2 hsp9).2
        refine r_istore_n hC (lv' := [(1, .int x9_), (0, .ref a0)]) dX10_readVillage_35 (by decide) rfl ?_
        refine r_aload_n hC dX10_readVillage_36 1 rfl ?_
        refine r_ldcwS hC (i := 56) (by decide) rfl rfl dX10_readVillage_37 ?_
        refine r_iconst hC (v := (1)) dX10_readVillage_40 (by decide) (by decide) (fun x10_ e10 t10 => ?_)
        refine r_sipush hC (v := (999)) dX10_readVillage_41 (by decide) (by decide) (fun x11_ e11 t11 => ?_)
        refine r_callV hC (As := [.ref (g.2.2.1 56), .int x10_, .int x11_]) (rest := []) (ci := 10) (f_X10_readPart g (xL X) K len I9 J9 R hs9 a0 ka0 56 (by decide) x10_ x11_ mt hmt kmt nmt B n (hB.mv9 hF9 kmt (fun _ => rfl)) hBr hn p9 hp9 tk9 (by first | assumption | decide)) mT_6_1 mT_1_10 mT_5_238 mT_6_0 mP_56 okX10_readPart ⟨by decide, by decide⟩ rfl (by show kO (K a0) = _; rw [ka0]; rfl) rfl rfl (Nat.le_of_ble_eq_true rfl) ⟨by decide, by decide⟩ dX10_readVillage_44 (aI2 (F := fun st M => P g X 4 47 [(1, .int x9_), (0, .ref a0)] st _ _ M) (M := (K, len, I9, J9, R)) fun x12_ I12 J12 h12 => ?_)
        obtain ⟨hs12, hf12, hfj12, k12_0⟩ := h12
        show P g X 4 47 [(1, .int x9_), (0, .ref a0)] [.int x12_] _ _ (K, len, I12, J12, R)
        have hF12 : Fr K [(10, 8), (10, 10), (11, 8), (11, 9), (11, 10), (11, 11), (11, 12), (11, 13), (77, 999), (78, 999), (79, 999), (83, 999), (84, 999)] I I12 := hF9.trans hf12 rfl rfl
        have hFJ12 : Fr K [(11, 14), (82, 999)] J J12 := hFJ9.trans hfj12 rfl rfl
        have pg12 := pg9.mv hf12 kns (fun _ => rfl)
        have nm12 := nm9.mv hfj12 knr (fun _ => rfl)
        have oc12 := oc9.mv qM_big hf12 rfl
        have rw12 := rw9.mv hcx qM_big hf12 rfl
        have om12 := om9.mv hf12 rfl
        have ni12 := ni9.mv hf12 kns knn (fun _ => rfl) (fun _ => rfl)
        rcases k12_0 with ⟨v12, p12, hsp12, hp12, tk12, hv12, fl12⟩ | ⟨kf12, qf12, hsp12, hf012, hf112, hf212⟩
        · have fq12 : I12 a0 12 = I a0 12 := fl12.trans fq9
          rw [show x10_.toInt = 1 by omega, show x11_.toInt = 999 by omega] at hsp12
          have rg12 := (sNum_go hp9 hsp12).2
          refine r_istore_n hC (lv' := [(2, .int x12_), (1, .int x9_), (0, .ref a0)]) dX10_readVillage_47 (by decide) rfl ?_
          refine r_aload_n hC dX10_readVillage_48 2 rfl ?_
          refine r_ldcwS hC (i := 57) (by decide) rfl rfl dX10_readVillage_49 ?_
          refine r_iconst hC (v := (0)) dX10_readVillage_52 (by decide) (by decide) (fun x13_ e13 t13 => ?_)
          refine r_bipush hC (v := (30)) dX10_readVillage_53 (by decide) (by decide) (fun x14_ e14 t14 => ?_)
          refine r_callV hC (As := [.ref (g.2.2.1 57), .int x13_, .int x14_]) (rest := []) (ci := 10) (f_X10_readPart g (xL X) K len I12 J12 R hs12 a0 ka0 57 (by decide) x13_ x14_ mt hmt kmt nmt B n (hB.mv9 hF12 kmt (fun _ => rfl)) hBr hn p12 hp12 tk12 (by first | assumption | decide)) mT_6_1 mT_1_10 mT_5_238 mT_6_0 mP_56 okX10_readPart ⟨by decide, by decide⟩ rfl (by show kO (K a0) = _; rw [ka0]; rfl) rfl rfl (Nat.le_of_ble_eq_true rfl) ⟨by decide, by decide⟩ dX10_readVillage_55 (aI2 (F := fun st M => P g X 4 58 [(2, .int x12_), (1, .int x9_), (0, .ref a0)] st _ _ M) (M := (K, len, I12, J12, R)) fun x15_ I15 J15 h15 => ?_)
          obtain ⟨hs15, hf15, hfj15, k15_0⟩ := h15
          show P g X 4 58 [(2, .int x12_), (1, .int x9_), (0, .ref a0)] [.int x15_] _ _ (K, len, I15, J15, R)
          have hF15 : Fr K [(10, 8), (10, 10), (11, 8), (11, 9), (11, 10), (11, 11), (11, 12), (11, 13), (77, 999), (78, 999), (79, 999), (83, 999), (84, 999)] I I15 := hF12.trans hf15 rfl rfl
          have hFJ15 : Fr K [(11, 14), (82, 999)] J J15 := hFJ12.trans hfj15 rfl rfl
          have pg15 := pg12.mv hf15 kns (fun _ => rfl)
          have nm15 := nm12.mv hfj15 knr (fun _ => rfl)
          have oc15 := oc12.mv qM_big hf15 rfl
          have rw15 := rw12.mv hcx qM_big hf15 rfl
          have om15 := om12.mv hf15 rfl
          have ni15 := ni12.mv hf15 kns knn (fun _ => rfl) (fun _ => rfl)
          rcases k15_0 with ⟨v15, p15, hsp15, hp15, tk15, hv15, fl15⟩ | ⟨kf15, qf15, hsp15, hf015, hf115, hf215⟩
          · have fq15 : I15 a0 12 = I a0 12 := fl15.trans fq12
            rw [show x13_.toInt = 0 by omega, show x14_.toInt = 30 by omega] at hsp15
            have rg15 := (sNum_go hp12 hsp15).2
            refine r_istore_n hC (lv' := [(3, .int x15_), (2, .int x12_), (1, .int x9_), (0, .ref a0)]) dX10_readVillage_58 (by decide) rfl ?_
            refine r_aload_n hC dX10_readVillage_59 3 rfl ?_
            have n5_60 := tk15.e5
            refine r_geti hC 9 (ci := 10) rfl u10_in (by decide) mT_5_4 dX10_readVillage_60 ka0 rfl rfl (fun x16_ e16 => ?_)
            have f16 : x16_.toInt = (I15 a0 9).toInt := by rw [e16]
            refine r_iconst hC (v := (5)) dX10_readVillage_63 (by decide) (by decide) (fun x17_ e17 t17 => ?_)
            refine r_icmp_ne hC (tgt := 68) dX10_readVillage_64 (by decide) (fun c18 => ?_) (fun c18 => ?_)
            rotate_left
            · exfalso; omega
            refine r_aload_n hC dX10_readVillage_68 3 rfl ?_
            refine r_getr hC 4 (ci := 10) rfl u10_in (by decide) mT_4_239 dX10_readVillage_69 ka0 rfl rfl hbr ?_
            obtain ⟨a19_, hb19, hk19, hn19⟩ := hs15.row krm 20 77 4 (by decide) (by decide)
            refine r_getrN hC 20 (ci := 9) rfl u9_in (by decide) nF_20 dX10_readVillage_72 krm rfl rfl hb19 ?_
            refine r_aload_n hC dX10_readVillage_75 3 rfl ?_
            refine r_getr hC 4 (ci := 10) rfl u10_in (by decide) mT_4_239 dX10_readVillage_76 ka0 rfl rfl hbr ?_
            refine r_getiN hC 8 (ci := 9) rfl u9_in (by decide) nF_8 dX10_readVillage_79 krm rfl rfl (fun x20_ e20 => ?_)
            have r20 := hs15.rng krm rfl e20
            have f20 : x20_.toInt = (I15 rm 8).toInt := by rw [e20]
            have w20 : x20_ = x5_ := by rw [e20]; exact (Eq.trans (hf15.get krm rfl) (Eq.trans (hf12.get krm rfl) (Eq.trans (hf9.get krm rfl) (Eq.trans (hf6.get krm rfl) e5.symm))))
            have wt20 : x20_.toInt = x5_.toInt := by rw [w20]
            refine r_iload_n hC dX10_readVillage_82 2 rfl ?_
            refine x_iastore hC hk19 hn19 (by decide) rfl rfl dX10_readVillage_83 (by omega) (by omega) (fun I21 eI21 => ?_)
            have hs21 := hs15.put0 eI21 hk19 (rng_arr (by decide) _) rfl (xF_arr (by decide) _) (by decide)
            have hF21 := hF15.put eI21 hk19 (inS_arr rfl _)
            have tkp21 := tk15.put eI21 hk19 ka0 (by decide)
            have fp21 : I21 a0 12 = I a0 12 := (up2_kk eI21 hk19 ka0 (by decide)).trans fq15
            have pg21 := pg15.put eI21 hk19 kns (by decide)
            have om21 := om15.put eI21 hk19 (by first | exact Or.inr rfl | exact Or.inl (by decide) | exact Or.inl (by omega))
            have ni21 := ni15.put eI21 hk19 kns knn (by decide) (by decide)
            have nnz : 0 ≤ (adN D (vl B n (nx B n p))) 0 8 := by omega
            have ix21 : x20_.toInt = (adN D (vl B n (nx B n p))) 0 8 := by omega
            have eC21 := eI21
            rw [clx ix21 nnz] at eC21
            have rw21 := rw15.put hcx (r0 := 10) (j0 := ((adN D (vl B n (nx B n p))) 0 8).toNat) (w := v9) (cM (r := 10) (by decide) (by decide) hb19) eC21 hv9 (by rw [cnt_10]; exact Int.toNat_of_nonneg nnz) (fun h9 => absurd h9 (by decide))
            have oc21 := oc15.put (cM (r := 10) (by decide) (by decide) hb19) eC21
            refine r_aload_n hC dX10_readVillage_84 3 rfl ?_
            refine r_getr hC 4 (ci := 10) rfl u10_in (by decide) mT_4_239 dX10_readVillage_85 ka0 rfl rfl hbr ?_
            obtain ⟨a22_, hb22, hk22, hn22⟩ := hs21.row krm 21 78 4 (by decide) (by decide)
            refine r_getrN hC 21 (ci := 9) rfl u9_in (by decide) nF_21 dX10_readVillage_88 krm rfl rfl hb22 ?_
            refine r_aload_n hC dX10_readVillage_91 3 rfl ?_
            refine r_getr hC 4 (ci := 10) rfl u10_in (by decide) mT_4_239 dX10_readVillage_92 ka0 rfl rfl hbr ?_
            refine r_getiN hC 8 (ci := 9) rfl u9_in (by decide) nF_8 dX10_readVillage_95 krm rfl rfl (fun x23_ e23 => ?_)
            have r23 := hs21.rng krm rfl e23
            have f23 : x23_.toInt = (I21 rm 8).toInt := by rw [e23]
            have w23 : x23_ = x20_ := by rw [e23]; exact (Eq.trans (up2_kk eI21 hk19 krm (by decide)) e20.symm)
            have wt23 : x23_.toInt = x20_.toInt := by rw [w23]
            refine r_iload_n hC dX10_readVillage_98 1 rfl ?_
            refine x_iastore hC hk22 hn22 (by decide) rfl rfl dX10_readVillage_99 (by omega) (by omega) (fun I24 eI24 => ?_)
            have hs24 := hs21.put0 eI24 hk22 (rng_arr (by decide) _) rfl (xF_arr (by decide) _) (by decide)
            have hF24 := hF21.put eI24 hk22 (inS_arr rfl _)
            have tkp24 := tkp21.put eI24 hk22 ka0 (by decide)
            have fp24 : I24 a0 12 = I a0 12 := (up2_kk eI24 hk22 ka0 (by decide)).trans fp21
            have pg24 := pg21.put eI24 hk22 kns (by decide)
            have om24 := om21.put eI24 hk22 (by first | exact Or.inr rfl | exact Or.inl (by decide) | exact Or.inl (by omega))
            have ni24 := ni21.put eI24 hk22 kns knn (by decide) (by decide)
            have eC24 := eI24
            rw [clx (wt23.trans ix21) nnz] at eC24
            have rw24 := rw21.put hcx (r0 := 11) (j0 := ((adN D (vl B n (nx B n p))) 0 8).toNat) (w := v12) (cM (r := 11) (by decide) (by decide) hb22) eC24 hv12 (by rw [upN_o (by decide), cnt_11]; exact Int.toNat_of_nonneg nnz) (fun h9 => absurd h9 (by decide))
            have oc24 := oc21.put (cM (r := 11) (by decide) (by decide) hb22) eC24
            refine r_aload_n hC dX10_readVillage_100 3 rfl ?_
            refine r_getr hC 4 (ci := 10) rfl u10_in (by decide) mT_4_239 dX10_readVillage_101 ka0 rfl rfl hbr ?_
            obtain ⟨a25_, hb25, hk25, hn25⟩ := hs24.row krm 22 79 4 (by decide) (by decide)
            refine r_getrN hC 22 (ci := 9) rfl u9_in (by decide) nF_22 dX10_readVillage_104 krm rfl rfl hb25 ?_
            refine r_aload_n hC dX10_readVillage_107 3 rfl ?_
            refine r_getr hC 4 (ci := 10) rfl u10_in (by decide) mT_4_239 dX10_readVillage_108 ka0 rfl rfl hbr ?_
            refine r_getiN hC 8 (ci := 9) rfl u9_in (by decide) nF_8 dX10_readVillage_111 krm rfl rfl (fun x26_ e26 => ?_)
            have r26 := hs24.rng krm rfl e26
            have f26 : x26_.toInt = (I24 rm 8).toInt := by rw [e26]
            have w26 : x26_ = x23_ := by rw [e26]; exact (Eq.trans (up2_kk eI24 hk22 krm (by decide)) e23.symm)
            have wt26 : x26_.toInt = x23_.toInt := by rw [w26]
            refine r_iload_n hC dX10_readVillage_114 0 rfl ?_
            refine x_iastore hC hk25 hn25 (by decide) rfl rfl dX10_readVillage_115 (by omega) (by omega) (fun I27 eI27 => ?_)
            have hs27 := hs24.put0 eI27 hk25 (rng_arr (by decide) _) rfl (xF_arr (by decide) _) (by decide)
            have hF27 := hF24.put eI27 hk25 (inS_arr rfl _)
            have tkp27 := tkp24.put eI27 hk25 ka0 (by decide)
            have fp27 : I27 a0 12 = I a0 12 := (up2_kk eI27 hk25 ka0 (by decide)).trans fp24
            have pg27 := pg24.put eI27 hk25 kns (by decide)
            have om27 := om24.put eI27 hk25 (by first | exact Or.inr rfl | exact Or.inl (by decide) | exact Or.inl (by omega))
            have ni27 := ni24.put eI27 hk25 kns knn (by decide) (by decide)
            have eC27 := eI27
            rw [clx (wt26.trans (wt23.trans ix21)) nnz] at eC27
            have rw27 := rw24.put hcx (r0 := 12) (j0 := ((adN D (vl B n (nx B n p))) 0 8).toNat) (w := v15) (cM (r := 12) (by decide) (by decide) hb25) eC27 hv15 (by rw [upN_o (by decide), upN_o (by decide), cnt_12]; exact Int.toNat_of_nonneg nnz) (fun h9 => absurd h9 (by decide))
            have oc27 := oc24.put (cM (r := 12) (by decide) (by decide) hb25) eC27
            refine r_aload_n hC dX10_readVillage_116 3 rfl ?_
            refine r_getr hC 4 (ci := 10) rfl u10_in (by decide) mT_4_239 dX10_readVillage_117 ka0 rfl rfl hbr ?_
            refine r_dup hC dX10_readVillage_120 rfl ?_
            refine r_getiN hC 8 (ci := 9) rfl u9_in (by decide) nF_8 dX10_readVillage_121 krm rfl rfl (fun x28_ e28 => ?_)
            have r28 := hs27.rng krm rfl e28
            have f28 : x28_.toInt = (I27 rm 8).toInt := by rw [e28]
            have w28 : x28_ = x26_ := by rw [e28]; exact (Eq.trans (up2_kk eI27 hk25 krm (by decide)) e26.symm)
            have wt28 : x28_.toInt = x26_.toInt := by rw [w28]
            refine r_iconst hC (v := (1)) dX10_readVillage_124 (by decide) (by decide) (fun x29_ e29 t29 => ?_)
            refine r_iadd hC dX10_readVillage_125 (fun x30_ e30 => ?_)
            try have t30 : x30_.toInt = x28_.toInt + x29_.toInt := by rw [e30]; exact ti_add (by omega) (by omega)
            refine r_putiN hC 8 (ci := 9) rfl u9_in tyX9_ok nmX9 (by decide) nF_8 rfl rfl rfl dX10_readVillage_126 krm rfl rfl (fun I31 eI31 => ?_)
            have hs31 := hs27.put1 eI31 krm rfl (by omega) (by omega) rfl rfl (by decide)
            have hF31 := hF27.put eI31 krm rfl
            have tkp31 := tkp27.put eI31 krm ka0 (by decide)
            have fp31 : I31 a0 12 = I a0 12 := (up2_kk eI31 krm ka0 (by decide)).trans fp27
            have pg31 := pg27.put eI31 krm kns (by decide)
            have om31 := om27.put eI31 krm (by first | exact Or.inr rfl | exact Or.inl (by decide) | exact Or.inl (by omega))
            have ni31 := ni27.put eI31 krm kns knn (by decide) (by decide)
            have rw31 := rw27.putO hcx eI31 krm rfl
            have oc31 := oc27.putO eI31 krm rfl
            have hG0 : I31 rm 0 = G0 := (Eq.trans (up2_at (Or.inr (by decide)) eI31) (Eq.trans (up2_kk eI27 hk25 krm (by decide)) (Eq.trans (up2_kk eI24 hk22 krm (by decide)) (Eq.trans (up2_kk eI21 hk19 krm (by decide)) (Eq.trans (hf15.get krm rfl) (Eq.trans (hf12.get krm rfl) (Eq.trans (hf9.get krm rfl) (Eq.trans (hf6.get krm rfl) (Eq.trans (hf3.get krm rfl) eG0.symm)))))))))
            have hG0t : (I31 rm 0).toInt = G0.toInt := congrArg Int32.toInt hG0
            have hG1 : I31 rm 1 = G1 := (Eq.trans (up2_at (Or.inr (by decide)) eI31) (Eq.trans (up2_kk eI27 hk25 krm (by decide)) (Eq.trans (up2_kk eI24 hk22 krm (by decide)) (Eq.trans (up2_kk eI21 hk19 krm (by decide)) (Eq.trans (hf15.get krm rfl) (Eq.trans (hf12.get krm rfl) (Eq.trans (hf9.get krm rfl) (Eq.trans (hf6.get krm rfl) (Eq.trans (hf3.get krm rfl) eG1.symm)))))))))
            have hG1t : (I31 rm 1).toInt = G1.toInt := congrArg Int32.toInt hG1
            have hG2 : I31 rm 2 = G2 := (Eq.trans (up2_at (Or.inr (by decide)) eI31) (Eq.trans (up2_kk eI27 hk25 krm (by decide)) (Eq.trans (up2_kk eI24 hk22 krm (by decide)) (Eq.trans (up2_kk eI21 hk19 krm (by decide)) (Eq.trans (hf15.get krm rfl) (Eq.trans (hf12.get krm rfl) (Eq.trans (hf9.get krm rfl) (Eq.trans (hf6.get krm rfl) (Eq.trans (hf3.get krm rfl) eG2.symm)))))))))
            have hG2t : (I31 rm 2).toInt = G2.toInt := congrArg Int32.toInt hG2
            have hG3 : I31 rm 3 = G3 := (Eq.trans (up2_at (Or.inr (by decide)) eI31) (Eq.trans (up2_kk eI27 hk25 krm (by decide)) (Eq.trans (up2_kk eI24 hk22 krm (by decide)) (Eq.trans (up2_kk eI21 hk19 krm (by decide)) (Eq.trans (hf15.get krm rfl) (Eq.trans (hf12.get krm rfl) (Eq.trans (hf9.get krm rfl) (Eq.trans (hf6.get krm rfl) (Eq.trans (hf3.get krm rfl) eG3.symm)))))))))
            have hG3t : (I31 rm 3).toInt = G3.toInt := congrArg Int32.toInt hG3
            have hG4 : I31 rm 4 = G4 := (Eq.trans (up2_at (Or.inr (by decide)) eI31) (Eq.trans (up2_kk eI27 hk25 krm (by decide)) (Eq.trans (up2_kk eI24 hk22 krm (by decide)) (Eq.trans (up2_kk eI21 hk19 krm (by decide)) (Eq.trans (hf15.get krm rfl) (Eq.trans (hf12.get krm rfl) (Eq.trans (hf9.get krm rfl) (Eq.trans (hf6.get krm rfl) (Eq.trans (hf3.get krm rfl) eG4.symm)))))))))
            have hG4t : (I31 rm 4).toInt = G4.toInt := congrArg Int32.toInt hG4
            have hG5 : I31 rm 5 = G5 := (Eq.trans (up2_at (Or.inr (by decide)) eI31) (Eq.trans (up2_kk eI27 hk25 krm (by decide)) (Eq.trans (up2_kk eI24 hk22 krm (by decide)) (Eq.trans (up2_kk eI21 hk19 krm (by decide)) (Eq.trans (hf15.get krm rfl) (Eq.trans (hf12.get krm rfl) (Eq.trans (hf9.get krm rfl) (Eq.trans (hf6.get krm rfl) (Eq.trans (hf3.get krm rfl) eG5.symm)))))))))
            have hG5t : (I31 rm 5).toInt = G5.toInt := congrArg Int32.toInt hG5
            have hG6 : I31 rm 6 = G6 := (Eq.trans (up2_at (Or.inr (by decide)) eI31) (Eq.trans (up2_kk eI27 hk25 krm (by decide)) (Eq.trans (up2_kk eI24 hk22 krm (by decide)) (Eq.trans (up2_kk eI21 hk19 krm (by decide)) (Eq.trans (hf15.get krm rfl) (Eq.trans (hf12.get krm rfl) (Eq.trans (hf9.get krm rfl) (Eq.trans (hf6.get krm rfl) (Eq.trans (hf3.get krm rfl) eG6.symm)))))))))
            have hG6t : (I31 rm 6).toInt = G6.toInt := congrArg Int32.toInt hG6
            have hG7 : I31 rm 7 = G7 := (Eq.trans (up2_at (Or.inr (by decide)) eI31) (Eq.trans (up2_kk eI27 hk25 krm (by decide)) (Eq.trans (up2_kk eI24 hk22 krm (by decide)) (Eq.trans (up2_kk eI21 hk19 krm (by decide)) (Eq.trans (hf15.get krm rfl) (Eq.trans (hf12.get krm rfl) (Eq.trans (hf9.get krm rfl) (Eq.trans (hf6.get krm rfl) (Eq.trans (hf3.get krm rfl) eG7.symm)))))))))
            have hG7t : (I31 rm 7).toInt = G7.toInt := congrArg Int32.toInt hG7
            have hG8 : I31 rm 8 = x30_ := (by rw [eI31]; exact up2_self _ _ _ _)
            have hG8t : (I31 rm 8).toInt = x30_.toInt := congrArg Int32.toInt hG8
            have hG9 : I31 rm 9 = G9 := (Eq.trans (up2_at (Or.inr (by decide)) eI31) (Eq.trans (up2_kk eI27 hk25 krm (by decide)) (Eq.trans (up2_kk eI24 hk22 krm (by decide)) (Eq.trans (up2_kk eI21 hk19 krm (by decide)) (Eq.trans (hf15.get krm rfl) (Eq.trans (hf12.get krm rfl) (Eq.trans (hf9.get krm rfl) (Eq.trans (hf6.get krm rfl) (Eq.trans (hf3.get krm rfl) eG9.symm)))))))))
            have hG9t : (I31 rm 9).toInt = G9.toInt := congrArg Int32.toInt hG9
            have hG10 : I31 rm 10 = N1 := (Eq.trans (up2_at (Or.inr (by decide)) eI31) (Eq.trans (up2_kk eI27 hk25 krm (by decide)) (Eq.trans (up2_kk eI24 hk22 krm (by decide)) (Eq.trans (up2_kk eI21 hk19 krm (by decide)) (Eq.trans (hf15.get krm rfl) (Eq.trans (hf12.get krm rfl) (Eq.trans (hf9.get krm rfl) eN1.symm)))))))
            have hG10t : (I31 rm 10).toInt = N1.toInt := congrArg Int32.toInt hG10
            exact r_vret hC hQ hlk hr (by decide) (by decide) dX10_readVillage_129 ⟨_, _, rfl, rfl, ⟨hs31, hF31, hFJ15, (by exact Or.inl ⟨_, _, by unfold sVillage; rw [pif_f hbg, hsp6, bnd_ok, hsp9, bnd_ok, hsp12, bnd_ok, hsp15, bnd_ok], hp15, tkp31, ⟨sm.st (by omega) (by omega) (by omega) (by simp [upD, adN, aVil]) (by simp [upD, adN, aVil]) (by simp [upD, adN, aVil]) (by simp [upD, adN, aVil]) (by simp [upD, adN, aVil]; omega) (by simp [upD, adN, aVil]; omega) (by simp [upD, adN, aVil]; omega) (by simp [upD, adN, aVil]; omega) (by simp [upD, adN, aVil]; omega) (by simp [upD, adN, aVil]; omega) (by simp [upD, adN, aVil]; omega) (by simp [upD, adN, aVil]; omega), nm15.cg (by simp [upD, aVil]) (by intro j; simp [upD, aVil]), pg31.cg (by simp [upD, aVil]) (by intro j; simp [upD, aVil]) (by simp [upD, aVil]) (by intro j; simp [upD, aVil])⟩, ni31.cg (by simp [upD, aVil]) (by intro j; simp [upD, aVil]) (by simp [upD, aVil]) (by intro j; simp [upD, aVil]), rw31.vil (Int.toNat_of_nonneg nnz), fp31⟩), (by exact om31), (by exact oc31)⟩⟩
          · rw [show x13_.toInt = 0 by omega, show x14_.toInt = 30 by omega] at hsp15
            refine r_istore_n hC (lv' := [(3, .int x15_), (2, .int x12_), (1, .int x9_), (0, .ref a0)]) dX10_readVillage_58 (by decide) rfl ?_
            refine r_aload_n hC dX10_readVillage_59 3 rfl ?_
            refine r_geti hC 9 (ci := 10) rfl u10_in (by decide) mT_5_4 dX10_readVillage_60 ka0 rfl rfl (fun x32_ e32 => ?_)
            have f32 : x32_.toInt = (I15 a0 9).toInt := by rw [e32]
            refine r_iconst hC (v := (5)) dX10_readVillage_63 (by decide) (by decide) (fun x33_ e33 t33 => ?_)
            refine r_icmp_ne hC (tgt := 68) dX10_readVillage_64 (by decide) (fun c34 => ?_) (fun c34 => ?_)
            · exfalso; omega
            have hG0 : I15 rm 0 = G0 := (Eq.trans (hf15.get krm rfl) (Eq.trans (hf12.get krm rfl) (Eq.trans (hf9.get krm rfl) (Eq.trans (hf6.get krm rfl) (Eq.trans (hf3.get krm rfl) eG0.symm)))))
            have hG0t : (I15 rm 0).toInt = G0.toInt := congrArg Int32.toInt hG0
            have hG1 : I15 rm 1 = G1 := (Eq.trans (hf15.get krm rfl) (Eq.trans (hf12.get krm rfl) (Eq.trans (hf9.get krm rfl) (Eq.trans (hf6.get krm rfl) (Eq.trans (hf3.get krm rfl) eG1.symm)))))
            have hG1t : (I15 rm 1).toInt = G1.toInt := congrArg Int32.toInt hG1
            have hG2 : I15 rm 2 = G2 := (Eq.trans (hf15.get krm rfl) (Eq.trans (hf12.get krm rfl) (Eq.trans (hf9.get krm rfl) (Eq.trans (hf6.get krm rfl) (Eq.trans (hf3.get krm rfl) eG2.symm)))))
            have hG2t : (I15 rm 2).toInt = G2.toInt := congrArg Int32.toInt hG2
            have hG3 : I15 rm 3 = G3 := (Eq.trans (hf15.get krm rfl) (Eq.trans (hf12.get krm rfl) (Eq.trans (hf9.get krm rfl) (Eq.trans (hf6.get krm rfl) (Eq.trans (hf3.get krm rfl) eG3.symm)))))
            have hG3t : (I15 rm 3).toInt = G3.toInt := congrArg Int32.toInt hG3
            have hG4 : I15 rm 4 = G4 := (Eq.trans (hf15.get krm rfl) (Eq.trans (hf12.get krm rfl) (Eq.trans (hf9.get krm rfl) (Eq.trans (hf6.get krm rfl) (Eq.trans (hf3.get krm rfl) eG4.symm)))))
            have hG4t : (I15 rm 4).toInt = G4.toInt := congrArg Int32.toInt hG4
            have hG5 : I15 rm 5 = G5 := (Eq.trans (hf15.get krm rfl) (Eq.trans (hf12.get krm rfl) (Eq.trans (hf9.get krm rfl) (Eq.trans (hf6.get krm rfl) (Eq.trans (hf3.get krm rfl) eG5.symm)))))
            have hG5t : (I15 rm 5).toInt = G5.toInt := congrArg Int32.toInt hG5
            have hG6 : I15 rm 6 = G6 := (Eq.trans (hf15.get krm rfl) (Eq.trans (hf12.get krm rfl) (Eq.trans (hf9.get krm rfl) (Eq.trans (hf6.get krm rfl) (Eq.trans (hf3.get krm rfl) eG6.symm)))))
            have hG6t : (I15 rm 6).toInt = G6.toInt := congrArg Int32.toInt hG6
            have hG7 : I15 rm 7 = G7 := (Eq.trans (hf15.get krm rfl) (Eq.trans (hf12.get krm rfl) (Eq.trans (hf9.get krm rfl) (Eq.trans (hf6.get krm rfl) (Eq.trans (hf3.get krm rfl) eG7.symm)))))
            have hG7t : (I15 rm 7).toInt = G7.toInt := congrArg Int32.toInt hG7
            have hG8 : I15 rm 8 = x5_ := (Eq.trans (hf15.get krm rfl) (Eq.trans (hf12.get krm rfl) (Eq.trans (hf9.get krm rfl) (Eq.trans (hf6.get krm rfl) e5.symm))))
            have hG8t : (I15 rm 8).toInt = x5_.toInt := congrArg Int32.toInt hG8
            have hG9 : I15 rm 9 = G9 := (Eq.trans (hf15.get krm rfl) (Eq.trans (hf12.get krm rfl) (Eq.trans (hf9.get krm rfl) (Eq.trans (hf6.get krm rfl) (Eq.trans (hf3.get krm rfl) eG9.symm)))))
            have hG9t : (I15 rm 9).toInt = G9.toInt := congrArg Int32.toInt hG9
            have hG10 : I15 rm 10 = N1 := (Eq.trans (hf15.get krm rfl) (Eq.trans (hf12.get krm rfl) (Eq.trans (hf9.get krm rfl) eN1.symm)))
            have hG10t : (I15 rm 10).toInt = N1.toInt := congrArg Int32.toInt hG10
            exact r_vret hC hQ hlk hr (by decide) (by decide) dX10_readVillage_67 ⟨_, _, rfl, rfl, ⟨hs15, hF15, hFJ15, (by exact Or.inr ⟨kf15, qf15, by unfold sVillage; rw [pif_f hbg, hsp6, bnd_ok, hsp9, bnd_ok, hsp12, bnd_ok, hsp15, bnd_er], by omega, by omega, by omega⟩), (by exact om15), (by exact oc15)⟩⟩
        · rw [show x10_.toInt = 1 by omega, show x11_.toInt = 999 by omega] at hsp12
          refine r_istore_n hC (lv' := [(2, .int x12_), (1, .int x9_), (0, .ref a0)]) dX10_readVillage_47 (by decide) rfl ?_
          refine r_aload_n hC dX10_readVillage_48 2 rfl ?_
          refine r_ldcwS hC (i := 57) (by decide) rfl rfl dX10_readVillage_49 ?_
          refine r_iconst hC (v := (0)) dX10_readVillage_52 (by decide) (by decide) (fun x35_ e35 t35 => ?_)
          refine r_bipush hC (v := (30)) dX10_readVillage_53 (by decide) (by decide) (fun x36_ e36 t36 => ?_)
          refine r_callV hC (As := [.ref (g.2.2.1 57), .int x35_, .int x36_]) (rest := []) (ci := 10) (e_X10_readPart g (xL X) K len I12 J12 R hs12 a0 ka0 57 (by decide) x35_ x36_ (by omega)) mT_6_1 mT_1_10 mT_5_238 mT_6_0 mP_56 okX10_readPart ⟨by decide, by decide⟩ rfl (by show kO (K a0) = _; rw [ka0]; rfl) rfl rfl (Nat.le_of_ble_eq_true rfl) ⟨by decide, by decide⟩ dX10_readVillage_55 (aI2 (F := fun st M => P g X 4 58 [(2, .int x12_), (1, .int x9_), (0, .ref a0)] st _ _ M) (M := (K, len, I12, J12, R)) fun x37_ I37 J37 h37 => ?_)
          obtain ⟨hs37, hf37, hfj37, k37_0, k37_1, k37_2⟩ := h37
          show P g X 4 58 [(2, .int x12_), (1, .int x9_), (0, .ref a0)] [.int x37_] _ _ (K, len, I37, J37, R)
          have hF37 : Fr K [(10, 8), (10, 10), (11, 8), (11, 9), (11, 10), (11, 11), (11, 12), (11, 13), (77, 999), (78, 999), (79, 999), (83, 999), (84, 999)] I I37 := hF12.trans hf37 rfl rfl
          have hFJ37 : Fr K [(11, 14), (82, 999)] J J37 := hFJ12.trans hfj37 rfl rfl
          have oc37 := oc12.mv qM_big hf37 rfl
          have om37 := om12.mv hf37 rfl
          refine r_istore_n hC (lv' := [(3, .int x37_), (2, .int x12_), (1, .int x9_), (0, .ref a0)]) dX10_readVillage_58 (by decide) rfl ?_
          refine r_aload_n hC dX10_readVillage_59 3 rfl ?_
          refine r_geti hC 9 (ci := 10) rfl u10_in (by decide) mT_5_4 dX10_readVillage_60 ka0 rfl rfl (fun x38_ e38 => ?_)
          have f38 : x38_.toInt = (I37 a0 9).toInt := by rw [e38]
          refine r_iconst hC (v := (5)) dX10_readVillage_63 (by decide) (by decide) (fun x39_ e39 t39 => ?_)
          refine r_icmp_ne hC (tgt := 68) dX10_readVillage_64 (by decide) (fun c40 => ?_) (fun c40 => ?_)
          · exfalso; omega
          have hG0 : I37 rm 0 = G0 := (Eq.trans (hf37.get krm rfl) (Eq.trans (hf12.get krm rfl) (Eq.trans (hf9.get krm rfl) (Eq.trans (hf6.get krm rfl) (Eq.trans (hf3.get krm rfl) eG0.symm)))))
          have hG0t : (I37 rm 0).toInt = G0.toInt := congrArg Int32.toInt hG0
          have hG1 : I37 rm 1 = G1 := (Eq.trans (hf37.get krm rfl) (Eq.trans (hf12.get krm rfl) (Eq.trans (hf9.get krm rfl) (Eq.trans (hf6.get krm rfl) (Eq.trans (hf3.get krm rfl) eG1.symm)))))
          have hG1t : (I37 rm 1).toInt = G1.toInt := congrArg Int32.toInt hG1
          have hG2 : I37 rm 2 = G2 := (Eq.trans (hf37.get krm rfl) (Eq.trans (hf12.get krm rfl) (Eq.trans (hf9.get krm rfl) (Eq.trans (hf6.get krm rfl) (Eq.trans (hf3.get krm rfl) eG2.symm)))))
          have hG2t : (I37 rm 2).toInt = G2.toInt := congrArg Int32.toInt hG2
          have hG3 : I37 rm 3 = G3 := (Eq.trans (hf37.get krm rfl) (Eq.trans (hf12.get krm rfl) (Eq.trans (hf9.get krm rfl) (Eq.trans (hf6.get krm rfl) (Eq.trans (hf3.get krm rfl) eG3.symm)))))
          have hG3t : (I37 rm 3).toInt = G3.toInt := congrArg Int32.toInt hG3
          have hG4 : I37 rm 4 = G4 := (Eq.trans (hf37.get krm rfl) (Eq.trans (hf12.get krm rfl) (Eq.trans (hf9.get krm rfl) (Eq.trans (hf6.get krm rfl) (Eq.trans (hf3.get krm rfl) eG4.symm)))))
          have hG4t : (I37 rm 4).toInt = G4.toInt := congrArg Int32.toInt hG4
          have hG5 : I37 rm 5 = G5 := (Eq.trans (hf37.get krm rfl) (Eq.trans (hf12.get krm rfl) (Eq.trans (hf9.get krm rfl) (Eq.trans (hf6.get krm rfl) (Eq.trans (hf3.get krm rfl) eG5.symm)))))
          have hG5t : (I37 rm 5).toInt = G5.toInt := congrArg Int32.toInt hG5
          have hG6 : I37 rm 6 = G6 := (Eq.trans (hf37.get krm rfl) (Eq.trans (hf12.get krm rfl) (Eq.trans (hf9.get krm rfl) (Eq.trans (hf6.get krm rfl) (Eq.trans (hf3.get krm rfl) eG6.symm)))))
          have hG6t : (I37 rm 6).toInt = G6.toInt := congrArg Int32.toInt hG6
          have hG7 : I37 rm 7 = G7 := (Eq.trans (hf37.get krm rfl) (Eq.trans (hf12.get krm rfl) (Eq.trans (hf9.get krm rfl) (Eq.trans (hf6.get krm rfl) (Eq.trans (hf3.get krm rfl) eG7.symm)))))
          have hG7t : (I37 rm 7).toInt = G7.toInt := congrArg Int32.toInt hG7
          have hG8 : I37 rm 8 = x5_ := (Eq.trans (hf37.get krm rfl) (Eq.trans (hf12.get krm rfl) (Eq.trans (hf9.get krm rfl) (Eq.trans (hf6.get krm rfl) e5.symm))))
          have hG8t : (I37 rm 8).toInt = x5_.toInt := congrArg Int32.toInt hG8
          have hG9 : I37 rm 9 = G9 := (Eq.trans (hf37.get krm rfl) (Eq.trans (hf12.get krm rfl) (Eq.trans (hf9.get krm rfl) (Eq.trans (hf6.get krm rfl) (Eq.trans (hf3.get krm rfl) eG9.symm)))))
          have hG9t : (I37 rm 9).toInt = G9.toInt := congrArg Int32.toInt hG9
          have hG10 : I37 rm 10 = N1 := (Eq.trans (hf37.get krm rfl) (Eq.trans (hf12.get krm rfl) (Eq.trans (hf9.get krm rfl) eN1.symm)))
          have hG10t : (I37 rm 10).toInt = N1.toInt := congrArg Int32.toInt hG10
          exact r_vret hC hQ hlk hr (by decide) (by decide) dX10_readVillage_67 ⟨_, _, rfl, rfl, ⟨hs37, hF37, hFJ37, (by exact Or.inr ⟨kf12, qf12, by unfold sVillage; rw [pif_f hbg, hsp6, bnd_ok, hsp9, bnd_ok, hsp12, bnd_er], by omega, by omega, by omega⟩), (by exact om37), (by exact oc37)⟩⟩
      · rw [show x7_.toInt = 0 by omega, show x8_.toInt = 999 by omega] at hsp9
        refine r_istore_n hC (lv' := [(1, .int x9_), (0, .ref a0)]) dX10_readVillage_35 (by decide) rfl ?_
        refine r_aload_n hC dX10_readVillage_36 1 rfl ?_
        refine r_ldcwS hC (i := 56) (by decide) rfl rfl dX10_readVillage_37 ?_
        refine r_iconst hC (v := (1)) dX10_readVillage_40 (by decide) (by decide) (fun x41_ e41 t41 => ?_)
        refine r_sipush hC (v := (999)) dX10_readVillage_41 (by decide) (by decide) (fun x42_ e42 t42 => ?_)
        refine r_callV hC (As := [.ref (g.2.2.1 56), .int x41_, .int x42_]) (rest := []) (ci := 10) (e_X10_readPart g (xL X) K len I9 J9 R hs9 a0 ka0 56 (by decide) x41_ x42_ (by omega)) mT_6_1 mT_1_10 mT_5_238 mT_6_0 mP_56 okX10_readPart ⟨by decide, by decide⟩ rfl (by show kO (K a0) = _; rw [ka0]; rfl) rfl rfl (Nat.le_of_ble_eq_true rfl) ⟨by decide, by decide⟩ dX10_readVillage_44 (aI2 (F := fun st M => P g X 4 47 [(1, .int x9_), (0, .ref a0)] st _ _ M) (M := (K, len, I9, J9, R)) fun x43_ I43 J43 h43 => ?_)
        obtain ⟨hs43, hf43, hfj43, k43_0, k43_1, k43_2⟩ := h43
        show P g X 4 47 [(1, .int x9_), (0, .ref a0)] [.int x43_] _ _ (K, len, I43, J43, R)
        have hF43 : Fr K [(10, 8), (10, 10), (11, 8), (11, 9), (11, 10), (11, 11), (11, 12), (11, 13), (77, 999), (78, 999), (79, 999), (83, 999), (84, 999)] I I43 := hF9.trans hf43 rfl rfl
        have hFJ43 : Fr K [(11, 14), (82, 999)] J J43 := hFJ9.trans hfj43 rfl rfl
        have oc43 := oc9.mv qM_big hf43 rfl
        have om43 := om9.mv hf43 rfl
        refine r_istore_n hC (lv' := [(2, .int x43_), (1, .int x9_), (0, .ref a0)]) dX10_readVillage_47 (by decide) rfl ?_
        refine r_aload_n hC dX10_readVillage_48 2 rfl ?_
        refine r_ldcwS hC (i := 57) (by decide) rfl rfl dX10_readVillage_49 ?_
        refine r_iconst hC (v := (0)) dX10_readVillage_52 (by decide) (by decide) (fun x44_ e44 t44 => ?_)
        refine r_bipush hC (v := (30)) dX10_readVillage_53 (by decide) (by decide) (fun x45_ e45 t45 => ?_)
        refine r_callV hC (As := [.ref (g.2.2.1 57), .int x44_, .int x45_]) (rest := []) (ci := 10) (e_X10_readPart g (xL X) K len I43 J43 R hs43 a0 ka0 57 (by decide) x44_ x45_ (by omega)) mT_6_1 mT_1_10 mT_5_238 mT_6_0 mP_56 okX10_readPart ⟨by decide, by decide⟩ rfl (by show kO (K a0) = _; rw [ka0]; rfl) rfl rfl (Nat.le_of_ble_eq_true rfl) ⟨by decide, by decide⟩ dX10_readVillage_55 (aI2 (F := fun st M => P g X 4 58 [(2, .int x43_), (1, .int x9_), (0, .ref a0)] st _ _ M) (M := (K, len, I43, J43, R)) fun x46_ I46 J46 h46 => ?_)
        obtain ⟨hs46, hf46, hfj46, k46_0, k46_1, k46_2⟩ := h46
        show P g X 4 58 [(2, .int x43_), (1, .int x9_), (0, .ref a0)] [.int x46_] _ _ (K, len, I46, J46, R)
        have hF46 : Fr K [(10, 8), (10, 10), (11, 8), (11, 9), (11, 10), (11, 11), (11, 12), (11, 13), (77, 999), (78, 999), (79, 999), (83, 999), (84, 999)] I I46 := hF43.trans hf46 rfl rfl
        have hFJ46 : Fr K [(11, 14), (82, 999)] J J46 := hFJ43.trans hfj46 rfl rfl
        have oc46 := oc43.mv qM_big hf46 rfl
        have om46 := om43.mv hf46 rfl
        refine r_istore_n hC (lv' := [(3, .int x46_), (2, .int x43_), (1, .int x9_), (0, .ref a0)]) dX10_readVillage_58 (by decide) rfl ?_
        refine r_aload_n hC dX10_readVillage_59 3 rfl ?_
        refine r_geti hC 9 (ci := 10) rfl u10_in (by decide) mT_5_4 dX10_readVillage_60 ka0 rfl rfl (fun x47_ e47 => ?_)
        have f47 : x47_.toInt = (I46 a0 9).toInt := by rw [e47]
        refine r_iconst hC (v := (5)) dX10_readVillage_63 (by decide) (by decide) (fun x48_ e48 t48 => ?_)
        refine r_icmp_ne hC (tgt := 68) dX10_readVillage_64 (by decide) (fun c49 => ?_) (fun c49 => ?_)
        · exfalso; omega
        have hG0 : I46 rm 0 = G0 := (Eq.trans (hf46.get krm rfl) (Eq.trans (hf43.get krm rfl) (Eq.trans (hf9.get krm rfl) (Eq.trans (hf6.get krm rfl) (Eq.trans (hf3.get krm rfl) eG0.symm)))))
        have hG0t : (I46 rm 0).toInt = G0.toInt := congrArg Int32.toInt hG0
        have hG1 : I46 rm 1 = G1 := (Eq.trans (hf46.get krm rfl) (Eq.trans (hf43.get krm rfl) (Eq.trans (hf9.get krm rfl) (Eq.trans (hf6.get krm rfl) (Eq.trans (hf3.get krm rfl) eG1.symm)))))
        have hG1t : (I46 rm 1).toInt = G1.toInt := congrArg Int32.toInt hG1
        have hG2 : I46 rm 2 = G2 := (Eq.trans (hf46.get krm rfl) (Eq.trans (hf43.get krm rfl) (Eq.trans (hf9.get krm rfl) (Eq.trans (hf6.get krm rfl) (Eq.trans (hf3.get krm rfl) eG2.symm)))))
        have hG2t : (I46 rm 2).toInt = G2.toInt := congrArg Int32.toInt hG2
        have hG3 : I46 rm 3 = G3 := (Eq.trans (hf46.get krm rfl) (Eq.trans (hf43.get krm rfl) (Eq.trans (hf9.get krm rfl) (Eq.trans (hf6.get krm rfl) (Eq.trans (hf3.get krm rfl) eG3.symm)))))
        have hG3t : (I46 rm 3).toInt = G3.toInt := congrArg Int32.toInt hG3
        have hG4 : I46 rm 4 = G4 := (Eq.trans (hf46.get krm rfl) (Eq.trans (hf43.get krm rfl) (Eq.trans (hf9.get krm rfl) (Eq.trans (hf6.get krm rfl) (Eq.trans (hf3.get krm rfl) eG4.symm)))))
        have hG4t : (I46 rm 4).toInt = G4.toInt := congrArg Int32.toInt hG4
        have hG5 : I46 rm 5 = G5 := (Eq.trans (hf46.get krm rfl) (Eq.trans (hf43.get krm rfl) (Eq.trans (hf9.get krm rfl) (Eq.trans (hf6.get krm rfl) (Eq.trans (hf3.get krm rfl) eG5.symm)))))
        have hG5t : (I46 rm 5).toInt = G5.toInt := congrArg Int32.toInt hG5
        have hG6 : I46 rm 6 = G6 := (Eq.trans (hf46.get krm rfl) (Eq.trans (hf43.get krm rfl) (Eq.trans (hf9.get krm rfl) (Eq.trans (hf6.get krm rfl) (Eq.trans (hf3.get krm rfl) eG6.symm)))))
        have hG6t : (I46 rm 6).toInt = G6.toInt := congrArg Int32.toInt hG6
        have hG7 : I46 rm 7 = G7 := (Eq.trans (hf46.get krm rfl) (Eq.trans (hf43.get krm rfl) (Eq.trans (hf9.get krm rfl) (Eq.trans (hf6.get krm rfl) (Eq.trans (hf3.get krm rfl) eG7.symm)))))
        have hG7t : (I46 rm 7).toInt = G7.toInt := congrArg Int32.toInt hG7
        have hG8 : I46 rm 8 = x5_ := (Eq.trans (hf46.get krm rfl) (Eq.trans (hf43.get krm rfl) (Eq.trans (hf9.get krm rfl) (Eq.trans (hf6.get krm rfl) e5.symm))))
        have hG8t : (I46 rm 8).toInt = x5_.toInt := congrArg Int32.toInt hG8
        have hG9 : I46 rm 9 = G9 := (Eq.trans (hf46.get krm rfl) (Eq.trans (hf43.get krm rfl) (Eq.trans (hf9.get krm rfl) (Eq.trans (hf6.get krm rfl) (Eq.trans (hf3.get krm rfl) eG9.symm)))))
        have hG9t : (I46 rm 9).toInt = G9.toInt := congrArg Int32.toInt hG9
        have hG10 : I46 rm 10 = N1 := (Eq.trans (hf46.get krm rfl) (Eq.trans (hf43.get krm rfl) (Eq.trans (hf9.get krm rfl) eN1.symm)))
        have hG10t : (I46 rm 10).toInt = N1.toInt := congrArg Int32.toInt hG10
        exact r_vret hC hQ hlk hr (by decide) (by decide) dX10_readVillage_67 ⟨_, _, rfl, rfl, ⟨hs46, hF46, hFJ46, (by exact Or.inr ⟨kf9, qf9, by unfold sVillage; rw [pif_f hbg, hsp6, bnd_ok, hsp9, bnd_er], by omega, by omega, by omega⟩), (by exact om46), (by exact oc46)⟩⟩
    · obtain ⟨N1, eN1⟩ : ∃ z : Int32, z = I6 rm 10 := ⟨_, rfl⟩
      have fN1 : N1.toInt = (I6 rm 10).toInt := by rw [eN1]
      have rN1 := hs6.rng krm rfl eN1
      refine r_aload_n hC dX10_readVillage_24 0 rfl ?_
      refine r_ldcwS hC (i := 55) (by decide) rfl rfl dX10_readVillage_25 ?_
      refine r_iconst hC (v := (0)) dX10_readVillage_28 (by decide) (by decide) (fun x50_ e50 t50 => ?_)
      refine r_sipush hC (v := (999)) dX10_readVillage_29 (by decide) (by decide) (fun x51_ e51 t51 => ?_)
      refine r_callV hC (As := [.ref (g.2.2.1 55), .int x50_, .int x51_]) (rest := []) (ci := 10) (e_X10_readPart g (xL X) K len I6 J6 R hs6 a0 ka0 55 (by decide) x50_ x51_ (by omega)) mT_6_1 mT_1_10 mT_5_238 mT_6_0 mP_56 okX10_readPart ⟨by decide, by decide⟩ rfl (by show kO (K a0) = _; rw [ka0]; rfl) rfl rfl (Nat.le_of_ble_eq_true rfl) ⟨by decide, by decide⟩ dX10_readVillage_32 (aI2 (F := fun st M => P g X 4 35 [(0, .ref a0)] st _ _ M) (M := (K, len, I6, J6, R)) fun x52_ I52 J52 h52 => ?_)
      obtain ⟨hs52, hf52, hfj52, k52_0, k52_1, k52_2⟩ := h52
      show P g X 4 35 [(0, .ref a0)] [.int x52_] _ _ (K, len, I52, J52, R)
      have hF52 : Fr K [(10, 8), (10, 10), (11, 8), (11, 9), (11, 10), (11, 11), (11, 12), (11, 13), (77, 999), (78, 999), (79, 999), (83, 999), (84, 999)] I I52 := hF6.trans hf52 rfl rfl
      have hFJ52 : Fr K [(11, 14), (82, 999)] J J52 := hFJ6.trans hfj52 rfl rfl
      have oc52 := oc6.mv qM_big hf52 rfl
      have om52 := om6.mv hf52 rfl
      refine r_istore_n hC (lv' := [(1, .int x52_), (0, .ref a0)]) dX10_readVillage_35 (by decide) rfl ?_
      refine r_aload_n hC dX10_readVillage_36 1 rfl ?_
      refine r_ldcwS hC (i := 56) (by decide) rfl rfl dX10_readVillage_37 ?_
      refine r_iconst hC (v := (1)) dX10_readVillage_40 (by decide) (by decide) (fun x53_ e53 t53 => ?_)
      refine r_sipush hC (v := (999)) dX10_readVillage_41 (by decide) (by decide) (fun x54_ e54 t54 => ?_)
      refine r_callV hC (As := [.ref (g.2.2.1 56), .int x53_, .int x54_]) (rest := []) (ci := 10) (e_X10_readPart g (xL X) K len I52 J52 R hs52 a0 ka0 56 (by decide) x53_ x54_ (by omega)) mT_6_1 mT_1_10 mT_5_238 mT_6_0 mP_56 okX10_readPart ⟨by decide, by decide⟩ rfl (by show kO (K a0) = _; rw [ka0]; rfl) rfl rfl (Nat.le_of_ble_eq_true rfl) ⟨by decide, by decide⟩ dX10_readVillage_44 (aI2 (F := fun st M => P g X 4 47 [(1, .int x52_), (0, .ref a0)] st _ _ M) (M := (K, len, I52, J52, R)) fun x55_ I55 J55 h55 => ?_)
      obtain ⟨hs55, hf55, hfj55, k55_0, k55_1, k55_2⟩ := h55
      show P g X 4 47 [(1, .int x52_), (0, .ref a0)] [.int x55_] _ _ (K, len, I55, J55, R)
      have hF55 : Fr K [(10, 8), (10, 10), (11, 8), (11, 9), (11, 10), (11, 11), (11, 12), (11, 13), (77, 999), (78, 999), (79, 999), (83, 999), (84, 999)] I I55 := hF52.trans hf55 rfl rfl
      have hFJ55 : Fr K [(11, 14), (82, 999)] J J55 := hFJ52.trans hfj55 rfl rfl
      have oc55 := oc52.mv qM_big hf55 rfl
      have om55 := om52.mv hf55 rfl
      refine r_istore_n hC (lv' := [(2, .int x55_), (1, .int x52_), (0, .ref a0)]) dX10_readVillage_47 (by decide) rfl ?_
      refine r_aload_n hC dX10_readVillage_48 2 rfl ?_
      refine r_ldcwS hC (i := 57) (by decide) rfl rfl dX10_readVillage_49 ?_
      refine r_iconst hC (v := (0)) dX10_readVillage_52 (by decide) (by decide) (fun x56_ e56 t56 => ?_)
      refine r_bipush hC (v := (30)) dX10_readVillage_53 (by decide) (by decide) (fun x57_ e57 t57 => ?_)
      refine r_callV hC (As := [.ref (g.2.2.1 57), .int x56_, .int x57_]) (rest := []) (ci := 10) (e_X10_readPart g (xL X) K len I55 J55 R hs55 a0 ka0 57 (by decide) x56_ x57_ (by omega)) mT_6_1 mT_1_10 mT_5_238 mT_6_0 mP_56 okX10_readPart ⟨by decide, by decide⟩ rfl (by show kO (K a0) = _; rw [ka0]; rfl) rfl rfl (Nat.le_of_ble_eq_true rfl) ⟨by decide, by decide⟩ dX10_readVillage_55 (aI2 (F := fun st M => P g X 4 58 [(2, .int x55_), (1, .int x52_), (0, .ref a0)] st _ _ M) (M := (K, len, I55, J55, R)) fun x58_ I58 J58 h58 => ?_)
      obtain ⟨hs58, hf58, hfj58, k58_0, k58_1, k58_2⟩ := h58
      show P g X 4 58 [(2, .int x55_), (1, .int x52_), (0, .ref a0)] [.int x58_] _ _ (K, len, I58, J58, R)
      have hF58 : Fr K [(10, 8), (10, 10), (11, 8), (11, 9), (11, 10), (11, 11), (11, 12), (11, 13), (77, 999), (78, 999), (79, 999), (83, 999), (84, 999)] I I58 := hF55.trans hf58 rfl rfl
      have hFJ58 : Fr K [(11, 14), (82, 999)] J J58 := hFJ55.trans hfj58 rfl rfl
      have oc58 := oc55.mv qM_big hf58 rfl
      have om58 := om55.mv hf58 rfl
      refine r_istore_n hC (lv' := [(3, .int x58_), (2, .int x55_), (1, .int x52_), (0, .ref a0)]) dX10_readVillage_58 (by decide) rfl ?_
      refine r_aload_n hC dX10_readVillage_59 3 rfl ?_
      refine r_geti hC 9 (ci := 10) rfl u10_in (by decide) mT_5_4 dX10_readVillage_60 ka0 rfl rfl (fun x59_ e59 => ?_)
      have f59 : x59_.toInt = (I58 a0 9).toInt := by rw [e59]
      refine r_iconst hC (v := (5)) dX10_readVillage_63 (by decide) (by decide) (fun x60_ e60 t60 => ?_)
      refine r_icmp_ne hC (tgt := 68) dX10_readVillage_64 (by decide) (fun c61 => ?_) (fun c61 => ?_)
      · exfalso; omega
      have hG0 : I58 rm 0 = G0 := (Eq.trans (hf58.get krm rfl) (Eq.trans (hf55.get krm rfl) (Eq.trans (hf52.get krm rfl) (Eq.trans (hf6.get krm rfl) (Eq.trans (hf3.get krm rfl) eG0.symm)))))
      have hG0t : (I58 rm 0).toInt = G0.toInt := congrArg Int32.toInt hG0
      have hG1 : I58 rm 1 = G1 := (Eq.trans (hf58.get krm rfl) (Eq.trans (hf55.get krm rfl) (Eq.trans (hf52.get krm rfl) (Eq.trans (hf6.get krm rfl) (Eq.trans (hf3.get krm rfl) eG1.symm)))))
      have hG1t : (I58 rm 1).toInt = G1.toInt := congrArg Int32.toInt hG1
      have hG2 : I58 rm 2 = G2 := (Eq.trans (hf58.get krm rfl) (Eq.trans (hf55.get krm rfl) (Eq.trans (hf52.get krm rfl) (Eq.trans (hf6.get krm rfl) (Eq.trans (hf3.get krm rfl) eG2.symm)))))
      have hG2t : (I58 rm 2).toInt = G2.toInt := congrArg Int32.toInt hG2
      have hG3 : I58 rm 3 = G3 := (Eq.trans (hf58.get krm rfl) (Eq.trans (hf55.get krm rfl) (Eq.trans (hf52.get krm rfl) (Eq.trans (hf6.get krm rfl) (Eq.trans (hf3.get krm rfl) eG3.symm)))))
      have hG3t : (I58 rm 3).toInt = G3.toInt := congrArg Int32.toInt hG3
      have hG4 : I58 rm 4 = G4 := (Eq.trans (hf58.get krm rfl) (Eq.trans (hf55.get krm rfl) (Eq.trans (hf52.get krm rfl) (Eq.trans (hf6.get krm rfl) (Eq.trans (hf3.get krm rfl) eG4.symm)))))
      have hG4t : (I58 rm 4).toInt = G4.toInt := congrArg Int32.toInt hG4
      have hG5 : I58 rm 5 = G5 := (Eq.trans (hf58.get krm rfl) (Eq.trans (hf55.get krm rfl) (Eq.trans (hf52.get krm rfl) (Eq.trans (hf6.get krm rfl) (Eq.trans (hf3.get krm rfl) eG5.symm)))))
      have hG5t : (I58 rm 5).toInt = G5.toInt := congrArg Int32.toInt hG5
      have hG6 : I58 rm 6 = G6 := (Eq.trans (hf58.get krm rfl) (Eq.trans (hf55.get krm rfl) (Eq.trans (hf52.get krm rfl) (Eq.trans (hf6.get krm rfl) (Eq.trans (hf3.get krm rfl) eG6.symm)))))
      have hG6t : (I58 rm 6).toInt = G6.toInt := congrArg Int32.toInt hG6
      have hG7 : I58 rm 7 = G7 := (Eq.trans (hf58.get krm rfl) (Eq.trans (hf55.get krm rfl) (Eq.trans (hf52.get krm rfl) (Eq.trans (hf6.get krm rfl) (Eq.trans (hf3.get krm rfl) eG7.symm)))))
      have hG7t : (I58 rm 7).toInt = G7.toInt := congrArg Int32.toInt hG7
      have hG8 : I58 rm 8 = x5_ := (Eq.trans (hf58.get krm rfl) (Eq.trans (hf55.get krm rfl) (Eq.trans (hf52.get krm rfl) (Eq.trans (hf6.get krm rfl) e5.symm))))
      have hG8t : (I58 rm 8).toInt = x5_.toInt := congrArg Int32.toInt hG8
      have hG9 : I58 rm 9 = G9 := (Eq.trans (hf58.get krm rfl) (Eq.trans (hf55.get krm rfl) (Eq.trans (hf52.get krm rfl) (Eq.trans (hf6.get krm rfl) (Eq.trans (hf3.get krm rfl) eG9.symm)))))
      have hG9t : (I58 rm 9).toInt = G9.toInt := congrArg Int32.toInt hG9
      have hG10 : I58 rm 10 = N1 := (Eq.trans (hf58.get krm rfl) (Eq.trans (hf55.get krm rfl) (Eq.trans (hf52.get krm rfl) eN1.symm)))
      have hG10t : (I58 rm 10).toInt = N1.toInt := congrArg Int32.toInt hG10
      exact r_vret hC hQ hlk hr (by decide) (by decide) dX10_readVillage_67 ⟨_, _, rfl, rfl, ⟨hs58, hF58, hFJ58, (by exact Or.inr ⟨kf6, qf6, by unfold sVillage; rw [pif_f hbg, hsp6, bnd_er], by omega, by omega, by omega⟩), (by exact om58), (by exact oc58)⟩⟩
  · have hbg : 4 ≤ D 0 8 := by omega
    refine r_aload_n hC dX10_readVillage_12 0 rfl ?_
    refine r_iconst hC (v := (1)) dX10_readVillage_13 (by decide) (by decide) (fun x62_ e62 t62 => ?_)
    refine r_aload_n hC dX10_readVillage_14 0 rfl ?_
    refine r_getr hC 4 (ci := 10) rfl u10_in (by decide) mT_4_239 dX10_readVillage_15 ka0 rfl rfl hbr ?_
    refine r_getiN hC 8 (ci := 9) rfl u9_in (by decide) nF_8 dX10_readVillage_18 krm rfl rfl (fun x63_ e63 => ?_)
    have r63 := hs3.rng krm rfl e63
    have f63 : x63_.toInt = (I3 rm 8).toInt := by rw [e63]
    have w63 : x63_ = x1_ := by rw [e63]; exact (Eq.trans (hf3.get krm rfl) e1.symm)
    have wt63 : x63_.toInt = x1_.toInt := by rw [w63]
    have q10 : I3 rm 10 = G10 := (Eq.trans (hf3.get krm rfl) eG10.symm)
    have q10t : (I3 rm 10).toInt = G10.toInt := congrArg Int32.toInt q10
    refine r_callV hC (As := [.int x62_, .int x63_]) (rest := []) (ci := 10) (e_X10_readFresh g (xL X) K len I3 J3 R hs3 a0 ka0 x62_ x63_ rm hbr krm (by omega)) mT_6_23 mT_1_10 mT_6_20 mT_6_22 mP_60 okX10_readFresh ⟨by decide, by decide⟩ rfl (by show kO (K a0) = _; rw [ka0]; rfl) rfl rfl (Nat.le_of_ble_eq_true rfl) ⟨by decide, by decide⟩ dX10_readVillage_21 (aV2 (F := fun st M => P g X 4 24 [(0, .ref a0)] st _ _ M) (M := (K, len, I3, J3, R)) fun I64 J64 h64 => ?_)
    obtain ⟨hs64, hf64, hfj64, k64_0, k64_1, k64_2, k64_3⟩ := h64
    show P g X 4 24 [(0, .ref a0)] [] _ _ (K, len, I64, J64, R)
    have hF64 : Fr K [(10, 8), (10, 10), (11, 8), (11, 9), (11, 10), (11, 11), (11, 12), (11, 13), (77, 999), (78, 999), (79, 999), (83, 999), (84, 999)] I I64 := hF3.trans hf64 rfl rfl
    have hFJ64 : Fr K [(11, 14), (82, 999)] J J64 := hFJ3.trans hfj64 rfl rfl
    have oc64 := oc3.mv qM_big hf64 rfl
    have om64 := om3.tr k64_3
    obtain ⟨N1, eN1⟩ : ∃ z : Int32, z = I64 rm 10 := ⟨_, rfl⟩
    have fN1 : N1.toInt = (I64 rm 10).toInt := by rw [eN1]
    have rN1 := hs64.rng krm rfl eN1
    refine r_aload_n hC dX10_readVillage_24 0 rfl ?_
    refine r_ldcwS hC (i := 55) (by decide) rfl rfl dX10_readVillage_25 ?_
    refine r_iconst hC (v := (0)) dX10_readVillage_28 (by decide) (by decide) (fun x65_ e65 t65 => ?_)
    refine r_sipush hC (v := (999)) dX10_readVillage_29 (by decide) (by decide) (fun x66_ e66 t66 => ?_)
    refine r_callV hC (As := [.ref (g.2.2.1 55), .int x65_, .int x66_]) (rest := []) (ci := 10) (e_X10_readPart g (xL X) K len I64 J64 R hs64 a0 ka0 55 (by decide) x65_ x66_ (by omega)) mT_6_1 mT_1_10 mT_5_238 mT_6_0 mP_56 okX10_readPart ⟨by decide, by decide⟩ rfl (by show kO (K a0) = _; rw [ka0]; rfl) rfl rfl (Nat.le_of_ble_eq_true rfl) ⟨by decide, by decide⟩ dX10_readVillage_32 (aI2 (F := fun st M => P g X 4 35 [(0, .ref a0)] st _ _ M) (M := (K, len, I64, J64, R)) fun x67_ I67 J67 h67 => ?_)
    obtain ⟨hs67, hf67, hfj67, k67_0, k67_1, k67_2⟩ := h67
    show P g X 4 35 [(0, .ref a0)] [.int x67_] _ _ (K, len, I67, J67, R)
    have hF67 : Fr K [(10, 8), (10, 10), (11, 8), (11, 9), (11, 10), (11, 11), (11, 12), (11, 13), (77, 999), (78, 999), (79, 999), (83, 999), (84, 999)] I I67 := hF64.trans hf67 rfl rfl
    have hFJ67 : Fr K [(11, 14), (82, 999)] J J67 := hFJ64.trans hfj67 rfl rfl
    have oc67 := oc64.mv qM_big hf67 rfl
    have om67 := om64.mv hf67 rfl
    refine r_istore_n hC (lv' := [(1, .int x67_), (0, .ref a0)]) dX10_readVillage_35 (by decide) rfl ?_
    refine r_aload_n hC dX10_readVillage_36 1 rfl ?_
    refine r_ldcwS hC (i := 56) (by decide) rfl rfl dX10_readVillage_37 ?_
    refine r_iconst hC (v := (1)) dX10_readVillage_40 (by decide) (by decide) (fun x68_ e68 t68 => ?_)
    refine r_sipush hC (v := (999)) dX10_readVillage_41 (by decide) (by decide) (fun x69_ e69 t69 => ?_)
    refine r_callV hC (As := [.ref (g.2.2.1 56), .int x68_, .int x69_]) (rest := []) (ci := 10) (e_X10_readPart g (xL X) K len I67 J67 R hs67 a0 ka0 56 (by decide) x68_ x69_ (by omega)) mT_6_1 mT_1_10 mT_5_238 mT_6_0 mP_56 okX10_readPart ⟨by decide, by decide⟩ rfl (by show kO (K a0) = _; rw [ka0]; rfl) rfl rfl (Nat.le_of_ble_eq_true rfl) ⟨by decide, by decide⟩ dX10_readVillage_44 (aI2 (F := fun st M => P g X 4 47 [(1, .int x67_), (0, .ref a0)] st _ _ M) (M := (K, len, I67, J67, R)) fun x70_ I70 J70 h70 => ?_)
    obtain ⟨hs70, hf70, hfj70, k70_0, k70_1, k70_2⟩ := h70
    show P g X 4 47 [(1, .int x67_), (0, .ref a0)] [.int x70_] _ _ (K, len, I70, J70, R)
    have hF70 : Fr K [(10, 8), (10, 10), (11, 8), (11, 9), (11, 10), (11, 11), (11, 12), (11, 13), (77, 999), (78, 999), (79, 999), (83, 999), (84, 999)] I I70 := hF67.trans hf70 rfl rfl
    have hFJ70 : Fr K [(11, 14), (82, 999)] J J70 := hFJ67.trans hfj70 rfl rfl
    have oc70 := oc67.mv qM_big hf70 rfl
    have om70 := om67.mv hf70 rfl
    refine r_istore_n hC (lv' := [(2, .int x70_), (1, .int x67_), (0, .ref a0)]) dX10_readVillage_47 (by decide) rfl ?_
    refine r_aload_n hC dX10_readVillage_48 2 rfl ?_
    refine r_ldcwS hC (i := 57) (by decide) rfl rfl dX10_readVillage_49 ?_
    refine r_iconst hC (v := (0)) dX10_readVillage_52 (by decide) (by decide) (fun x71_ e71 t71 => ?_)
    refine r_bipush hC (v := (30)) dX10_readVillage_53 (by decide) (by decide) (fun x72_ e72 t72 => ?_)
    refine r_callV hC (As := [.ref (g.2.2.1 57), .int x71_, .int x72_]) (rest := []) (ci := 10) (e_X10_readPart g (xL X) K len I70 J70 R hs70 a0 ka0 57 (by decide) x71_ x72_ (by omega)) mT_6_1 mT_1_10 mT_5_238 mT_6_0 mP_56 okX10_readPart ⟨by decide, by decide⟩ rfl (by show kO (K a0) = _; rw [ka0]; rfl) rfl rfl (Nat.le_of_ble_eq_true rfl) ⟨by decide, by decide⟩ dX10_readVillage_55 (aI2 (F := fun st M => P g X 4 58 [(2, .int x70_), (1, .int x67_), (0, .ref a0)] st _ _ M) (M := (K, len, I70, J70, R)) fun x73_ I73 J73 h73 => ?_)
    obtain ⟨hs73, hf73, hfj73, k73_0, k73_1, k73_2⟩ := h73
    show P g X 4 58 [(2, .int x70_), (1, .int x67_), (0, .ref a0)] [.int x73_] _ _ (K, len, I73, J73, R)
    have hF73 : Fr K [(10, 8), (10, 10), (11, 8), (11, 9), (11, 10), (11, 11), (11, 12), (11, 13), (77, 999), (78, 999), (79, 999), (83, 999), (84, 999)] I I73 := hF70.trans hf73 rfl rfl
    have hFJ73 : Fr K [(11, 14), (82, 999)] J J73 := hFJ70.trans hfj73 rfl rfl
    have oc73 := oc70.mv qM_big hf73 rfl
    have om73 := om70.mv hf73 rfl
    refine r_istore_n hC (lv' := [(3, .int x73_), (2, .int x70_), (1, .int x67_), (0, .ref a0)]) dX10_readVillage_58 (by decide) rfl ?_
    refine r_aload_n hC dX10_readVillage_59 3 rfl ?_
    refine r_geti hC 9 (ci := 10) rfl u10_in (by decide) mT_5_4 dX10_readVillage_60 ka0 rfl rfl (fun x74_ e74 => ?_)
    have f74 : x74_.toInt = (I73 a0 9).toInt := by rw [e74]
    refine r_iconst hC (v := (5)) dX10_readVillage_63 (by decide) (by decide) (fun x75_ e75 t75 => ?_)
    refine r_icmp_ne hC (tgt := 68) dX10_readVillage_64 (by decide) (fun c76 => ?_) (fun c76 => ?_)
    · exfalso; omega
    have hG0 : I73 rm 0 = G0 := (Eq.trans (hf73.get krm rfl) (Eq.trans (hf70.get krm rfl) (Eq.trans (hf67.get krm rfl) (Eq.trans (hf64.get krm rfl) (Eq.trans (hf3.get krm rfl) eG0.symm)))))
    have hG0t : (I73 rm 0).toInt = G0.toInt := congrArg Int32.toInt hG0
    have hG1 : I73 rm 1 = G1 := (Eq.trans (hf73.get krm rfl) (Eq.trans (hf70.get krm rfl) (Eq.trans (hf67.get krm rfl) (Eq.trans (hf64.get krm rfl) (Eq.trans (hf3.get krm rfl) eG1.symm)))))
    have hG1t : (I73 rm 1).toInt = G1.toInt := congrArg Int32.toInt hG1
    have hG2 : I73 rm 2 = G2 := (Eq.trans (hf73.get krm rfl) (Eq.trans (hf70.get krm rfl) (Eq.trans (hf67.get krm rfl) (Eq.trans (hf64.get krm rfl) (Eq.trans (hf3.get krm rfl) eG2.symm)))))
    have hG2t : (I73 rm 2).toInt = G2.toInt := congrArg Int32.toInt hG2
    have hG3 : I73 rm 3 = G3 := (Eq.trans (hf73.get krm rfl) (Eq.trans (hf70.get krm rfl) (Eq.trans (hf67.get krm rfl) (Eq.trans (hf64.get krm rfl) (Eq.trans (hf3.get krm rfl) eG3.symm)))))
    have hG3t : (I73 rm 3).toInt = G3.toInt := congrArg Int32.toInt hG3
    have hG4 : I73 rm 4 = G4 := (Eq.trans (hf73.get krm rfl) (Eq.trans (hf70.get krm rfl) (Eq.trans (hf67.get krm rfl) (Eq.trans (hf64.get krm rfl) (Eq.trans (hf3.get krm rfl) eG4.symm)))))
    have hG4t : (I73 rm 4).toInt = G4.toInt := congrArg Int32.toInt hG4
    have hG5 : I73 rm 5 = G5 := (Eq.trans (hf73.get krm rfl) (Eq.trans (hf70.get krm rfl) (Eq.trans (hf67.get krm rfl) (Eq.trans (hf64.get krm rfl) (Eq.trans (hf3.get krm rfl) eG5.symm)))))
    have hG5t : (I73 rm 5).toInt = G5.toInt := congrArg Int32.toInt hG5
    have hG6 : I73 rm 6 = G6 := (Eq.trans (hf73.get krm rfl) (Eq.trans (hf70.get krm rfl) (Eq.trans (hf67.get krm rfl) (Eq.trans (hf64.get krm rfl) (Eq.trans (hf3.get krm rfl) eG6.symm)))))
    have hG6t : (I73 rm 6).toInt = G6.toInt := congrArg Int32.toInt hG6
    have hG7 : I73 rm 7 = G7 := (Eq.trans (hf73.get krm rfl) (Eq.trans (hf70.get krm rfl) (Eq.trans (hf67.get krm rfl) (Eq.trans (hf64.get krm rfl) (Eq.trans (hf3.get krm rfl) eG7.symm)))))
    have hG7t : (I73 rm 7).toInt = G7.toInt := congrArg Int32.toInt hG7
    have hG8 : I73 rm 8 = x63_ := (Eq.trans (hf73.get krm rfl) (Eq.trans (hf70.get krm rfl) (Eq.trans (hf67.get krm rfl) (Eq.trans (hf64.get krm rfl) e63.symm))))
    have hG8t : (I73 rm 8).toInt = x63_.toInt := congrArg Int32.toInt hG8
    have hG9 : I73 rm 9 = G9 := (Eq.trans (hf73.get krm rfl) (Eq.trans (hf70.get krm rfl) (Eq.trans (hf67.get krm rfl) (Eq.trans (hf64.get krm rfl) (Eq.trans (hf3.get krm rfl) eG9.symm)))))
    have hG9t : (I73 rm 9).toInt = G9.toInt := congrArg Int32.toInt hG9
    have hG10 : I73 rm 10 = N1 := (Eq.trans (hf73.get krm rfl) (Eq.trans (hf70.get krm rfl) (Eq.trans (hf67.get krm rfl) eN1.symm)))
    have hG10t : (I73 rm 10).toInt = N1.toInt := congrArg Int32.toInt hG10
    exact r_vret hC hQ hlk hr (by decide) (by decide) dX10_readVillage_67 ⟨_, _, rfl, rfl, ⟨hs73, hF73, hFJ73, (by exact Or.inr ⟨5, (pl B n p), by unfold sVillage; rw [pif_t hbg], by omega, by omega, by omega⟩), (by exact om73), (by exact oc73)⟩⟩

