set_option maxHeartbeats 4000000 in
set_option maxRecDepth 100000 in
theorem f_X10_readKnower (g : GG) (l : Launch) (K len : Nat → Nat) (I : Nat → Nat → Int32) (J : Nat → Nat → Int64) (R : Nat → Nat → Option Nat) (hs : Sf K len I R) (a0 : Nat) (ka0 : K a0 = 11) (rm : Nat) (hbr : R a0 4 = some rm) (krm : K rm = 10) (mt : Nat) (hmt : R a0 5 = some mt) (kmt : K mt = 49) (nmt : len mt = 900) (B : Nat → Int) (n : Nat) (hB : BT B n mt I) (hBr : ∀ j : Nat, j < n → -128 ≤ B j ∧ B j ≤ 127) (hn : n ≤ 900) (p : Nat) (hp : p ≤ n) (tkm : TkM B n a0 p I J) (nr : Nat) (hnr : R rm 25 = some nr) (knr : K nr = 82) (lnr : len nr = 19) (ns : Nat) (hns : R rm 26 = some ns) (kns : K ns = 83) (lns : len ns = 19) (nn : Nat) (hnn : R rm 27 = some nn) (knn : K nn = 84) (lnn : len nn = 19) (D : DD) (hD : DI D) (sm : SM D rm I) (nm : NmM D nr J) (pg : PgI D ns I) (ni : NnI D ns nn I) (rwd : RW (CM rm R) (cntN D) D I) (hJ : DJ D) (p0 : kd B n p = 1) : Ct g l yX10_readKnower cX10_readKnower 3 (Option.none : Option Jvm.ClassFile.FieldType) rmX10_readKnower [.ref a0] (K, len, I, J, R) (pV2 (K, len, I, J, R) (fun I' J' => Sf K len I' R ∧ Fr K [(10, 9), (10, 10), (11, 8), (11, 9), (11, 10), (11, 11), (11, 12), (11, 13), (80, 999), (81, 999), (83, 999), (84, 999)] I I' ∧ Fr K [(11, 14), (82, 999)] J J' ∧ ((∃ (D' : DD) (p' : Nat), sKnower B n p D = .ok (D', p') ∧ p' ≤ n ∧ TkM B n a0 p' I' J' ∧ RpM D' rm nr ns I' J' ∧ NnI D' ns nn I' ∧ RW (CM rm R) (cntN D') D' I' ∧ I' a0 12 = I a0 12) ∨ (∃ (kf : Int) (qf : Nat), sKnower B n p D = .error (kf, qf) ∧ (I' a0 9).toInt = 5 ∧ (I' a0 12).toInt = kf ∧ (I' a0 13).toInt = qf)) ∧ (OM K rm I I') ∧ (OC (CM rm R) qM K I I'))) := by
  refine Ct_intro (by decide +kernel) (Nat.le_of_ble_eq_true rfl) (fun X hC hL hKK hNm hr hlk hQ => ?_)
  subst hL
  have hC : Cx g X cX10_readKnower "HillTapModel" 3 rmX10_readKnower := hC
  show P g X 3 0 [(0, .ref a0)] [] 0 0 (K, len, I, J, R)
  have hF : Fr K [(10, 9), (10, 10), (11, 8), (11, 9), (11, 10), (11, 11), (11, 12), (11, 13), (80, 999), (81, 999), (83, 999), (84, 999)] I I := Fr.refl
  have hFJ : Fr K [(11, 14), (82, 999)] J J := Fr.refl
  have ek1 := tkm.e1
  have ek2 := tkm.e2
  have ek3 := tkm.e3
  have ek4 := tkm.e4
  have ek10 := tkm.2.1
  have ek11 := tkm.2.2.2.2.2
  obtain ⟨hD0, ⟨hD1, hD2⟩, ⟨hD3, hD4⟩, ⟨hD5, hD6⟩, ⟨hD7, hD8⟩, ⟨hD9, hD10⟩, hD11, hD12⟩ := id hD
  obtain ⟨sm0, sm3, sm4, sm5, sm6, sm7, sm8, sm9, sm10⟩ := id sm
  obtain ⟨G0, eG0⟩ : ∃ z : Int32, z = I rm 0 := ⟨_, rfl⟩
  have fG0 : G0.toInt = (I rm 0).toInt := by rw [eG0]
  obtain ⟨G1, eG1⟩ : ∃ z : Int32, z = I rm 1 := ⟨_, rfl⟩
  have fG1 : G1.toInt = (I rm 1).toInt := by rw [eG1]
  obtain ⟨G2, eG2⟩ : ∃ z : Int32, z = I rm 2 := ⟨_, rfl⟩
  have fG2 : G2.toInt = (I rm 2).toInt := by rw [eG2]
  obtain ⟨G3, eG3⟩ : ∃ z : Int32, z = I rm 3 := ⟨_, rfl⟩
  have fG3 : G3.toInt = (I rm 3).toInt := by rw [eG3]
  have rG3 := hs.rng krm rfl eG3
  obtain ⟨G4, eG4⟩ : ∃ z : Int32, z = I rm 4 := ⟨_, rfl⟩
  have fG4 : G4.toInt = (I rm 4).toInt := by rw [eG4]
  have rG4 := hs.rng krm rfl eG4
  obtain ⟨G5, eG5⟩ : ∃ z : Int32, z = I rm 5 := ⟨_, rfl⟩
  have fG5 : G5.toInt = (I rm 5).toInt := by rw [eG5]
  have rG5 := hs.rng krm rfl eG5
  obtain ⟨G6, eG6⟩ : ∃ z : Int32, z = I rm 6 := ⟨_, rfl⟩
  have fG6 : G6.toInt = (I rm 6).toInt := by rw [eG6]
  have rG6 := hs.rng krm rfl eG6
  obtain ⟨G7, eG7⟩ : ∃ z : Int32, z = I rm 7 := ⟨_, rfl⟩
  have fG7 : G7.toInt = (I rm 7).toInt := by rw [eG7]
  have rG7 := hs.rng krm rfl eG7
  obtain ⟨G8, eG8⟩ : ∃ z : Int32, z = I rm 8 := ⟨_, rfl⟩
  have fG8 : G8.toInt = (I rm 8).toInt := by rw [eG8]
  have rG8 := hs.rng krm rfl eG8
  obtain ⟨G9, eG9⟩ : ∃ z : Int32, z = I rm 9 := ⟨_, rfl⟩
  have fG9 : G9.toInt = (I rm 9).toInt := by rw [eG9]
  have rG9 := hs.rng krm rfl eG9
  obtain ⟨G10, eG10⟩ : ∃ z : Int32, z = I rm 10 := ⟨_, rfl⟩
  have fG10 : G10.toInt = (I rm 10).toInt := by rw [eG10]
  have rG10 := hs.rng krm rfl eG10
  have om : OM K rm I I := OM.rf
  have hcx := CM_x hs krm
  have oc : OC (CM rm R) qM K I I := OC.rf
  refine r_aload_n hC dX10_readKnower_0 0 rfl ?_
  refine r_aload_n hC dX10_readKnower_1 0 rfl ?_
  refine r_getr hC 4 (ci := 10) rfl u10_in (by decide) mT_4_239 dX10_readKnower_2 ka0 rfl rfl hbr ?_
  refine r_getiN hC 9 (ci := 9) rfl u9_in (by decide) nF_9 dX10_readKnower_5 krm rfl rfl (fun x1_ e1 => ?_)
  have r1 := hs.rng krm rfl e1
  have f1 : x1_.toInt = (I rm 9).toInt := by rw [e1]
  have w1 : x1_ = G9 := by rw [e1]; exact eG9.symm
  have wt1 : x1_.toInt = G9.toInt := by rw [w1]
  refine r_iconst hC (v := (4)) dX10_readKnower_8 (by decide) (by decide) (fun x2_ e2 t2 => ?_)
  refine r_callV hC (As := [.int x1_, .int x2_]) (rest := []) (ci := 10) (f_X10_begins g (xL X) K len I J R hs a0 ka0 x1_ x2_ mt hmt kmt nmt B n (hB.mv9 hF kmt (fun _ => rfl)) hBr hn p hp tkm (by omega)) mT_6_19 mT_1_10 mT_6_16 mT_6_18 mP_59 okX10_begins ⟨by decide, by decide⟩ rfl (by show kO (K a0) = _; rw [ka0]; rfl) rfl rfl (Nat.le_of_ble_eq_true rfl) ⟨by decide, by decide⟩ dX10_readKnower_9 (aV2 (F := fun st M => P g X 3 12 [(0, .ref a0)] st _ _ M) (M := (K, len, I, J, R)) fun I3 J3 h3 => ?_)
  obtain ⟨hs3, hf3, hfj3, k3_0⟩ := h3
  show P g X 3 12 [(0, .ref a0)] [] _ _ (K, len, I3, J3, R)
  have hF3 : Fr K [(10, 9), (10, 10), (11, 8), (11, 9), (11, 10), (11, 11), (11, 12), (11, 13), (80, 999), (81, 999), (83, 999), (84, 999)] I I3 := hF.trans hf3 rfl rfl
  have hFJ3 : Fr K [(11, 14), (82, 999)] J J3 := hFJ.trans hfj3 rfl rfl
  have pg3 := pg.mv hf3 kns (fun _ => rfl)
  have nm3 := nm.mv hfj3 knr (fun _ => rfl)
  have oc3 := oc.mv qM_big hf3 rfl
  have rw3 := rwd.mv hcx qM_big hf3 rfl
  have om3 := om.mv hf3 rfl
  have ni3 := ni.mv hf3 kns knn (fun _ => rfl) (fun _ => rfl)
  rcases k3_0 with ⟨hr3, tk3, fl3⟩ | ⟨hr3, hf03, hf13, hf23⟩
  · have fq3 : I3 a0 12 = I a0 12 := fl3.trans rfl
    have hbg : ¬ 4 ≤ D 0 9 := by omega
    refine r_aload_n hC dX10_readKnower_12 0 rfl ?_
    refine r_iconst hC (v := (1)) dX10_readKnower_13 (by decide) (by decide) (fun x4_ e4 t4 => ?_)
    refine r_aload_n hC dX10_readKnower_14 0 rfl ?_
    refine r_getr hC 4 (ci := 10) rfl u10_in (by decide) mT_4_239 dX10_readKnower_15 ka0 rfl rfl hbr ?_
    refine r_getiN hC 9 (ci := 9) rfl u9_in (by decide) nF_9 dX10_readKnower_18 krm rfl rfl (fun x5_ e5 => ?_)
    have r5 := hs3.rng krm rfl e5
    have f5 : x5_.toInt = (I3 rm 9).toInt := by rw [e5]
    have w5 : x5_ = x1_ := by rw [e5]; exact (Eq.trans (hf3.get krm rfl) e1.symm)
    have wt5 : x5_.toInt = x1_.toInt := by rw [w5]
    have q10 : I3 rm 10 = G10 := (Eq.trans (hf3.get krm rfl) eG10.symm)
    have q10t : (I3 rm 10).toInt = G10.toInt := congrArg Int32.toInt q10
    refine r_callV hC (As := [.int x4_, .int x5_]) (rest := []) (ci := 10) (f_X10_readFresh g (xL X) K len I3 J3 R hs3 a0 ka0 x4_ x5_ rm hbr krm mt hmt kmt nmt B n (hB.mv9 hF3 kmt (fun _ => rfl)) hBr hn (nx B n p) (nx_le hp).2 tk3 nr hnr knr lnr ns hns kns lns nn hnn knn lnn D hD (by omega) nm3 (by omega)) mT_6_23 mT_1_10 mT_6_20 mT_6_22 mP_60 okX10_readFresh ⟨by decide, by decide⟩ rfl (by show kO (K a0) = _; rw [ka0]; rfl) rfl rfl (Nat.le_of_ble_eq_true rfl) ⟨by decide, by decide⟩ dX10_readKnower_21 (aV2 (F := fun st M => P g X 3 24 [(0, .ref a0)] st _ _ M) (M := (K, len, I3, J3, R)) fun I6 J6 h6 => ?_)
    obtain ⟨hs6, hf6, hfj6, k6_0, k6_1⟩ := h6
    show P g X 3 24 [(0, .ref a0)] [] _ _ (K, len, I6, J6, R)
    have hF6 : Fr K [(10, 9), (10, 10), (11, 8), (11, 9), (11, 10), (11, 11), (11, 12), (11, 13), (80, 999), (81, 999), (83, 999), (84, 999)] I I6 := hF3.trans hf6 rfl rfl
    have hFJ6 : Fr K [(11, 14), (82, 999)] J J6 := hFJ3.trans hfj6 rfl rfl
    have oc6 := oc3.mv qM_big hf6 rfl
    have rw6 := rw3.mv hcx qM_big hf6 rfl
    have om6 := om3.tr k6_1
    rcases k6_0 with ⟨hsp6, tk6, nmF6, hten6, od6, nw6, on6, nv6, fl6⟩ | ⟨kf6, qf6, hsp6, hf06, hf16, hf26⟩
    · have fq6 : I6 a0 12 = I a0 12 := fl6.trans fq3
      have pgs6 := PgI.sm (pg3) od6
      have pgf6 := PgI.other (v := (vl B n (nx B n p))) pgs6 (by omega) (sFresh_new hsp6) nw6 (by omega)
      have nis6 := NnI.sm ni3 od6 on6
      have nif6 := NnI.other (v := (vl B n (nx B n p))) nis6 nw6 (by omega)
      clear nw6 nv6
      have rwf6 := rw6.fresh (v := (vl B n (nx B n p)))
      have fz6_5 : (adN D (vl B n (nx B n p))) 0 5 = D 0 5 := adN_n (by decide)
      have fz6_9 : (adN D (vl B n (nx B n p))) 0 9 = D 0 9 := adN_n (by decide)
      have G10_6 : (I6 rm 10).toInt = D 0 10 + 1 := hten6
      obtain ⟨N1, eN1⟩ : ∃ z : Int32, z = I6 rm 10 := ⟨_, rfl⟩
      have fN1 : N1.toInt = (I6 rm 10).toInt := by rw [eN1]
      have rN1 := hs6.rng krm rfl eN1
      refine r_aload_n hC dX10_readKnower_24 0 rfl ?_
      refine r_ldcwS hC (i := 58) (by decide) rfl rfl dX10_readKnower_25 ?_
      refine r_callV hC (As := [.ref (g.2.2.1 58)]) (rest := []) (ci := 10) (f_X10_isWord g (xL X) K len I6 J6 R hs6 a0 ka0 58 (by decide) B n (nx B n (nx B n p)) (nx_le (nx_le hp).2).2 tk6 (by first | assumption | decide)) mT_5_223 mT_1_10 mT_5_220 mT_5_222 mP_53 okX10_isWord ⟨by decide, by decide⟩ rfl (by show kO (K a0) = _; rw [ka0]; rfl) rfl rfl (Nat.le_of_ble_eq_true rfl) ⟨by decide, by decide⟩ dX10_readKnower_28 (aI0 (F := fun st M => P g X 3 31 [(0, .ref a0)] st _ _ M) (M := (K, len, I6, J6, R)) fun x7_ h7 => ?_)
      have k7_0 := h7
      clear h7
      show P g X 3 31 [(0, .ref a0)] [.int x7_] _ _ (K, len, I6, J6, R)
      rcases k7_0 with ⟨hr7, hw7⟩ | ⟨hr7, hw7⟩
      · refine r_if_ne hC (tgt := 39) dX10_readKnower_31 (by decide) (fun c8 => ?_) (fun c8 => ?_)
        rotate_left
        · exfalso; omega
        refine r_aload_n hC dX10_readKnower_39 0 rfl ?_
        refine r_callV hC (As := []) (rest := []) (ci := 10) (f_X10_goesOn g (xL X) K len I6 J6 R hs6 a0 ka0 mt hmt kmt nmt B n (hB.mv9 hF6 kmt (fun _ => rfl)) hBr hn (nx B n (nx B n (nx B n p))) (nx_le (nx_le (nx_le hp).2).2).2 (tk6.e5) (tk6.2.2.1 (by first | omega | (rw [hw7.1]; decide))) (tk6.2.2.2.1)) mT_5_199 mT_1_10 mT_5_196 mT_5_198 mP_49 okX10_goesOn ⟨by decide, by decide⟩ rfl (by show kO (K a0) = _; rw [ka0]; rfl) rfl rfl (Nat.le_of_ble_eq_true rfl) ⟨by decide, by decide⟩ dX10_readKnower_40 (aV2 (F := fun st M => P g X 3 43 [(0, .ref a0)] st _ _ M) (M := (K, len, I6, J6, R)) fun I9 J9 h9 => ?_)
        obtain ⟨hs9, hf9, hfj9, k9_0⟩ := h9
        show P g X 3 43 [(0, .ref a0)] [] _ _ (K, len, I9, J9, R)
        have hF9 : Fr K [(10, 9), (10, 10), (11, 8), (11, 9), (11, 10), (11, 11), (11, 12), (11, 13), (80, 999), (81, 999), (83, 999), (84, 999)] I I9 := hF6.trans hf9 rfl rfl
        have hFJ9 : Fr K [(11, 14), (82, 999)] J J9 := hFJ6.trans hfj9 rfl rfl
        have fp9 : I9 a0 12 = I a0 12 := (hf9.get ka0 rfl).trans fq6
        have pg9 := pgf6.mv hf9 kns (fun _ => rfl)
        have nm9 := nmF6.mv hfj9 knr (fun _ => rfl)
        have oc9 := oc6.mv qM_big hf9 rfl
        have rw9 := rwf6.mv hcx qM_big hf9 rfl
        have om9 := om6.mv hf9 rfl
        have ni9 := nif6.mv hf9 kns knn (fun _ => rfl) (fun _ => rfl)
        refine r_aload_n hC dX10_readKnower_43 0 rfl ?_
        refine r_callV hC (As := []) (rest := []) (ci := 10) (f_X10_isName g (xL X) K len I9 J9 R hs9 a0 ka0 B n (nx B n (nx B n (nx B n p))) (nx_le (nx_le (nx_le hp).2).2).2 k9_0) mT_6_27 mT_1_10 mT_6_24 mT_6_26 mP_61 okX10_isName ⟨by decide, by decide⟩ rfl (by show kO (K a0) = _; rw [ka0]; rfl) rfl rfl (Nat.le_of_ble_eq_true rfl) ⟨by decide, by decide⟩ dX10_readKnower_44 (aI0 (F := fun st M => P g X 3 47 [(0, .ref a0)] st _ _ M) (M := (K, len, I9, J9, R)) fun x10_ h10 => ?_)
        have k10_0 := h10
        clear h10
        show P g X 3 47 [(0, .ref a0)] [.int x10_] _ _ (K, len, I9, J9, R)
        rcases k10_0 with ⟨hr10, hw10⟩ | ⟨hr10, hw10⟩
        · refine r_if_ne hC (tgt := 55) dX10_readKnower_47 (by decide) (fun c11 => ?_) (fun c11 => ?_)
          rotate_left
          · exfalso; omega
          refine r_aload_n hC dX10_readKnower_55 0 rfl ?_
          refine r_getr hC 4 (ci := 10) rfl u10_in (by decide) mT_4_239 dX10_readKnower_56 ka0 rfl rfl hbr ?_
          refine r_aload_n hC dX10_readKnower_59 0 rfl ?_
          refine r_getj hC 14 (ci := 10) rfl u10_in (by decide) mT_5_9 dX10_readKnower_60 ka0 rfl rfl (fun y12_ e12 => ?_)
          have fj12 : y12_.toInt = (J9 a0 14).toInt := by rw [e12]
          have hvk : y12_.toInt = vl B n (nx B n (nx B n (nx B n p))) := fj12.trans (k9_0.2.2.2.2.1 hw10.1)
          have q11 : I9 rm 10 = N1 := (Eq.trans (hf9.get krm rfl) eN1.symm)
          have q11t : (I9 rm 10).toInt = N1.toInt := congrArg Int32.toInt q11
          have F10 : (adN D (vl B n (nx B n p))) 0 10 = D 0 10 + 1 := adN_0
          refine r_callV hC (As := [.long y12_]) (rest := []) (ci := 9) (f_X9_find g (xL X) K len I9 J9 R hs9 rm krm y12_ nr hnr knr lnr (adN D (vl B n (nx B n p))) (fun j h9 => nm9 j (by omega))) mT_6_36 mT_1_17 mT_6_33 mT_6_34 mT_6_35 okX9_find ⟨by decide, by decide⟩ rfl (by show kO (K rm) = _; rw [krm]; rfl) rfl rfl (Nat.le_of_ble_eq_true rfl) ⟨by decide, by decide⟩ dX10_readKnower_63 (aI0 (F := fun st M => P g X 3 66 [(0, .ref a0)] st _ _ M) (M := (K, len, I9, J9, R)) fun x13_ h13 => ?_)
          have k13_0 := h13
          clear h13
          show P g X 3 66 [(0, .ref a0)] [.int x13_] _ _ (K, len, I9, J9, R)
          rcases k13_0 with ⟨hr13, hn13⟩ | ⟨hr13, hq13, hn13⟩
          · refine r_istore_n hC (lv' := [(1, .int x13_), (0, .ref a0)]) dX10_readKnower_66 (by decide) rfl ?_
            refine r_iload_n hC dX10_readKnower_67 0 rfl ?_
            refine r_iconst hC (v := (-1)) dX10_readKnower_68 (by decide) (by decide) (fun x14_ e14 t14 => ?_)
            refine r_icmp_eq hC (tgt := 84) dX10_readKnower_69 (by decide) (fun c15 => ?_) (fun c15 => ?_)
            rotate_left
            · exfalso; omega
            refine r_aload_n hC dX10_readKnower_84 1 rfl ?_
            refine r_iconst hC (v := (2)) dX10_readKnower_85 (by decide) (by decide) (fun x16_ e16 t16 => ?_)
            refine r_callV hC (As := [.int x16_]) (rest := []) (ci := 10) (f_X10_wrong g (xL X) K len I9 J9 R hs9 a0 ka0 x16_ (k9_0.e5)) mT_5_236 mT_1_10 mT_5_233 mT_5_235 mP_55 okX10_wrong ⟨by decide, by decide⟩ rfl (by show kO (K a0) = _; rw [ka0]; rfl) rfl rfl (Nat.le_of_ble_eq_true rfl) ⟨by decide, by decide⟩ dX10_readKnower_86 (aV1 (F := fun st M => P g X 3 89 [(1, .int x13_), (0, .ref a0)] st _ _ M) (M := (K, len, I9, J9, R)) fun I17 h17 => ?_)
            obtain ⟨hs17, hf17, k17_0, k17_1, k17_2⟩ := h17
            show P g X 3 89 [(1, .int x13_), (0, .ref a0)] [] _ _ (K, len, I17, J9, R)
            have hF17 : Fr K [(10, 9), (10, 10), (11, 8), (11, 9), (11, 10), (11, 11), (11, 12), (11, 13), (80, 999), (81, 999), (83, 999), (84, 999)] I I17 := hF9.trans hf17 rfl rfl
            have pg17 := pg9.mv hf17 kns (fun _ => rfl)
            have oc17 := oc9.mv qM_big hf17 rfl
            have rw17 := rw9.mv hcx qM_big hf17 rfl
            have om17 := om9.mv hf17 rfl
            have ni17 := ni9.mv hf17 kns knn (fun _ => rfl) (fun _ => rfl)
            have hwp17 := k9_0.2.1
            refine r_aload_n hC dX10_readKnower_89 1 rfl ?_
            refine r_callV hC (As := []) (rest := []) (ci := 10) (e_X10_goesOn g (xL X) K len I17 J9 R hs17 a0 ka0 (by omega)) mT_5_199 mT_1_10 mT_5_196 mT_5_198 mP_49 okX10_goesOn ⟨by decide, by decide⟩ rfl (by show kO (K a0) = _; rw [ka0]; rfl) rfl rfl (Nat.le_of_ble_eq_true rfl) ⟨by decide, by decide⟩ dX10_readKnower_90 (aV2 (F := fun st M => P g X 3 93 [(1, .int x13_), (0, .ref a0)] st _ _ M) (M := (K, len, I17, J9, R)) fun I18 J18 h18 => ?_)
            obtain ⟨hs18, hf18, hfj18, k18_0, k18_1, k18_2⟩ := h18
            show P g X 3 93 [(1, .int x13_), (0, .ref a0)] [] _ _ (K, len, I18, J18, R)
            have hF18 : Fr K [(10, 9), (10, 10), (11, 8), (11, 9), (11, 10), (11, 11), (11, 12), (11, 13), (80, 999), (81, 999), (83, 999), (84, 999)] I I18 := hF17.trans hf18 rfl rfl
            have hFJ18 : Fr K [(11, 14), (82, 999)] J J18 := hFJ9.trans hfj18 rfl rfl
            have oc18 := oc17.mv qM_big hf18 rfl
            have om18 := om17.mv hf18 rfl
            refine r_aload_n hC dX10_readKnower_93 1 rfl ?_
            refine r_ldcwS hC (i := 59) (by decide) rfl rfl dX10_readKnower_94 ?_
            refine r_iconst hC (v := (0)) dX10_readKnower_97 (by decide) (by decide) (fun x19_ e19 t19 => ?_)
            refine r_sipush hC (v := (999)) dX10_readKnower_98 (by decide) (by decide) (fun x20_ e20 t20 => ?_)
            refine r_callV hC (As := [.ref (g.2.2.1 59), .int x19_, .int x20_]) (rest := []) (ci := 10) (e_X10_readPart g (xL X) K len I18 J18 R hs18 a0 ka0 59 (by decide) x19_ x20_ (by omega)) mT_6_1 mT_1_10 mT_5_238 mT_6_0 mP_56 okX10_readPart ⟨by decide, by decide⟩ rfl (by show kO (K a0) = _; rw [ka0]; rfl) rfl rfl (Nat.le_of_ble_eq_true rfl) ⟨by decide, by decide⟩ dX10_readKnower_101 (aI2 (F := fun st M => P g X 3 104 [(1, .int x13_), (0, .ref a0)] st _ _ M) (M := (K, len, I18, J18, R)) fun x21_ I21 J21 h21 => ?_)
            obtain ⟨hs21, hf21, hfj21, k21_0, k21_1, k21_2⟩ := h21
            show P g X 3 104 [(1, .int x13_), (0, .ref a0)] [.int x21_] _ _ (K, len, I21, J21, R)
            have hF21 : Fr K [(10, 9), (10, 10), (11, 8), (11, 9), (11, 10), (11, 11), (11, 12), (11, 13), (80, 999), (81, 999), (83, 999), (84, 999)] I I21 := hF18.trans hf21 rfl rfl
            have hFJ21 : Fr K [(11, 14), (82, 999)] J J21 := hFJ18.trans hfj21 rfl rfl
            have oc21 := oc18.mv qM_big hf21 rfl
            have om21 := om18.mv hf21 rfl
            refine r_istore_n hC (lv' := [(2, .int x21_), (1, .int x13_), (0, .ref a0)]) dX10_readKnower_104 (by decide) rfl ?_
            refine r_aload_n hC dX10_readKnower_105 2 rfl ?_
            refine r_geti hC 9 (ci := 10) rfl u10_in (by decide) mT_5_4 dX10_readKnower_106 ka0 rfl rfl (fun x22_ e22 => ?_)
            have f22 : x22_.toInt = (I21 a0 9).toInt := by rw [e22]
            refine r_iconst hC (v := (5)) dX10_readKnower_109 (by decide) (by decide) (fun x23_ e23 t23 => ?_)
            refine r_icmp_ne hC (tgt := 114) dX10_readKnower_110 (by decide) (fun c24 => ?_) (fun c24 => ?_)
            · exfalso; omega
            have hG0 : I21 rm 0 = G0 := (Eq.trans (hf21.get krm rfl) (Eq.trans (hf18.get krm rfl) (Eq.trans (hf17.get krm rfl) (Eq.trans (hf9.get krm rfl) (Eq.trans (hf6.get krm rfl) (Eq.trans (hf3.get krm rfl) eG0.symm))))))
            have hG0t : (I21 rm 0).toInt = G0.toInt := congrArg Int32.toInt hG0
            have hG1 : I21 rm 1 = G1 := (Eq.trans (hf21.get krm rfl) (Eq.trans (hf18.get krm rfl) (Eq.trans (hf17.get krm rfl) (Eq.trans (hf9.get krm rfl) (Eq.trans (hf6.get krm rfl) (Eq.trans (hf3.get krm rfl) eG1.symm))))))
            have hG1t : (I21 rm 1).toInt = G1.toInt := congrArg Int32.toInt hG1
            have hG2 : I21 rm 2 = G2 := (Eq.trans (hf21.get krm rfl) (Eq.trans (hf18.get krm rfl) (Eq.trans (hf17.get krm rfl) (Eq.trans (hf9.get krm rfl) (Eq.trans (hf6.get krm rfl) (Eq.trans (hf3.get krm rfl) eG2.symm))))))
            have hG2t : (I21 rm 2).toInt = G2.toInt := congrArg Int32.toInt hG2
            have hG3 : I21 rm 3 = G3 := (Eq.trans (hf21.get krm rfl) (Eq.trans (hf18.get krm rfl) (Eq.trans (hf17.get krm rfl) (Eq.trans (hf9.get krm rfl) (Eq.trans (hf6.get krm rfl) (Eq.trans (hf3.get krm rfl) eG3.symm))))))
            have hG3t : (I21 rm 3).toInt = G3.toInt := congrArg Int32.toInt hG3
            have hG4 : I21 rm 4 = G4 := (Eq.trans (hf21.get krm rfl) (Eq.trans (hf18.get krm rfl) (Eq.trans (hf17.get krm rfl) (Eq.trans (hf9.get krm rfl) (Eq.trans (hf6.get krm rfl) (Eq.trans (hf3.get krm rfl) eG4.symm))))))
            have hG4t : (I21 rm 4).toInt = G4.toInt := congrArg Int32.toInt hG4
            have hG5 : I21 rm 5 = G5 := (Eq.trans (hf21.get krm rfl) (Eq.trans (hf18.get krm rfl) (Eq.trans (hf17.get krm rfl) (Eq.trans (hf9.get krm rfl) (Eq.trans (hf6.get krm rfl) (Eq.trans (hf3.get krm rfl) eG5.symm))))))
            have hG5t : (I21 rm 5).toInt = G5.toInt := congrArg Int32.toInt hG5
            have hG6 : I21 rm 6 = G6 := (Eq.trans (hf21.get krm rfl) (Eq.trans (hf18.get krm rfl) (Eq.trans (hf17.get krm rfl) (Eq.trans (hf9.get krm rfl) (Eq.trans (hf6.get krm rfl) (Eq.trans (hf3.get krm rfl) eG6.symm))))))
            have hG6t : (I21 rm 6).toInt = G6.toInt := congrArg Int32.toInt hG6
            have hG7 : I21 rm 7 = G7 := (Eq.trans (hf21.get krm rfl) (Eq.trans (hf18.get krm rfl) (Eq.trans (hf17.get krm rfl) (Eq.trans (hf9.get krm rfl) (Eq.trans (hf6.get krm rfl) (Eq.trans (hf3.get krm rfl) eG7.symm))))))
            have hG7t : (I21 rm 7).toInt = G7.toInt := congrArg Int32.toInt hG7
            have hG8 : I21 rm 8 = G8 := (Eq.trans (hf21.get krm rfl) (Eq.trans (hf18.get krm rfl) (Eq.trans (hf17.get krm rfl) (Eq.trans (hf9.get krm rfl) (Eq.trans (hf6.get krm rfl) (Eq.trans (hf3.get krm rfl) eG8.symm))))))
            have hG8t : (I21 rm 8).toInt = G8.toInt := congrArg Int32.toInt hG8
            have hG9 : I21 rm 9 = x5_ := (Eq.trans (hf21.get krm rfl) (Eq.trans (hf18.get krm rfl) (Eq.trans (hf17.get krm rfl) (Eq.trans (hf9.get krm rfl) (Eq.trans (hf6.get krm rfl) e5.symm)))))
            have hG9t : (I21 rm 9).toInt = x5_.toInt := congrArg Int32.toInt hG9
            have hG10 : I21 rm 10 = N1 := (Eq.trans (hf21.get krm rfl) (Eq.trans (hf18.get krm rfl) (Eq.trans (hf17.get krm rfl) (Eq.trans (hf9.get krm rfl) eN1.symm))))
            have hG10t : (I21 rm 10).toInt = N1.toInt := congrArg Int32.toInt hG10
            exact r_vret hC hQ hlk hr (by decide) (by decide) dX10_readKnower_113 ⟨_, _, rfl, rfl, ⟨hs21, hF21, hFJ21, (by exact Or.inr ⟨2, (pl B n (nx B n (nx B n (nx B n p)))), by unfold sKnower; rw [pif_f hbg, hsp6, bnd_ok, pif_t (show isW B n (nx B n (nx B n p)) 27 from hw7), pif_t hw10, pif_f (c := ∃ j : Nat, (j : Int) < (adN D (vl B n (nx B n p))) 0 5 ∧ (adN D (vl B n (nx B n p))) 23 j = vl B n (nx B n (nx B n (nx B n p)))) (pk_no pg9 (fun j h9 => by have h8 := hn13 j (by omega); omega))], by omega, by omega, by omega⟩), (by exact om21), (by exact oc21)⟩⟩
          · refine r_istore_n hC (lv' := [(1, .int x13_), (0, .ref a0)]) dX10_readKnower_66 (by decide) rfl ?_
            refine r_iload_n hC dX10_readKnower_67 0 rfl ?_
            refine r_iconst hC (v := (-1)) dX10_readKnower_68 (by decide) (by decide) (fun x25_ e25 t25 => ?_)
            refine r_icmp_eq hC (tgt := 84) dX10_readKnower_69 (by decide) (fun c26 => ?_) (fun c26 => ?_)
            · refine r_aload_n hC dX10_readKnower_84 1 rfl ?_
              refine r_iconst hC (v := (2)) dX10_readKnower_85 (by decide) (by decide) (fun x27_ e27 t27 => ?_)
              refine r_callV hC (As := [.int x27_]) (rest := []) (ci := 10) (f_X10_wrong g (xL X) K len I9 J9 R hs9 a0 ka0 x27_ (k9_0.e5)) mT_5_236 mT_1_10 mT_5_233 mT_5_235 mP_55 okX10_wrong ⟨by decide, by decide⟩ rfl (by show kO (K a0) = _; rw [ka0]; rfl) rfl rfl (Nat.le_of_ble_eq_true rfl) ⟨by decide, by decide⟩ dX10_readKnower_86 (aV1 (F := fun st M => P g X 3 89 [(1, .int x13_), (0, .ref a0)] st _ _ M) (M := (K, len, I9, J9, R)) fun I28 h28 => ?_)
              obtain ⟨hs28, hf28, k28_0, k28_1, k28_2⟩ := h28
              show P g X 3 89 [(1, .int x13_), (0, .ref a0)] [] _ _ (K, len, I28, J9, R)
              have hF28 : Fr K [(10, 9), (10, 10), (11, 8), (11, 9), (11, 10), (11, 11), (11, 12), (11, 13), (80, 999), (81, 999), (83, 999), (84, 999)] I I28 := hF9.trans hf28 rfl rfl
              have pg28 := pg9.mv hf28 kns (fun _ => rfl)
              have oc28 := oc9.mv qM_big hf28 rfl
              have rw28 := rw9.mv hcx qM_big hf28 rfl
              have om28 := om9.mv hf28 rfl
              have ni28 := ni9.mv hf28 kns knn (fun _ => rfl) (fun _ => rfl)
              have hwp28 := k9_0.2.1
              refine r_aload_n hC dX10_readKnower_89 1 rfl ?_
              refine r_callV hC (As := []) (rest := []) (ci := 10) (e_X10_goesOn g (xL X) K len I28 J9 R hs28 a0 ka0 (by omega)) mT_5_199 mT_1_10 mT_5_196 mT_5_198 mP_49 okX10_goesOn ⟨by decide, by decide⟩ rfl (by show kO (K a0) = _; rw [ka0]; rfl) rfl rfl (Nat.le_of_ble_eq_true rfl) ⟨by decide, by decide⟩ dX10_readKnower_90 (aV2 (F := fun st M => P g X 3 93 [(1, .int x13_), (0, .ref a0)] st _ _ M) (M := (K, len, I28, J9, R)) fun I29 J29 h29 => ?_)
              obtain ⟨hs29, hf29, hfj29, k29_0, k29_1, k29_2⟩ := h29
              show P g X 3 93 [(1, .int x13_), (0, .ref a0)] [] _ _ (K, len, I29, J29, R)
              have hF29 : Fr K [(10, 9), (10, 10), (11, 8), (11, 9), (11, 10), (11, 11), (11, 12), (11, 13), (80, 999), (81, 999), (83, 999), (84, 999)] I I29 := hF28.trans hf29 rfl rfl
              have hFJ29 : Fr K [(11, 14), (82, 999)] J J29 := hFJ9.trans hfj29 rfl rfl
              have oc29 := oc28.mv qM_big hf29 rfl
              have om29 := om28.mv hf29 rfl
              refine r_aload_n hC dX10_readKnower_93 1 rfl ?_
              refine r_ldcwS hC (i := 59) (by decide) rfl rfl dX10_readKnower_94 ?_
              refine r_iconst hC (v := (0)) dX10_readKnower_97 (by decide) (by decide) (fun x30_ e30 t30 => ?_)
              refine r_sipush hC (v := (999)) dX10_readKnower_98 (by decide) (by decide) (fun x31_ e31 t31 => ?_)
              refine r_callV hC (As := [.ref (g.2.2.1 59), .int x30_, .int x31_]) (rest := []) (ci := 10) (e_X10_readPart g (xL X) K len I29 J29 R hs29 a0 ka0 59 (by decide) x30_ x31_ (by omega)) mT_6_1 mT_1_10 mT_5_238 mT_6_0 mP_56 okX10_readPart ⟨by decide, by decide⟩ rfl (by show kO (K a0) = _; rw [ka0]; rfl) rfl rfl (Nat.le_of_ble_eq_true rfl) ⟨by decide, by decide⟩ dX10_readKnower_101 (aI2 (F := fun st M => P g X 3 104 [(1, .int x13_), (0, .ref a0)] st _ _ M) (M := (K, len, I29, J29, R)) fun x32_ I32 J32 h32 => ?_)
              obtain ⟨hs32, hf32, hfj32, k32_0, k32_1, k32_2⟩ := h32
              show P g X 3 104 [(1, .int x13_), (0, .ref a0)] [.int x32_] _ _ (K, len, I32, J32, R)
              have hF32 : Fr K [(10, 9), (10, 10), (11, 8), (11, 9), (11, 10), (11, 11), (11, 12), (11, 13), (80, 999), (81, 999), (83, 999), (84, 999)] I I32 := hF29.trans hf32 rfl rfl
              have hFJ32 : Fr K [(11, 14), (82, 999)] J J32 := hFJ29.trans hfj32 rfl rfl
              have oc32 := oc29.mv qM_big hf32 rfl
              have om32 := om29.mv hf32 rfl
              refine r_istore_n hC (lv' := [(2, .int x32_), (1, .int x13_), (0, .ref a0)]) dX10_readKnower_104 (by decide) rfl ?_
              refine r_aload_n hC dX10_readKnower_105 2 rfl ?_
              refine r_geti hC 9 (ci := 10) rfl u10_in (by decide) mT_5_4 dX10_readKnower_106 ka0 rfl rfl (fun x33_ e33 => ?_)
              have f33 : x33_.toInt = (I32 a0 9).toInt := by rw [e33]
              refine r_iconst hC (v := (5)) dX10_readKnower_109 (by decide) (by decide) (fun x34_ e34 t34 => ?_)
              refine r_icmp_ne hC (tgt := 114) dX10_readKnower_110 (by decide) (fun c35 => ?_) (fun c35 => ?_)
              · exfalso; omega
              have hG0 : I32 rm 0 = G0 := (Eq.trans (hf32.get krm rfl) (Eq.trans (hf29.get krm rfl) (Eq.trans (hf28.get krm rfl) (Eq.trans (hf9.get krm rfl) (Eq.trans (hf6.get krm rfl) (Eq.trans (hf3.get krm rfl) eG0.symm))))))
              have hG0t : (I32 rm 0).toInt = G0.toInt := congrArg Int32.toInt hG0
              have hG1 : I32 rm 1 = G1 := (Eq.trans (hf32.get krm rfl) (Eq.trans (hf29.get krm rfl) (Eq.trans (hf28.get krm rfl) (Eq.trans (hf9.get krm rfl) (Eq.trans (hf6.get krm rfl) (Eq.trans (hf3.get krm rfl) eG1.symm))))))
              have hG1t : (I32 rm 1).toInt = G1.toInt := congrArg Int32.toInt hG1
              have hG2 : I32 rm 2 = G2 := (Eq.trans (hf32.get krm rfl) (Eq.trans (hf29.get krm rfl) (Eq.trans (hf28.get krm rfl) (Eq.trans (hf9.get krm rfl) (Eq.trans (hf6.get krm rfl) (Eq.trans (hf3.get krm rfl) eG2.symm))))))
              have hG2t : (I32 rm 2).toInt = G2.toInt := congrArg Int32.toInt hG2
              have hG3 : I32 rm 3 = G3 := (Eq.trans (hf32.get krm rfl) (Eq.trans (hf29.get krm rfl) (Eq.trans (hf28.get krm rfl) (Eq.trans (hf9.get krm rfl) (Eq.trans (hf6.get krm rfl) (Eq.trans (hf3.get krm rfl) eG3.symm))))))
              have hG3t : (I32 rm 3).toInt = G3.toInt := congrArg Int32.toInt hG3
              have hG4 : I32 rm 4 = G4 := (Eq.trans (hf32.get krm rfl) (Eq.trans (hf29.get krm rfl) (Eq.trans (hf28.get krm rfl) (Eq.trans (hf9.get krm rfl) (Eq.trans (hf6.get krm rfl) (Eq.trans (hf3.get krm rfl) eG4.symm))))))
              have hG4t : (I32 rm 4).toInt = G4.toInt := congrArg Int32.toInt hG4
              have hG5 : I32 rm 5 = G5 := (Eq.trans (hf32.get krm rfl) (Eq.trans (hf29.get krm rfl) (Eq.trans (hf28.get krm rfl) (Eq.trans (hf9.get krm rfl) (Eq.trans (hf6.get krm rfl) (Eq.trans (hf3.get krm rfl) eG5.symm))))))
              have hG5t : (I32 rm 5).toInt = G5.toInt := congrArg Int32.toInt hG5
              have hG6 : I32 rm 6 = G6 := (Eq.trans (hf32.get krm rfl) (Eq.trans (hf29.get krm rfl) (Eq.trans (hf28.get krm rfl) (Eq.trans (hf9.get krm rfl) (Eq.trans (hf6.get krm rfl) (Eq.trans (hf3.get krm rfl) eG6.symm))))))
              have hG6t : (I32 rm 6).toInt = G6.toInt := congrArg Int32.toInt hG6
              have hG7 : I32 rm 7 = G7 := (Eq.trans (hf32.get krm rfl) (Eq.trans (hf29.get krm rfl) (Eq.trans (hf28.get krm rfl) (Eq.trans (hf9.get krm rfl) (Eq.trans (hf6.get krm rfl) (Eq.trans (hf3.get krm rfl) eG7.symm))))))
              have hG7t : (I32 rm 7).toInt = G7.toInt := congrArg Int32.toInt hG7
              have hG8 : I32 rm 8 = G8 := (Eq.trans (hf32.get krm rfl) (Eq.trans (hf29.get krm rfl) (Eq.trans (hf28.get krm rfl) (Eq.trans (hf9.get krm rfl) (Eq.trans (hf6.get krm rfl) (Eq.trans (hf3.get krm rfl) eG8.symm))))))
              have hG8t : (I32 rm 8).toInt = G8.toInt := congrArg Int32.toInt hG8
              have hG9 : I32 rm 9 = x5_ := (Eq.trans (hf32.get krm rfl) (Eq.trans (hf29.get krm rfl) (Eq.trans (hf28.get krm rfl) (Eq.trans (hf9.get krm rfl) (Eq.trans (hf6.get krm rfl) e5.symm)))))
              have hG9t : (I32 rm 9).toInt = x5_.toInt := congrArg Int32.toInt hG9
              have hG10 : I32 rm 10 = N1 := (Eq.trans (hf32.get krm rfl) (Eq.trans (hf29.get krm rfl) (Eq.trans (hf28.get krm rfl) (Eq.trans (hf9.get krm rfl) eN1.symm))))
              have hG10t : (I32 rm 10).toInt = N1.toInt := congrArg Int32.toInt hG10
              exact r_vret hC hQ hlk hr (by decide) (by decide) dX10_readKnower_113 ⟨_, _, rfl, rfl, ⟨hs32, hF32, hFJ32, (by exact Or.inr ⟨2, (pl B n (nx B n (nx B n (nx B n p)))), by unfold sKnower; rw [pif_f hbg, hsp6, bnd_ok, pif_t (show isW B n (nx B n (nx B n p)) 27 from hw7), pif_t hw10, pif_f (c := ∃ j : Nat, (j : Int) < (adN D (vl B n (nx B n p))) 0 5 ∧ (adN D (vl B n (nx B n p))) 23 j = vl B n (nx B n (nx B n (nx B n p)))) (fun h9 => by have h8 := (pk_iff pg9 (by omega) (hn13.trans hvk)).mpr h9; omega)], by omega, by omega, by omega⟩), (by exact om32), (by exact oc32)⟩⟩
            · refine r_aload_n hC dX10_readKnower_72 1 rfl ?_
              refine r_getr hC 4 (ci := 10) rfl u10_in (by decide) mT_4_239 dX10_readKnower_73 ka0 rfl rfl hbr ?_
              refine r_getrN hC 26 (ci := 9) rfl u9_in (by decide) nF_26 dX10_readKnower_76 krm rfl rfl hns ?_
              refine r_iload_n hC dX10_readKnower_79 0 rfl ?_
              refine x_iaload hC kns lns (by decide) rfl rfl dX10_readKnower_80 (by omega) (by omega) (fun x36_ e36 => ?_)
              have hnsx : x36_.toInt = (I9 ns x13_.toInt.toNat).toInt := by have h9 := clampI (i := x13_) (by omega); rw [e36, show x13_.toNatClampNeg = x13_.toInt.toNat by omega]
              refine r_if_eq hC (tgt := 89) dX10_readKnower_81 (by decide) (fun c37 => ?_) (fun c37 => ?_)
              · have hex : ∃ j : Nat, (j : Int) < (adN D (vl B n (nx B n p))) 0 5 ∧ (adN D (vl B n (nx B n p))) 23 j = vl B n (nx B n (nx B n (nx B n p))) := (pk_iff pg9 (by omega) (hn13.trans hvk)).mp (by omega)
                refine r_aload_n hC dX10_readKnower_89 1 rfl ?_
                refine r_callV hC (As := []) (rest := []) (ci := 10) (f_X10_goesOn g (xL X) K len I9 J9 R hs9 a0 ka0 mt hmt kmt nmt B n (hB.mv9 hF9 kmt (fun _ => rfl)) hBr hn (nx B n (nx B n (nx B n (nx B n p)))) (nx_le (nx_le (nx_le (nx_le hp).2).2).2).2 (k9_0.e5) (k9_0.2.2.1 (by first | omega | (rw [hw10.1]; decide))) (k9_0.2.2.2.1)) mT_5_199 mT_1_10 mT_5_196 mT_5_198 mP_49 okX10_goesOn ⟨by decide, by decide⟩ rfl (by show kO (K a0) = _; rw [ka0]; rfl) rfl rfl (Nat.le_of_ble_eq_true rfl) ⟨by decide, by decide⟩ dX10_readKnower_90 (aV2 (F := fun st M => P g X 3 93 [(1, .int x13_), (0, .ref a0)] st _ _ M) (M := (K, len, I9, J9, R)) fun I38 J38 h38 => ?_)
                obtain ⟨hs38, hf38, hfj38, k38_0⟩ := h38
                show P g X 3 93 [(1, .int x13_), (0, .ref a0)] [] _ _ (K, len, I38, J38, R)
                have hF38 : Fr K [(10, 9), (10, 10), (11, 8), (11, 9), (11, 10), (11, 11), (11, 12), (11, 13), (80, 999), (81, 999), (83, 999), (84, 999)] I I38 := hF9.trans hf38 rfl rfl
                have hFJ38 : Fr K [(11, 14), (82, 999)] J J38 := hFJ9.trans hfj38 rfl rfl
                have fp38 : I38 a0 12 = I a0 12 := (hf38.get ka0 rfl).trans fp9
                have pg38 := pg9.mv hf38 kns (fun _ => rfl)
                have nm38 := nm9.mv hfj38 knr (fun _ => rfl)
                have oc38 := oc9.mv qM_big hf38 rfl
                have rw38 := rw9.mv hcx qM_big hf38 rfl
                have om38 := om9.mv hf38 rfl
                have ni38 := ni9.mv hf38 kns knn (fun _ => rfl) (fun _ => rfl)
                refine r_aload_n hC dX10_readKnower_93 1 rfl ?_
                refine r_ldcwS hC (i := 59) (by decide) rfl rfl dX10_readKnower_94 ?_
                refine r_iconst hC (v := (0)) dX10_readKnower_97 (by decide) (by decide) (fun x39_ e39 t39 => ?_)
                refine r_sipush hC (v := (999)) dX10_readKnower_98 (by decide) (by decide) (fun x40_ e40 t40 => ?_)
                refine r_callV hC (As := [.ref (g.2.2.1 59), .int x39_, .int x40_]) (rest := []) (ci := 10) (f_X10_readPart g (xL X) K len I38 J38 R hs38 a0 ka0 59 (by decide) x39_ x40_ mt hmt kmt nmt B n (hB.mv9 hF38 kmt (fun _ => rfl)) hBr hn (nx B n (nx B n (nx B n (nx B n p)))) (nx_le (nx_le (nx_le (nx_le hp).2).2).2).2 k38_0 (by first | assumption | decide)) mT_6_1 mT_1_10 mT_5_238 mT_6_0 mP_56 okX10_readPart ⟨by decide, by decide⟩ rfl (by show kO (K a0) = _; rw [ka0]; rfl) rfl rfl (Nat.le_of_ble_eq_true rfl) ⟨by decide, by decide⟩ dX10_readKnower_101 (aI2 (F := fun st M => P g X 3 104 [(1, .int x13_), (0, .ref a0)] st _ _ M) (M := (K, len, I38, J38, R)) fun x41_ I41 J41 h41 => ?_)
                obtain ⟨hs41, hf41, hfj41, k41_0⟩ := h41
                show P g X 3 104 [(1, .int x13_), (0, .ref a0)] [.int x41_] _ _ (K, len, I41, J41, R)
                have hF41 : Fr K [(10, 9), (10, 10), (11, 8), (11, 9), (11, 10), (11, 11), (11, 12), (11, 13), (80, 999), (81, 999), (83, 999), (84, 999)] I I41 := hF38.trans hf41 rfl rfl
                have hFJ41 : Fr K [(11, 14), (82, 999)] J J41 := hFJ38.trans hfj41 rfl rfl
                have pg41 := pg38.mv hf41 kns (fun _ => rfl)
                have nm41 := nm38.mv hfj41 knr (fun _ => rfl)
                have oc41 := oc38.mv qM_big hf41 rfl
                have rw41 := rw38.mv hcx qM_big hf41 rfl
                have om41 := om38.mv hf41 rfl
                have ni41 := ni38.mv hf41 kns knn (fun _ => rfl) (fun _ => rfl)
                rcases k41_0 with ⟨v41, p41, hsp41, hp41, tk41, hv41, fl41⟩ | ⟨kf41, qf41, hsp41, hf041, hf141, hf241⟩
                · have fq41 : I41 a0 12 = I a0 12 := fl41.trans fp38
                  rw [show x39_.toInt = 0 by omega, show x40_.toInt = 999 by omega] at hsp41
                  have rg41 := (sNum_go (nx_le (nx_le (nx_le (nx_le hp).2).2).2).2 hsp41).2
                  refine r_istore_n hC (lv' := [(2, .int x41_), (1, .int x13_), (0, .ref a0)]) dX10_readKnower_104 (by decide) rfl ?_
                  refine r_aload_n hC dX10_readKnower_105 2 rfl ?_
                  have n5_106 := tk41.e5
                  refine r_geti hC 9 (ci := 10) rfl u10_in (by decide) mT_5_4 dX10_readKnower_106 ka0 rfl rfl (fun x42_ e42 => ?_)
                  have f42 : x42_.toInt = (I41 a0 9).toInt := by rw [e42]
                  refine r_iconst hC (v := (5)) dX10_readKnower_109 (by decide) (by decide) (fun x43_ e43 t43 => ?_)
                  refine r_icmp_ne hC (tgt := 114) dX10_readKnower_110 (by decide) (fun c44 => ?_) (fun c44 => ?_)
                  rotate_left
                  · exfalso; omega
                  refine r_aload_n hC dX10_readKnower_114 2 rfl ?_
                  refine r_getr hC 4 (ci := 10) rfl u10_in (by decide) mT_4_239 dX10_readKnower_115 ka0 rfl rfl hbr ?_
                  obtain ⟨a45_, hb45, hk45, hn45⟩ := hs41.row krm 23 80 4 (by decide) (by decide)
                  refine r_getrN hC 23 (ci := 9) rfl u9_in (by decide) nF_23 dX10_readKnower_118 krm rfl rfl hb45 ?_
                  refine r_aload_n hC dX10_readKnower_121 2 rfl ?_
                  refine r_getr hC 4 (ci := 10) rfl u10_in (by decide) mT_4_239 dX10_readKnower_122 ka0 rfl rfl hbr ?_
                  refine r_getiN hC 9 (ci := 9) rfl u9_in (by decide) nF_9 dX10_readKnower_125 krm rfl rfl (fun x46_ e46 => ?_)
                  have r46 := hs41.rng krm rfl e46
                  have f46 : x46_.toInt = (I41 rm 9).toInt := by rw [e46]
                  have w46 : x46_ = x5_ := by rw [e46]; exact (Eq.trans (hf41.get krm rfl) (Eq.trans (hf38.get krm rfl) (Eq.trans (hf9.get krm rfl) (Eq.trans (hf6.get krm rfl) e5.symm))))
                  have wt46 : x46_.toInt = x5_.toInt := by rw [w46]
                  refine r_aload_n hC dX10_readKnower_128 2 rfl ?_
                  refine r_getr hC 4 (ci := 10) rfl u10_in (by decide) mT_4_239 dX10_readKnower_129 ka0 rfl rfl hbr ?_
                  refine r_getrN hC 27 (ci := 9) rfl u9_in (by decide) nF_27 dX10_readKnower_132 krm rfl rfl hnn ?_
                  refine r_iload_n hC dX10_readKnower_135 1 rfl ?_
                  refine x_iaload hC knn lnn (by decide) rfl rfl dX10_readKnower_136 (by omega) (by omega) (fun x47_ e47 => ?_)
                  have hns0 : (I41 ns x13_.toInt.toNat).toInt = 0 := (pk_iff pg41 (by omega) (hn13.trans hvk)).mpr hex
                  have hpx : x47_.toInt = pgx (adN D (vl B n (nx B n p))) (vl B n (nx B n (nx B n (nx B n p)))) := by rw [e47, show x13_.toNatClampNeg = x13_.toInt.toNat from by have h9 := clampI (i := x13_) (by omega); omega]; exact NnI.pgx ni41 (dj_adN hJ (by omega)) (by omega) (by omega) hns0 (hn13.trans hvk)
                  refine x_iastore hC hk45 hn45 (by decide) rfl rfl dX10_readKnower_137 (by omega) (by omega) (fun I48 eI48 => ?_)
                  have hs48 := hs41.put0 eI48 hk45 (rng_arr (by decide) _) rfl (xF_arr (by decide) _) (by decide)
                  have hF48 := hF41.put eI48 hk45 (inS_arr rfl _)
                  have tkp48 := tk41.put eI48 hk45 ka0 (by decide)
                  have fp48 : I48 a0 12 = I a0 12 := (up2_kk eI48 hk45 ka0 (by decide)).trans fq41
                  have pg48 := pg41.put eI48 hk45 kns (by decide)
                  have om48 := om41.put eI48 hk45 (by first | exact Or.inr rfl | exact Or.inl (by decide) | exact Or.inl (by omega))
                  have ni48 := ni41.put eI48 hk45 kns knn (by decide) (by decide)
                  have nnz : 0 ≤ (adN D (vl B n (nx B n p))) 0 9 := by omega
                  have ix48 : x46_.toInt = (adN D (vl B n (nx B n p))) 0 9 := by omega
                  have eC48 := eI48
                  rw [clx ix48 nnz] at eC48
                  have rw48 := rw41.put hcx (r0 := 13) (j0 := ((adN D (vl B n (nx B n p))) 0 9).toNat) (w := (pgx (adN D (vl B n (nx B n p))) (vl B n (nx B n (nx B n (nx B n p)))))) (cM (r := 13) (by decide) (by decide) hb45) eC48 hpx (by rw [cnt_13]; exact Int.toNat_of_nonneg nnz) (fun h9 => absurd h9 (by decide))
                  have oc48 := oc41.put (cM (r := 13) (by decide) (by decide) hb45) eC48
                  refine r_aload_n hC dX10_readKnower_138 2 rfl ?_
                  refine r_getr hC 4 (ci := 10) rfl u10_in (by decide) mT_4_239 dX10_readKnower_139 ka0 rfl rfl hbr ?_
                  obtain ⟨a49_, hb49, hk49, hn49⟩ := hs48.row krm 24 81 4 (by decide) (by decide)
                  refine r_getrN hC 24 (ci := 9) rfl u9_in (by decide) nF_24 dX10_readKnower_142 krm rfl rfl hb49 ?_
                  refine r_aload_n hC dX10_readKnower_145 2 rfl ?_
                  refine r_getr hC 4 (ci := 10) rfl u10_in (by decide) mT_4_239 dX10_readKnower_146 ka0 rfl rfl hbr ?_
                  refine r_getiN hC 9 (ci := 9) rfl u9_in (by decide) nF_9 dX10_readKnower_149 krm rfl rfl (fun x50_ e50 => ?_)
                  have r50 := hs48.rng krm rfl e50
                  have f50 : x50_.toInt = (I48 rm 9).toInt := by rw [e50]
                  have w50 : x50_ = x46_ := by rw [e50]; exact (Eq.trans (up2_kk eI48 hk45 krm (by decide)) e46.symm)
                  have wt50 : x50_.toInt = x46_.toInt := by rw [w50]
                  refine r_iload_n hC dX10_readKnower_152 0 rfl ?_
                  refine x_iastore hC hk49 hn49 (by decide) rfl rfl dX10_readKnower_153 (by omega) (by omega) (fun I51 eI51 => ?_)
                  have hs51 := hs48.put0 eI51 hk49 (rng_arr (by decide) _) rfl (xF_arr (by decide) _) (by decide)
                  have hF51 := hF48.put eI51 hk49 (inS_arr rfl _)
                  have tkp51 := tkp48.put eI51 hk49 ka0 (by decide)
                  have fp51 : I51 a0 12 = I a0 12 := (up2_kk eI51 hk49 ka0 (by decide)).trans fp48
                  have pg51 := pg48.put eI51 hk49 kns (by decide)
                  have om51 := om48.put eI51 hk49 (by first | exact Or.inr rfl | exact Or.inl (by decide) | exact Or.inl (by omega))
                  have ni51 := ni48.put eI51 hk49 kns knn (by decide) (by decide)
                  have eC51 := eI51
                  rw [clx (wt50.trans ix48) nnz] at eC51
                  have rw51 := rw48.put hcx (r0 := 14) (j0 := ((adN D (vl B n (nx B n p))) 0 9).toNat) (w := v41) (cM (r := 14) (by decide) (by decide) hb49) eC51 hv41 (by rw [upN_o (by decide), cnt_14]; exact Int.toNat_of_nonneg nnz) (fun h9 => absurd h9 (by decide))
                  have oc51 := oc48.put (cM (r := 14) (by decide) (by decide) hb49) eC51
                  refine r_aload_n hC dX10_readKnower_154 2 rfl ?_
                  refine r_getr hC 4 (ci := 10) rfl u10_in (by decide) mT_4_239 dX10_readKnower_155 ka0 rfl rfl hbr ?_
                  refine r_dup hC dX10_readKnower_158 rfl ?_
                  refine r_getiN hC 9 (ci := 9) rfl u9_in (by decide) nF_9 dX10_readKnower_159 krm rfl rfl (fun x52_ e52 => ?_)
                  have r52 := hs51.rng krm rfl e52
                  have f52 : x52_.toInt = (I51 rm 9).toInt := by rw [e52]
                  have w52 : x52_ = x50_ := by rw [e52]; exact (Eq.trans (up2_kk eI51 hk49 krm (by decide)) e50.symm)
                  have wt52 : x52_.toInt = x50_.toInt := by rw [w52]
                  refine r_iconst hC (v := (1)) dX10_readKnower_162 (by decide) (by decide) (fun x53_ e53 t53 => ?_)
                  refine r_iadd hC dX10_readKnower_163 (fun x54_ e54 => ?_)
                  try have t54 : x54_.toInt = x52_.toInt + x53_.toInt := by rw [e54]; exact ti_add (by omega) (by omega)
                  refine r_putiN hC 9 (ci := 9) rfl u9_in tyX9_ok nmX9 (by decide) nF_9 rfl rfl rfl dX10_readKnower_164 krm rfl rfl (fun I55 eI55 => ?_)
                  have hs55 := hs51.put1 eI55 krm rfl (by omega) (by omega) rfl rfl (by decide)
                  have hF55 := hF51.put eI55 krm rfl
                  have tkp55 := tkp51.put eI55 krm ka0 (by decide)
                  have fp55 : I55 a0 12 = I a0 12 := (up2_kk eI55 krm ka0 (by decide)).trans fp51
                  have pg55 := pg51.put eI55 krm kns (by decide)
                  have om55 := om51.put eI55 krm (by first | exact Or.inr rfl | exact Or.inl (by decide) | exact Or.inl (by omega))
                  have ni55 := ni51.put eI55 krm kns knn (by decide) (by decide)
                  have rw55 := rw51.putO hcx eI55 krm rfl
                  have oc55 := oc51.putO eI55 krm rfl
                  have hG0 : I55 rm 0 = G0 := (Eq.trans (up2_at (Or.inr (by decide)) eI55) (Eq.trans (up2_kk eI51 hk49 krm (by decide)) (Eq.trans (up2_kk eI48 hk45 krm (by decide)) (Eq.trans (hf41.get krm rfl) (Eq.trans (hf38.get krm rfl) (Eq.trans (hf9.get krm rfl) (Eq.trans (hf6.get krm rfl) (Eq.trans (hf3.get krm rfl) eG0.symm))))))))
                  have hG0t : (I55 rm 0).toInt = G0.toInt := congrArg Int32.toInt hG0
                  have hG1 : I55 rm 1 = G1 := (Eq.trans (up2_at (Or.inr (by decide)) eI55) (Eq.trans (up2_kk eI51 hk49 krm (by decide)) (Eq.trans (up2_kk eI48 hk45 krm (by decide)) (Eq.trans (hf41.get krm rfl) (Eq.trans (hf38.get krm rfl) (Eq.trans (hf9.get krm rfl) (Eq.trans (hf6.get krm rfl) (Eq.trans (hf3.get krm rfl) eG1.symm))))))))
                  have hG1t : (I55 rm 1).toInt = G1.toInt := congrArg Int32.toInt hG1
                  have hG2 : I55 rm 2 = G2 := (Eq.trans (up2_at (Or.inr (by decide)) eI55) (Eq.trans (up2_kk eI51 hk49 krm (by decide)) (Eq.trans (up2_kk eI48 hk45 krm (by decide)) (Eq.trans (hf41.get krm rfl) (Eq.trans (hf38.get krm rfl) (Eq.trans (hf9.get krm rfl) (Eq.trans (hf6.get krm rfl) (Eq.trans (hf3.get krm rfl) eG2.symm))))))))
                  have hG2t : (I55 rm 2).toInt = G2.toInt := congrArg Int32.toInt hG2
                  have hG3 : I55 rm 3 = G3 := (Eq.trans (up2_at (Or.inr (by decide)) eI55) (Eq.trans (up2_kk eI51 hk49 krm (by decide)) (Eq.trans (up2_kk eI48 hk45 krm (by decide)) (Eq.trans (hf41.get krm rfl) (Eq.trans (hf38.get krm rfl) (Eq.trans (hf9.get krm rfl) (Eq.trans (hf6.get krm rfl) (Eq.trans (hf3.get krm rfl) eG3.symm))))))))
                  have hG3t : (I55 rm 3).toInt = G3.toInt := congrArg Int32.toInt hG3
                  have hG4 : I55 rm 4 = G4 := (Eq.trans (up2_at (Or.inr (by decide)) eI55) (Eq.trans (up2_kk eI51 hk49 krm (by decide)) (Eq.trans (up2_kk eI48 hk45 krm (by decide)) (Eq.trans (hf41.get krm rfl) (Eq.trans (hf38.get krm rfl) (Eq.trans (hf9.get krm rfl) (Eq.trans (hf6.get krm rfl) (Eq.trans (hf3.get krm rfl) eG4.symm))))))))
                  have hG4t : (I55 rm 4).toInt = G4.toInt := congrArg Int32.toInt hG4
                  have hG5 : I55 rm 5 = G5 := (Eq.trans (up2_at (Or.inr (by decide)) eI55) (Eq.trans (up2_kk eI51 hk49 krm (by decide)) (Eq.trans (up2_kk eI48 hk45 krm (by decide)) (Eq.trans (hf41.get krm rfl) (Eq.trans (hf38.get krm rfl) (Eq.trans (hf9.get krm rfl) (Eq.trans (hf6.get krm rfl) (Eq.trans (hf3.get krm rfl) eG5.symm))))))))
                  have hG5t : (I55 rm 5).toInt = G5.toInt := congrArg Int32.toInt hG5
                  have hG6 : I55 rm 6 = G6 := (Eq.trans (up2_at (Or.inr (by decide)) eI55) (Eq.trans (up2_kk eI51 hk49 krm (by decide)) (Eq.trans (up2_kk eI48 hk45 krm (by decide)) (Eq.trans (hf41.get krm rfl) (Eq.trans (hf38.get krm rfl) (Eq.trans (hf9.get krm rfl) (Eq.trans (hf6.get krm rfl) (Eq.trans (hf3.get krm rfl) eG6.symm))))))))
                  have hG6t : (I55 rm 6).toInt = G6.toInt := congrArg Int32.toInt hG6
                  have hG7 : I55 rm 7 = G7 := (Eq.trans (up2_at (Or.inr (by decide)) eI55) (Eq.trans (up2_kk eI51 hk49 krm (by decide)) (Eq.trans (up2_kk eI48 hk45 krm (by decide)) (Eq.trans (hf41.get krm rfl) (Eq.trans (hf38.get krm rfl) (Eq.trans (hf9.get krm rfl) (Eq.trans (hf6.get krm rfl) (Eq.trans (hf3.get krm rfl) eG7.symm))))))))
                  have hG7t : (I55 rm 7).toInt = G7.toInt := congrArg Int32.toInt hG7
                  have hG8 : I55 rm 8 = G8 := (Eq.trans (up2_at (Or.inr (by decide)) eI55) (Eq.trans (up2_kk eI51 hk49 krm (by decide)) (Eq.trans (up2_kk eI48 hk45 krm (by decide)) (Eq.trans (hf41.get krm rfl) (Eq.trans (hf38.get krm rfl) (Eq.trans (hf9.get krm rfl) (Eq.trans (hf6.get krm rfl) (Eq.trans (hf3.get krm rfl) eG8.symm))))))))
                  have hG8t : (I55 rm 8).toInt = G8.toInt := congrArg Int32.toInt hG8
                  have hG9 : I55 rm 9 = x54_ := (by rw [eI55]; exact up2_self _ _ _ _)
                  have hG9t : (I55 rm 9).toInt = x54_.toInt := congrArg Int32.toInt hG9
                  have hG10 : I55 rm 10 = N1 := (Eq.trans (up2_at (Or.inr (by decide)) eI55) (Eq.trans (up2_kk eI51 hk49 krm (by decide)) (Eq.trans (up2_kk eI48 hk45 krm (by decide)) (Eq.trans (hf41.get krm rfl) (Eq.trans (hf38.get krm rfl) (Eq.trans (hf9.get krm rfl) eN1.symm))))))
                  have hG10t : (I55 rm 10).toInt = N1.toInt := congrArg Int32.toInt hG10
                  exact r_vret hC hQ hlk hr (by decide) (by decide) dX10_readKnower_167 ⟨_, _, rfl, rfl, ⟨hs55, hF55, hFJ41, (by exact Or.inl ⟨_, _, by unfold sKnower; rw [pif_f hbg, hsp6, bnd_ok, pif_t (show isW B n (nx B n (nx B n p)) 27 from hw7), pif_t hw10, pif_t (c := ∃ j : Nat, (j : Int) < (adN D (vl B n (nx B n p))) 0 5 ∧ (adN D (vl B n (nx B n p))) 23 j = vl B n (nx B n (nx B n (nx B n p)))) hex, hsp41, bnd_ok], hp41, tkp55, ⟨sm.st (by omega) (by omega) (by omega) (by simp [upD, adN, aKno]) (by simp [upD, adN, aKno]) (by simp [upD, adN, aKno]) (by simp [upD, adN, aKno]) (by simp [upD, adN, aKno]; omega) (by simp [upD, adN, aKno]; omega) (by simp [upD, adN, aKno]; omega) (by simp [upD, adN, aKno]; omega) (by simp [upD, adN, aKno]; omega) (by simp [upD, adN, aKno]; omega) (by simp [upD, adN, aKno]; omega) (by simp [upD, adN, aKno]; omega), nm41.cg (by simp [upD, aKno]) (by intro j; simp [upD, aKno]), pg55.cg (by simp [upD, aKno]) (by intro j; simp [upD, aKno]) (by simp [upD, aKno]) (by intro j; simp [upD, aKno])⟩, ni55.cg (by simp [upD, aKno]) (by intro j; simp [upD, aKno]) (by simp [upD, aKno]) (by intro j; simp [upD, aKno]), rw55.kno (Int.toNat_of_nonneg nnz), fp55⟩), (by exact om55), (by exact oc55)⟩⟩
                · rw [show x39_.toInt = 0 by omega, show x40_.toInt = 999 by omega] at hsp41
                  refine r_istore_n hC (lv' := [(2, .int x41_), (1, .int x13_), (0, .ref a0)]) dX10_readKnower_104 (by decide) rfl ?_
                  refine r_aload_n hC dX10_readKnower_105 2 rfl ?_
                  refine r_geti hC 9 (ci := 10) rfl u10_in (by decide) mT_5_4 dX10_readKnower_106 ka0 rfl rfl (fun x56_ e56 => ?_)
                  have f56 : x56_.toInt = (I41 a0 9).toInt := by rw [e56]
                  refine r_iconst hC (v := (5)) dX10_readKnower_109 (by decide) (by decide) (fun x57_ e57 t57 => ?_)
                  refine r_icmp_ne hC (tgt := 114) dX10_readKnower_110 (by decide) (fun c58 => ?_) (fun c58 => ?_)
                  · exfalso; omega
                  have hG0 : I41 rm 0 = G0 := (Eq.trans (hf41.get krm rfl) (Eq.trans (hf38.get krm rfl) (Eq.trans (hf9.get krm rfl) (Eq.trans (hf6.get krm rfl) (Eq.trans (hf3.get krm rfl) eG0.symm)))))
                  have hG0t : (I41 rm 0).toInt = G0.toInt := congrArg Int32.toInt hG0
                  have hG1 : I41 rm 1 = G1 := (Eq.trans (hf41.get krm rfl) (Eq.trans (hf38.get krm rfl) (Eq.trans (hf9.get krm rfl) (Eq.trans (hf6.get krm rfl) (Eq.trans (hf3.get krm rfl) eG1.symm)))))
                  have hG1t : (I41 rm 1).toInt = G1.toInt := congrArg Int32.toInt hG1
                  have hG2 : I41 rm 2 = G2 := (Eq.trans (hf41.get krm rfl) (Eq.trans (hf38.get krm rfl) (Eq.trans (hf9.get krm rfl) (Eq.trans (hf6.get krm rfl) (Eq.trans (hf3.get krm rfl) eG2.symm)))))
                  have hG2t : (I41 rm 2).toInt = G2.toInt := congrArg Int32.toInt hG2
                  have hG3 : I41 rm 3 = G3 := (Eq.trans (hf41.get krm rfl) (Eq.trans (hf38.get krm rfl) (Eq.trans (hf9.get krm rfl) (Eq.trans (hf6.get krm rfl) (Eq.trans (hf3.get krm rfl) eG3.symm)))))
                  have hG3t : (I41 rm 3).toInt = G3.toInt := congrArg Int32.toInt hG3
                  have hG4 : I41 rm 4 = G4 := (Eq.trans (hf41.get krm rfl) (Eq.trans (hf38.get krm rfl) (Eq.trans (hf9.get krm rfl) (Eq.trans (hf6.get krm rfl) (Eq.trans (hf3.get krm rfl) eG4.symm)))))
                  have hG4t : (I41 rm 4).toInt = G4.toInt := congrArg Int32.toInt hG4
                  have hG5 : I41 rm 5 = G5 := (Eq.trans (hf41.get krm rfl) (Eq.trans (hf38.get krm rfl) (Eq.trans (hf9.get krm rfl) (Eq.trans (hf6.get krm rfl) (Eq.trans (hf3.get krm rfl) eG5.symm)))))
                  have hG5t : (I41 rm 5).toInt = G5.toInt := congrArg Int32.toInt hG5
                  have hG6 : I41 rm 6 = G6 := (Eq.trans (hf41.get krm rfl) (Eq.trans (hf38.get krm rfl) (Eq.trans (hf9.get krm rfl) (Eq.trans (hf6.get krm rfl) (Eq.trans (hf3.get krm rfl) eG6.symm)))))
                  have hG6t : (I41 rm 6).toInt = G6.toInt := congrArg Int32.toInt hG6
                  have hG7 : I41 rm 7 = G7 := (Eq.trans (hf41.get krm rfl) (Eq.trans (hf38.get krm rfl) (Eq.trans (hf9.get krm rfl) (Eq.trans (hf6.get krm rfl) (Eq.trans (hf3.get krm rfl) eG7.symm)))))
                  have hG7t : (I41 rm 7).toInt = G7.toInt := congrArg Int32.toInt hG7
                  have hG8 : I41 rm 8 = G8 := (Eq.trans (hf41.get krm rfl) (Eq.trans (hf38.get krm rfl) (Eq.trans (hf9.get krm rfl) (Eq.trans (hf6.get krm rfl) (Eq.trans (hf3.get krm rfl) eG8.symm)))))
                  have hG8t : (I41 rm 8).toInt = G8.toInt := congrArg Int32.toInt hG8
                  have hG9 : I41 rm 9 = x5_ := (Eq.trans (hf41.get krm rfl) (Eq.trans (hf38.get krm rfl) (Eq.trans (hf9.get krm rfl) (Eq.trans (hf6.get krm rfl) e5.symm))))
                  have hG9t : (I41 rm 9).toInt = x5_.toInt := congrArg Int32.toInt hG9
                  have hG10 : I41 rm 10 = N1 := (Eq.trans (hf41.get krm rfl) (Eq.trans (hf38.get krm rfl) (Eq.trans (hf9.get krm rfl) eN1.symm)))
                  have hG10t : (I41 rm 10).toInt = N1.toInt := congrArg Int32.toInt hG10
                  exact r_vret hC hQ hlk hr (by decide) (by decide) dX10_readKnower_113 ⟨_, _, rfl, rfl, ⟨hs41, hF41, hFJ41, (by exact Or.inr ⟨kf41, qf41, by unfold sKnower; rw [pif_f hbg, hsp6, bnd_ok, pif_t (show isW B n (nx B n (nx B n p)) 27 from hw7), pif_t hw10, pif_t (c := ∃ j : Nat, (j : Int) < (adN D (vl B n (nx B n p))) 0 5 ∧ (adN D (vl B n (nx B n p))) 23 j = vl B n (nx B n (nx B n (nx B n p)))) hex, hsp41, bnd_er], by omega, by omega, by omega⟩), (by exact om41), (by exact oc41)⟩⟩
              · refine r_aload_n hC dX10_readKnower_84 1 rfl ?_
                refine r_iconst hC (v := (2)) dX10_readKnower_85 (by decide) (by decide) (fun x59_ e59 t59 => ?_)
                refine r_callV hC (As := [.int x59_]) (rest := []) (ci := 10) (f_X10_wrong g (xL X) K len I9 J9 R hs9 a0 ka0 x59_ (k9_0.e5)) mT_5_236 mT_1_10 mT_5_233 mT_5_235 mP_55 okX10_wrong ⟨by decide, by decide⟩ rfl (by show kO (K a0) = _; rw [ka0]; rfl) rfl rfl (Nat.le_of_ble_eq_true rfl) ⟨by decide, by decide⟩ dX10_readKnower_86 (aV1 (F := fun st M => P g X 3 89 [(1, .int x13_), (0, .ref a0)] st _ _ M) (M := (K, len, I9, J9, R)) fun I60 h60 => ?_)
                obtain ⟨hs60, hf60, k60_0, k60_1, k60_2⟩ := h60
                show P g X 3 89 [(1, .int x13_), (0, .ref a0)] [] _ _ (K, len, I60, J9, R)
                have hF60 : Fr K [(10, 9), (10, 10), (11, 8), (11, 9), (11, 10), (11, 11), (11, 12), (11, 13), (80, 999), (81, 999), (83, 999), (84, 999)] I I60 := hF9.trans hf60 rfl rfl
                have pg60 := pg9.mv hf60 kns (fun _ => rfl)
                have oc60 := oc9.mv qM_big hf60 rfl
                have rw60 := rw9.mv hcx qM_big hf60 rfl
                have om60 := om9.mv hf60 rfl
                have ni60 := ni9.mv hf60 kns knn (fun _ => rfl) (fun _ => rfl)
                have hwp60 := k9_0.2.1
                refine r_aload_n hC dX10_readKnower_89 1 rfl ?_
                refine r_callV hC (As := []) (rest := []) (ci := 10) (e_X10_goesOn g (xL X) K len I60 J9 R hs60 a0 ka0 (by omega)) mT_5_199 mT_1_10 mT_5_196 mT_5_198 mP_49 okX10_goesOn ⟨by decide, by decide⟩ rfl (by show kO (K a0) = _; rw [ka0]; rfl) rfl rfl (Nat.le_of_ble_eq_true rfl) ⟨by decide, by decide⟩ dX10_readKnower_90 (aV2 (F := fun st M => P g X 3 93 [(1, .int x13_), (0, .ref a0)] st _ _ M) (M := (K, len, I60, J9, R)) fun I61 J61 h61 => ?_)
                obtain ⟨hs61, hf61, hfj61, k61_0, k61_1, k61_2⟩ := h61
                show P g X 3 93 [(1, .int x13_), (0, .ref a0)] [] _ _ (K, len, I61, J61, R)
                have hF61 : Fr K [(10, 9), (10, 10), (11, 8), (11, 9), (11, 10), (11, 11), (11, 12), (11, 13), (80, 999), (81, 999), (83, 999), (84, 999)] I I61 := hF60.trans hf61 rfl rfl
                have hFJ61 : Fr K [(11, 14), (82, 999)] J J61 := hFJ9.trans hfj61 rfl rfl
                have oc61 := oc60.mv qM_big hf61 rfl
                have om61 := om60.mv hf61 rfl
                refine r_aload_n hC dX10_readKnower_93 1 rfl ?_
                refine r_ldcwS hC (i := 59) (by decide) rfl rfl dX10_readKnower_94 ?_
                refine r_iconst hC (v := (0)) dX10_readKnower_97 (by decide) (by decide) (fun x62_ e62 t62 => ?_)
                refine r_sipush hC (v := (999)) dX10_readKnower_98 (by decide) (by decide) (fun x63_ e63 t63 => ?_)
                refine r_callV hC (As := [.ref (g.2.2.1 59), .int x62_, .int x63_]) (rest := []) (ci := 10) (e_X10_readPart g (xL X) K len I61 J61 R hs61 a0 ka0 59 (by decide) x62_ x63_ (by omega)) mT_6_1 mT_1_10 mT_5_238 mT_6_0 mP_56 okX10_readPart ⟨by decide, by decide⟩ rfl (by show kO (K a0) = _; rw [ka0]; rfl) rfl rfl (Nat.le_of_ble_eq_true rfl) ⟨by decide, by decide⟩ dX10_readKnower_101 (aI2 (F := fun st M => P g X 3 104 [(1, .int x13_), (0, .ref a0)] st _ _ M) (M := (K, len, I61, J61, R)) fun x64_ I64 J64 h64 => ?_)
                obtain ⟨hs64, hf64, hfj64, k64_0, k64_1, k64_2⟩ := h64
                show P g X 3 104 [(1, .int x13_), (0, .ref a0)] [.int x64_] _ _ (K, len, I64, J64, R)
                have hF64 : Fr K [(10, 9), (10, 10), (11, 8), (11, 9), (11, 10), (11, 11), (11, 12), (11, 13), (80, 999), (81, 999), (83, 999), (84, 999)] I I64 := hF61.trans hf64 rfl rfl
                have hFJ64 : Fr K [(11, 14), (82, 999)] J J64 := hFJ61.trans hfj64 rfl rfl
                have oc64 := oc61.mv qM_big hf64 rfl
                have om64 := om61.mv hf64 rfl
                refine r_istore_n hC (lv' := [(2, .int x64_), (1, .int x13_), (0, .ref a0)]) dX10_readKnower_104 (by decide) rfl ?_
                refine r_aload_n hC dX10_readKnower_105 2 rfl ?_
                refine r_geti hC 9 (ci := 10) rfl u10_in (by decide) mT_5_4 dX10_readKnower_106 ka0 rfl rfl (fun x65_ e65 => ?_)
                have f65 : x65_.toInt = (I64 a0 9).toInt := by rw [e65]
                refine r_iconst hC (v := (5)) dX10_readKnower_109 (by decide) (by decide) (fun x66_ e66 t66 => ?_)
                refine r_icmp_ne hC (tgt := 114) dX10_readKnower_110 (by decide) (fun c67 => ?_) (fun c67 => ?_)
                · exfalso; omega
                have hG0 : I64 rm 0 = G0 := (Eq.trans (hf64.get krm rfl) (Eq.trans (hf61.get krm rfl) (Eq.trans (hf60.get krm rfl) (Eq.trans (hf9.get krm rfl) (Eq.trans (hf6.get krm rfl) (Eq.trans (hf3.get krm rfl) eG0.symm))))))
                have hG0t : (I64 rm 0).toInt = G0.toInt := congrArg Int32.toInt hG0
                have hG1 : I64 rm 1 = G1 := (Eq.trans (hf64.get krm rfl) (Eq.trans (hf61.get krm rfl) (Eq.trans (hf60.get krm rfl) (Eq.trans (hf9.get krm rfl) (Eq.trans (hf6.get krm rfl) (Eq.trans (hf3.get krm rfl) eG1.symm))))))
                have hG1t : (I64 rm 1).toInt = G1.toInt := congrArg Int32.toInt hG1
                have hG2 : I64 rm 2 = G2 := (Eq.trans (hf64.get krm rfl) (Eq.trans (hf61.get krm rfl) (Eq.trans (hf60.get krm rfl) (Eq.trans (hf9.get krm rfl) (Eq.trans (hf6.get krm rfl) (Eq.trans (hf3.get krm rfl) eG2.symm))))))
                have hG2t : (I64 rm 2).toInt = G2.toInt := congrArg Int32.toInt hG2
                have hG3 : I64 rm 3 = G3 := (Eq.trans (hf64.get krm rfl) (Eq.trans (hf61.get krm rfl) (Eq.trans (hf60.get krm rfl) (Eq.trans (hf9.get krm rfl) (Eq.trans (hf6.get krm rfl) (Eq.trans (hf3.get krm rfl) eG3.symm))))))
                have hG3t : (I64 rm 3).toInt = G3.toInt := congrArg Int32.toInt hG3
                have hG4 : I64 rm 4 = G4 := (Eq.trans (hf64.get krm rfl) (Eq.trans (hf61.get krm rfl) (Eq.trans (hf60.get krm rfl) (Eq.trans (hf9.get krm rfl) (Eq.trans (hf6.get krm rfl) (Eq.trans (hf3.get krm rfl) eG4.symm))))))
                have hG4t : (I64 rm 4).toInt = G4.toInt := congrArg Int32.toInt hG4
                have hG5 : I64 rm 5 = G5 := (Eq.trans (hf64.get krm rfl) (Eq.trans (hf61.get krm rfl) (Eq.trans (hf60.get krm rfl) (Eq.trans (hf9.get krm rfl) (Eq.trans (hf6.get krm rfl) (Eq.trans (hf3.get krm rfl) eG5.symm))))))
                have hG5t : (I64 rm 5).toInt = G5.toInt := congrArg Int32.toInt hG5
                have hG6 : I64 rm 6 = G6 := (Eq.trans (hf64.get krm rfl) (Eq.trans (hf61.get krm rfl) (Eq.trans (hf60.get krm rfl) (Eq.trans (hf9.get krm rfl) (Eq.trans (hf6.get krm rfl) (Eq.trans (hf3.get krm rfl) eG6.symm))))))
                have hG6t : (I64 rm 6).toInt = G6.toInt := congrArg Int32.toInt hG6
                have hG7 : I64 rm 7 = G7 := (Eq.trans (hf64.get krm rfl) (Eq.trans (hf61.get krm rfl) (Eq.trans (hf60.get krm rfl) (Eq.trans (hf9.get krm rfl) (Eq.trans (hf6.get krm rfl) (Eq.trans (hf3.get krm rfl) eG7.symm))))))
                have hG7t : (I64 rm 7).toInt = G7.toInt := congrArg Int32.toInt hG7
                have hG8 : I64 rm 8 = G8 := (Eq.trans (hf64.get krm rfl) (Eq.trans (hf61.get krm rfl) (Eq.trans (hf60.get krm rfl) (Eq.trans (hf9.get krm rfl) (Eq.trans (hf6.get krm rfl) (Eq.trans (hf3.get krm rfl) eG8.symm))))))
                have hG8t : (I64 rm 8).toInt = G8.toInt := congrArg Int32.toInt hG8
                have hG9 : I64 rm 9 = x5_ := (Eq.trans (hf64.get krm rfl) (Eq.trans (hf61.get krm rfl) (Eq.trans (hf60.get krm rfl) (Eq.trans (hf9.get krm rfl) (Eq.trans (hf6.get krm rfl) e5.symm)))))
                have hG9t : (I64 rm 9).toInt = x5_.toInt := congrArg Int32.toInt hG9
                have hG10 : I64 rm 10 = N1 := (Eq.trans (hf64.get krm rfl) (Eq.trans (hf61.get krm rfl) (Eq.trans (hf60.get krm rfl) (Eq.trans (hf9.get krm rfl) eN1.symm))))
                have hG10t : (I64 rm 10).toInt = N1.toInt := congrArg Int32.toInt hG10
                exact r_vret hC hQ hlk hr (by decide) (by decide) dX10_readKnower_113 ⟨_, _, rfl, rfl, ⟨hs64, hF64, hFJ64, (by exact Or.inr ⟨2, (pl B n (nx B n (nx B n (nx B n p)))), by unfold sKnower; rw [pif_f hbg, hsp6, bnd_ok, pif_t (show isW B n (nx B n (nx B n p)) 27 from hw7), pif_t hw10, pif_f (c := ∃ j : Nat, (j : Int) < (adN D (vl B n (nx B n p))) 0 5 ∧ (adN D (vl B n (nx B n p))) 23 j = vl B n (nx B n (nx B n (nx B n p)))) (fun h9 => by have h8 := (pk_iff pg9 (by omega) (hn13.trans hvk)).mpr h9; omega)], by omega, by omega, by omega⟩), (by exact om64), (by exact oc64)⟩⟩
        · refine r_if_ne hC (tgt := 55) dX10_readKnower_47 (by decide) (fun c68 => ?_) (fun c68 => ?_)
          · exfalso; omega
          refine r_aload_n hC dX10_readKnower_50 0 rfl ?_
          refine r_iconst hC (v := (1)) dX10_readKnower_51 (by decide) (by decide) (fun x69_ e69 t69 => ?_)
          refine r_callV hC (As := [.int x69_]) (rest := []) (ci := 10) (f_X10_wrong g (xL X) K len I9 J9 R hs9 a0 ka0 x69_ (k9_0.e5)) mT_5_236 mT_1_10 mT_5_233 mT_5_235 mP_55 okX10_wrong ⟨by decide, by decide⟩ rfl (by show kO (K a0) = _; rw [ka0]; rfl) rfl rfl (Nat.le_of_ble_eq_true rfl) ⟨by decide, by decide⟩ dX10_readKnower_52 (aV1 (F := fun st M => P g X 3 55 [(0, .ref a0)] st _ _ M) (M := (K, len, I9, J9, R)) fun I70 h70 => ?_)
          obtain ⟨hs70, hf70, k70_0, k70_1, k70_2⟩ := h70
          show P g X 3 55 [(0, .ref a0)] [] _ _ (K, len, I70, J9, R)
          have hF70 : Fr K [(10, 9), (10, 10), (11, 8), (11, 9), (11, 10), (11, 11), (11, 12), (11, 13), (80, 999), (81, 999), (83, 999), (84, 999)] I I70 := hF9.trans hf70 rfl rfl
          have pg70 := pg9.mv hf70 kns (fun _ => rfl)
          have oc70 := oc9.mv qM_big hf70 rfl
          have rw70 := rw9.mv hcx qM_big hf70 rfl
          have om70 := om9.mv hf70 rfl
          have ni70 := ni9.mv hf70 kns knn (fun _ => rfl) (fun _ => rfl)
          have hwp70 := k9_0.2.1
          refine r_aload_n hC dX10_readKnower_55 0 rfl ?_
          refine r_getr hC 4 (ci := 10) rfl u10_in (by decide) mT_4_239 dX10_readKnower_56 ka0 rfl rfl hbr ?_
          refine r_aload_n hC dX10_readKnower_59 0 rfl ?_
          refine r_getj hC 14 (ci := 10) rfl u10_in (by decide) mT_5_9 dX10_readKnower_60 ka0 rfl rfl (fun y71_ e71 => ?_)
          have fj71 : y71_.toInt = (J9 a0 14).toInt := by rw [e71]
          refine r_callV hC (As := [.long y71_]) (rest := []) (ci := 9) (c_X9_find g (xL X) K len I70 J9 R hs70 rm krm y71_) mT_6_36 mT_1_17 mT_6_33 mT_6_34 mT_6_35 okX9_find ⟨by decide, by decide⟩ rfl (by show kO (K rm) = _; rw [krm]; rfl) rfl rfl (Nat.le_of_ble_eq_true rfl) ⟨by decide, by decide⟩ dX10_readKnower_63 (aI0 (F := fun st M => P g X 3 66 [(0, .ref a0)] st _ _ M) (M := (K, len, I70, J9, R)) fun x72_ h72 => ?_)
          obtain ⟨k72_0, k72_1⟩ := h72
          show P g X 3 66 [(0, .ref a0)] [.int x72_] _ _ (K, len, I70, J9, R)
          refine r_istore_n hC (lv' := [(1, .int x72_), (0, .ref a0)]) dX10_readKnower_66 (by decide) rfl ?_
          refine r_iload_n hC dX10_readKnower_67 0 rfl ?_
          refine r_iconst hC (v := (-1)) dX10_readKnower_68 (by decide) (by decide) (fun x73_ e73 t73 => ?_)
          refine r_icmp_eq hC (tgt := 84) dX10_readKnower_69 (by decide) (fun c74 => ?_) (fun c74 => ?_)
          · refine r_aload_n hC dX10_readKnower_84 1 rfl ?_
            refine r_iconst hC (v := (2)) dX10_readKnower_85 (by decide) (by decide) (fun x75_ e75 t75 => ?_)
            refine r_callV hC (As := [.int x75_]) (rest := []) (ci := 10) (e_X10_wrong g (xL X) K len I70 J9 R hs70 a0 ka0 x75_ (by omega)) mT_5_236 mT_1_10 mT_5_233 mT_5_235 mP_55 okX10_wrong ⟨by decide, by decide⟩ rfl (by show kO (K a0) = _; rw [ka0]; rfl) rfl rfl (Nat.le_of_ble_eq_true rfl) ⟨by decide, by decide⟩ dX10_readKnower_86 (aV1 (F := fun st M => P g X 3 89 [(1, .int x72_), (0, .ref a0)] st _ _ M) (M := (K, len, I70, J9, R)) fun I76 h76 => ?_)
            obtain ⟨hs76, hf76, k76_0, k76_1, k76_2⟩ := h76
            show P g X 3 89 [(1, .int x72_), (0, .ref a0)] [] _ _ (K, len, I76, J9, R)
            have hF76 : Fr K [(10, 9), (10, 10), (11, 8), (11, 9), (11, 10), (11, 11), (11, 12), (11, 13), (80, 999), (81, 999), (83, 999), (84, 999)] I I76 := hF70.trans hf76 rfl rfl
            have oc76 := oc70.mv qM_big hf76 rfl
            have om76 := om70.mv hf76 rfl
            refine r_aload_n hC dX10_readKnower_89 1 rfl ?_
            refine r_callV hC (As := []) (rest := []) (ci := 10) (e_X10_goesOn g (xL X) K len I76 J9 R hs76 a0 ka0 (by omega)) mT_5_199 mT_1_10 mT_5_196 mT_5_198 mP_49 okX10_goesOn ⟨by decide, by decide⟩ rfl (by show kO (K a0) = _; rw [ka0]; rfl) rfl rfl (Nat.le_of_ble_eq_true rfl) ⟨by decide, by decide⟩ dX10_readKnower_90 (aV2 (F := fun st M => P g X 3 93 [(1, .int x72_), (0, .ref a0)] st _ _ M) (M := (K, len, I76, J9, R)) fun I77 J77 h77 => ?_)
            obtain ⟨hs77, hf77, hfj77, k77_0, k77_1, k77_2⟩ := h77
            show P g X 3 93 [(1, .int x72_), (0, .ref a0)] [] _ _ (K, len, I77, J77, R)
            have hF77 : Fr K [(10, 9), (10, 10), (11, 8), (11, 9), (11, 10), (11, 11), (11, 12), (11, 13), (80, 999), (81, 999), (83, 999), (84, 999)] I I77 := hF76.trans hf77 rfl rfl
            have hFJ77 : Fr K [(11, 14), (82, 999)] J J77 := hFJ9.trans hfj77 rfl rfl
            have oc77 := oc76.mv qM_big hf77 rfl
            have om77 := om76.mv hf77 rfl
            refine r_aload_n hC dX10_readKnower_93 1 rfl ?_
            refine r_ldcwS hC (i := 59) (by decide) rfl rfl dX10_readKnower_94 ?_
            refine r_iconst hC (v := (0)) dX10_readKnower_97 (by decide) (by decide) (fun x78_ e78 t78 => ?_)
            refine r_sipush hC (v := (999)) dX10_readKnower_98 (by decide) (by decide) (fun x79_ e79 t79 => ?_)
            refine r_callV hC (As := [.ref (g.2.2.1 59), .int x78_, .int x79_]) (rest := []) (ci := 10) (e_X10_readPart g (xL X) K len I77 J77 R hs77 a0 ka0 59 (by decide) x78_ x79_ (by omega)) mT_6_1 mT_1_10 mT_5_238 mT_6_0 mP_56 okX10_readPart ⟨by decide, by decide⟩ rfl (by show kO (K a0) = _; rw [ka0]; rfl) rfl rfl (Nat.le_of_ble_eq_true rfl) ⟨by decide, by decide⟩ dX10_readKnower_101 (aI2 (F := fun st M => P g X 3 104 [(1, .int x72_), (0, .ref a0)] st _ _ M) (M := (K, len, I77, J77, R)) fun x80_ I80 J80 h80 => ?_)
            obtain ⟨hs80, hf80, hfj80, k80_0, k80_1, k80_2⟩ := h80
            show P g X 3 104 [(1, .int x72_), (0, .ref a0)] [.int x80_] _ _ (K, len, I80, J80, R)
            have hF80 : Fr K [(10, 9), (10, 10), (11, 8), (11, 9), (11, 10), (11, 11), (11, 12), (11, 13), (80, 999), (81, 999), (83, 999), (84, 999)] I I80 := hF77.trans hf80 rfl rfl
            have hFJ80 : Fr K [(11, 14), (82, 999)] J J80 := hFJ77.trans hfj80 rfl rfl
            have oc80 := oc77.mv qM_big hf80 rfl
            have om80 := om77.mv hf80 rfl
            refine r_istore_n hC (lv' := [(2, .int x80_), (1, .int x72_), (0, .ref a0)]) dX10_readKnower_104 (by decide) rfl ?_
            refine r_aload_n hC dX10_readKnower_105 2 rfl ?_
            refine r_geti hC 9 (ci := 10) rfl u10_in (by decide) mT_5_4 dX10_readKnower_106 ka0 rfl rfl (fun x81_ e81 => ?_)
            have f81 : x81_.toInt = (I80 a0 9).toInt := by rw [e81]
            refine r_iconst hC (v := (5)) dX10_readKnower_109 (by decide) (by decide) (fun x82_ e82 t82 => ?_)
            refine r_icmp_ne hC (tgt := 114) dX10_readKnower_110 (by decide) (fun c83 => ?_) (fun c83 => ?_)
            · exfalso; omega
            have hG0 : I80 rm 0 = G0 := (Eq.trans (hf80.get krm rfl) (Eq.trans (hf77.get krm rfl) (Eq.trans (hf76.get krm rfl) (Eq.trans (hf70.get krm rfl) (Eq.trans (hf9.get krm rfl) (Eq.trans (hf6.get krm rfl) (Eq.trans (hf3.get krm rfl) eG0.symm)))))))
            have hG0t : (I80 rm 0).toInt = G0.toInt := congrArg Int32.toInt hG0
            have hG1 : I80 rm 1 = G1 := (Eq.trans (hf80.get krm rfl) (Eq.trans (hf77.get krm rfl) (Eq.trans (hf76.get krm rfl) (Eq.trans (hf70.get krm rfl) (Eq.trans (hf9.get krm rfl) (Eq.trans (hf6.get krm rfl) (Eq.trans (hf3.get krm rfl) eG1.symm)))))))
            have hG1t : (I80 rm 1).toInt = G1.toInt := congrArg Int32.toInt hG1
            have hG2 : I80 rm 2 = G2 := (Eq.trans (hf80.get krm rfl) (Eq.trans (hf77.get krm rfl) (Eq.trans (hf76.get krm rfl) (Eq.trans (hf70.get krm rfl) (Eq.trans (hf9.get krm rfl) (Eq.trans (hf6.get krm rfl) (Eq.trans (hf3.get krm rfl) eG2.symm)))))))
            have hG2t : (I80 rm 2).toInt = G2.toInt := congrArg Int32.toInt hG2
            have hG3 : I80 rm 3 = G3 := (Eq.trans (hf80.get krm rfl) (Eq.trans (hf77.get krm rfl) (Eq.trans (hf76.get krm rfl) (Eq.trans (hf70.get krm rfl) (Eq.trans (hf9.get krm rfl) (Eq.trans (hf6.get krm rfl) (Eq.trans (hf3.get krm rfl) eG3.symm)))))))
            have hG3t : (I80 rm 3).toInt = G3.toInt := congrArg Int32.toInt hG3
            have hG4 : I80 rm 4 = G4 := (Eq.trans (hf80.get krm rfl) (Eq.trans (hf77.get krm rfl) (Eq.trans (hf76.get krm rfl) (Eq.trans (hf70.get krm rfl) (Eq.trans (hf9.get krm rfl) (Eq.trans (hf6.get krm rfl) (Eq.trans (hf3.get krm rfl) eG4.symm)))))))
            have hG4t : (I80 rm 4).toInt = G4.toInt := congrArg Int32.toInt hG4
            have hG5 : I80 rm 5 = G5 := (Eq.trans (hf80.get krm rfl) (Eq.trans (hf77.get krm rfl) (Eq.trans (hf76.get krm rfl) (Eq.trans (hf70.get krm rfl) (Eq.trans (hf9.get krm rfl) (Eq.trans (hf6.get krm rfl) (Eq.trans (hf3.get krm rfl) eG5.symm)))))))
            have hG5t : (I80 rm 5).toInt = G5.toInt := congrArg Int32.toInt hG5
            have hG6 : I80 rm 6 = G6 := (Eq.trans (hf80.get krm rfl) (Eq.trans (hf77.get krm rfl) (Eq.trans (hf76.get krm rfl) (Eq.trans (hf70.get krm rfl) (Eq.trans (hf9.get krm rfl) (Eq.trans (hf6.get krm rfl) (Eq.trans (hf3.get krm rfl) eG6.symm)))))))
            have hG6t : (I80 rm 6).toInt = G6.toInt := congrArg Int32.toInt hG6
            have hG7 : I80 rm 7 = G7 := (Eq.trans (hf80.get krm rfl) (Eq.trans (hf77.get krm rfl) (Eq.trans (hf76.get krm rfl) (Eq.trans (hf70.get krm rfl) (Eq.trans (hf9.get krm rfl) (Eq.trans (hf6.get krm rfl) (Eq.trans (hf3.get krm rfl) eG7.symm)))))))
            have hG7t : (I80 rm 7).toInt = G7.toInt := congrArg Int32.toInt hG7
            have hG8 : I80 rm 8 = G8 := (Eq.trans (hf80.get krm rfl) (Eq.trans (hf77.get krm rfl) (Eq.trans (hf76.get krm rfl) (Eq.trans (hf70.get krm rfl) (Eq.trans (hf9.get krm rfl) (Eq.trans (hf6.get krm rfl) (Eq.trans (hf3.get krm rfl) eG8.symm)))))))
            have hG8t : (I80 rm 8).toInt = G8.toInt := congrArg Int32.toInt hG8
            have hG9 : I80 rm 9 = x5_ := (Eq.trans (hf80.get krm rfl) (Eq.trans (hf77.get krm rfl) (Eq.trans (hf76.get krm rfl) (Eq.trans (hf70.get krm rfl) (Eq.trans (hf9.get krm rfl) (Eq.trans (hf6.get krm rfl) e5.symm))))))
            have hG9t : (I80 rm 9).toInt = x5_.toInt := congrArg Int32.toInt hG9
            have hG10 : I80 rm 10 = N1 := (Eq.trans (hf80.get krm rfl) (Eq.trans (hf77.get krm rfl) (Eq.trans (hf76.get krm rfl) (Eq.trans (hf70.get krm rfl) (Eq.trans (hf9.get krm rfl) eN1.symm)))))
            have hG10t : (I80 rm 10).toInt = N1.toInt := congrArg Int32.toInt hG10
            exact r_vret hC hQ hlk hr (by decide) (by decide) dX10_readKnower_113 ⟨_, _, rfl, rfl, ⟨hs80, hF80, hFJ80, (by exact Or.inr ⟨1, (pl B n (nx B n (nx B n (nx B n p)))), by unfold sKnower; rw [pif_f hbg, hsp6, bnd_ok, pif_t (show isW B n (nx B n (nx B n p)) 27 from hw7), pif_f hw10], by omega, by omega, by omega⟩), (by exact om80), (by exact oc80)⟩⟩
          · refine r_aload_n hC dX10_readKnower_72 1 rfl ?_
            refine r_getr hC 4 (ci := 10) rfl u10_in (by decide) mT_4_239 dX10_readKnower_73 ka0 rfl rfl hbr ?_
            refine r_getrN hC 26 (ci := 9) rfl u9_in (by decide) nF_26 dX10_readKnower_76 krm rfl rfl hns ?_
            refine r_iload_n hC dX10_readKnower_79 0 rfl ?_
            refine x_iaload hC kns lns (by decide) rfl rfl dX10_readKnower_80 (by omega) (by omega) (fun x84_ e84 => ?_)
            refine r_if_eq hC (tgt := 89) dX10_readKnower_81 (by decide) (fun c85 => ?_) (fun c85 => ?_)
            · refine r_aload_n hC dX10_readKnower_89 1 rfl ?_
              refine r_callV hC (As := []) (rest := []) (ci := 10) (e_X10_goesOn g (xL X) K len I70 J9 R hs70 a0 ka0 (by omega)) mT_5_199 mT_1_10 mT_5_196 mT_5_198 mP_49 okX10_goesOn ⟨by decide, by decide⟩ rfl (by show kO (K a0) = _; rw [ka0]; rfl) rfl rfl (Nat.le_of_ble_eq_true rfl) ⟨by decide, by decide⟩ dX10_readKnower_90 (aV2 (F := fun st M => P g X 3 93 [(1, .int x72_), (0, .ref a0)] st _ _ M) (M := (K, len, I70, J9, R)) fun I86 J86 h86 => ?_)
              obtain ⟨hs86, hf86, hfj86, k86_0, k86_1, k86_2⟩ := h86
              show P g X 3 93 [(1, .int x72_), (0, .ref a0)] [] _ _ (K, len, I86, J86, R)
              have hF86 : Fr K [(10, 9), (10, 10), (11, 8), (11, 9), (11, 10), (11, 11), (11, 12), (11, 13), (80, 999), (81, 999), (83, 999), (84, 999)] I I86 := hF70.trans hf86 rfl rfl
              have hFJ86 : Fr K [(11, 14), (82, 999)] J J86 := hFJ9.trans hfj86 rfl rfl
              have oc86 := oc70.mv qM_big hf86 rfl
              have om86 := om70.mv hf86 rfl
              refine r_aload_n hC dX10_readKnower_93 1 rfl ?_
              refine r_ldcwS hC (i := 59) (by decide) rfl rfl dX10_readKnower_94 ?_
              refine r_iconst hC (v := (0)) dX10_readKnower_97 (by decide) (by decide) (fun x87_ e87 t87 => ?_)
              refine r_sipush hC (v := (999)) dX10_readKnower_98 (by decide) (by decide) (fun x88_ e88 t88 => ?_)
              refine r_callV hC (As := [.ref (g.2.2.1 59), .int x87_, .int x88_]) (rest := []) (ci := 10) (e_X10_readPart g (xL X) K len I86 J86 R hs86 a0 ka0 59 (by decide) x87_ x88_ (by omega)) mT_6_1 mT_1_10 mT_5_238 mT_6_0 mP_56 okX10_readPart ⟨by decide, by decide⟩ rfl (by show kO (K a0) = _; rw [ka0]; rfl) rfl rfl (Nat.le_of_ble_eq_true rfl) ⟨by decide, by decide⟩ dX10_readKnower_101 (aI2 (F := fun st M => P g X 3 104 [(1, .int x72_), (0, .ref a0)] st _ _ M) (M := (K, len, I86, J86, R)) fun x89_ I89 J89 h89 => ?_)
              obtain ⟨hs89, hf89, hfj89, k89_0, k89_1, k89_2⟩ := h89
              show P g X 3 104 [(1, .int x72_), (0, .ref a0)] [.int x89_] _ _ (K, len, I89, J89, R)
              have hF89 : Fr K [(10, 9), (10, 10), (11, 8), (11, 9), (11, 10), (11, 11), (11, 12), (11, 13), (80, 999), (81, 999), (83, 999), (84, 999)] I I89 := hF86.trans hf89 rfl rfl
              have hFJ89 : Fr K [(11, 14), (82, 999)] J J89 := hFJ86.trans hfj89 rfl rfl
              have oc89 := oc86.mv qM_big hf89 rfl
              have om89 := om86.mv hf89 rfl
              refine r_istore_n hC (lv' := [(2, .int x89_), (1, .int x72_), (0, .ref a0)]) dX10_readKnower_104 (by decide) rfl ?_
              refine r_aload_n hC dX10_readKnower_105 2 rfl ?_
              refine r_geti hC 9 (ci := 10) rfl u10_in (by decide) mT_5_4 dX10_readKnower_106 ka0 rfl rfl (fun x90_ e90 => ?_)
              have f90 : x90_.toInt = (I89 a0 9).toInt := by rw [e90]
              refine r_iconst hC (v := (5)) dX10_readKnower_109 (by decide) (by decide) (fun x91_ e91 t91 => ?_)
              refine r_icmp_ne hC (tgt := 114) dX10_readKnower_110 (by decide) (fun c92 => ?_) (fun c92 => ?_)
              · exfalso; omega
              have hG0 : I89 rm 0 = G0 := (Eq.trans (hf89.get krm rfl) (Eq.trans (hf86.get krm rfl) (Eq.trans (hf70.get krm rfl) (Eq.trans (hf9.get krm rfl) (Eq.trans (hf6.get krm rfl) (Eq.trans (hf3.get krm rfl) eG0.symm))))))
              have hG0t : (I89 rm 0).toInt = G0.toInt := congrArg Int32.toInt hG0
              have hG1 : I89 rm 1 = G1 := (Eq.trans (hf89.get krm rfl) (Eq.trans (hf86.get krm rfl) (Eq.trans (hf70.get krm rfl) (Eq.trans (hf9.get krm rfl) (Eq.trans (hf6.get krm rfl) (Eq.trans (hf3.get krm rfl) eG1.symm))))))
              have hG1t : (I89 rm 1).toInt = G1.toInt := congrArg Int32.toInt hG1
              have hG2 : I89 rm 2 = G2 := (Eq.trans (hf89.get krm rfl) (Eq.trans (hf86.get krm rfl) (Eq.trans (hf70.get krm rfl) (Eq.trans (hf9.get krm rfl) (Eq.trans (hf6.get krm rfl) (Eq.trans (hf3.get krm rfl) eG2.symm))))))
              have hG2t : (I89 rm 2).toInt = G2.toInt := congrArg Int32.toInt hG2
              have hG3 : I89 rm 3 = G3 := (Eq.trans (hf89.get krm rfl) (Eq.trans (hf86.get krm rfl) (Eq.trans (hf70.get krm rfl) (Eq.trans (hf9.get krm rfl) (Eq.trans (hf6.get krm rfl) (Eq.trans (hf3.get krm rfl) eG3.symm))))))
              have hG3t : (I89 rm 3).toInt = G3.toInt := congrArg Int32.toInt hG3
              have hG4 : I89 rm 4 = G4 := (Eq.trans (hf89.get krm rfl) (Eq.trans (hf86.get krm rfl) (Eq.trans (hf70.get krm rfl) (Eq.trans (hf9.get krm rfl) (Eq.trans (hf6.get krm rfl) (Eq.trans (hf3.get krm rfl) eG4.symm))))))
              have hG4t : (I89 rm 4).toInt = G4.toInt := congrArg Int32.toInt hG4
              have hG5 : I89 rm 5 = G5 := (Eq.trans (hf89.get krm rfl) (Eq.trans (hf86.get krm rfl) (Eq.trans (hf70.get krm rfl) (Eq.trans (hf9.get krm rfl) (Eq.trans (hf6.get krm rfl) (Eq.trans (hf3.get krm rfl) eG5.symm))))))
              have hG5t : (I89 rm 5).toInt = G5.toInt := congrArg Int32.toInt hG5
              have hG6 : I89 rm 6 = G6 := (Eq.trans (hf89.get krm rfl) (Eq.trans (hf86.get krm rfl) (Eq.trans (hf70.get krm rfl) (Eq.trans (hf9.get krm rfl) (Eq.trans (hf6.get krm rfl) (Eq.trans (hf3.get krm rfl) eG6.symm))))))
              have hG6t : (I89 rm 6).toInt = G6.toInt := congrArg Int32.toInt hG6
              have hG7 : I89 rm 7 = G7 := (Eq.trans (hf89.get krm rfl) (Eq.trans (hf86.get krm rfl) (Eq.trans (hf70.get krm rfl) (Eq.trans (hf9.get krm rfl) (Eq.trans (hf6.get krm rfl) (Eq.trans (hf3.get krm rfl) eG7.symm))))))
              have hG7t : (I89 rm 7).toInt = G7.toInt := congrArg Int32.toInt hG7
              have hG8 : I89 rm 8 = G8 := (Eq.trans (hf89.get krm rfl) (Eq.trans (hf86.get krm rfl) (Eq.trans (hf70.get krm rfl) (Eq.trans (hf9.get krm rfl) (Eq.trans (hf6.get krm rfl) (Eq.trans (hf3.get krm rfl) eG8.symm))))))
              have hG8t : (I89 rm 8).toInt = G8.toInt := congrArg Int32.toInt hG8
              have hG9 : I89 rm 9 = x5_ := (Eq.trans (hf89.get krm rfl) (Eq.trans (hf86.get krm rfl) (Eq.trans (hf70.get krm rfl) (Eq.trans (hf9.get krm rfl) (Eq.trans (hf6.get krm rfl) e5.symm)))))
              have hG9t : (I89 rm 9).toInt = x5_.toInt := congrArg Int32.toInt hG9
              have hG10 : I89 rm 10 = N1 := (Eq.trans (hf89.get krm rfl) (Eq.trans (hf86.get krm rfl) (Eq.trans (hf70.get krm rfl) (Eq.trans (hf9.get krm rfl) eN1.symm))))
              have hG10t : (I89 rm 10).toInt = N1.toInt := congrArg Int32.toInt hG10
              exact r_vret hC hQ hlk hr (by decide) (by decide) dX10_readKnower_113 ⟨_, _, rfl, rfl, ⟨hs89, hF89, hFJ89, (by exact Or.inr ⟨1, (pl B n (nx B n (nx B n (nx B n p)))), by unfold sKnower; rw [pif_f hbg, hsp6, bnd_ok, pif_t (show isW B n (nx B n (nx B n p)) 27 from hw7), pif_f hw10], by omega, by omega, by omega⟩), (by exact om89), (by exact oc89)⟩⟩
            · refine r_aload_n hC dX10_readKnower_84 1 rfl ?_
              refine r_iconst hC (v := (2)) dX10_readKnower_85 (by decide) (by decide) (fun x93_ e93 t93 => ?_)
              refine r_callV hC (As := [.int x93_]) (rest := []) (ci := 10) (e_X10_wrong g (xL X) K len I70 J9 R hs70 a0 ka0 x93_ (by omega)) mT_5_236 mT_1_10 mT_5_233 mT_5_235 mP_55 okX10_wrong ⟨by decide, by decide⟩ rfl (by show kO (K a0) = _; rw [ka0]; rfl) rfl rfl (Nat.le_of_ble_eq_true rfl) ⟨by decide, by decide⟩ dX10_readKnower_86 (aV1 (F := fun st M => P g X 3 89 [(1, .int x72_), (0, .ref a0)] st _ _ M) (M := (K, len, I70, J9, R)) fun I94 h94 => ?_)
              obtain ⟨hs94, hf94, k94_0, k94_1, k94_2⟩ := h94
              show P g X 3 89 [(1, .int x72_), (0, .ref a0)] [] _ _ (K, len, I94, J9, R)
              have hF94 : Fr K [(10, 9), (10, 10), (11, 8), (11, 9), (11, 10), (11, 11), (11, 12), (11, 13), (80, 999), (81, 999), (83, 999), (84, 999)] I I94 := hF70.trans hf94 rfl rfl
              have oc94 := oc70.mv qM_big hf94 rfl
              have om94 := om70.mv hf94 rfl
              refine r_aload_n hC dX10_readKnower_89 1 rfl ?_
              refine r_callV hC (As := []) (rest := []) (ci := 10) (e_X10_goesOn g (xL X) K len I94 J9 R hs94 a0 ka0 (by omega)) mT_5_199 mT_1_10 mT_5_196 mT_5_198 mP_49 okX10_goesOn ⟨by decide, by decide⟩ rfl (by show kO (K a0) = _; rw [ka0]; rfl) rfl rfl (Nat.le_of_ble_eq_true rfl) ⟨by decide, by decide⟩ dX10_readKnower_90 (aV2 (F := fun st M => P g X 3 93 [(1, .int x72_), (0, .ref a0)] st _ _ M) (M := (K, len, I94, J9, R)) fun I95 J95 h95 => ?_)
              obtain ⟨hs95, hf95, hfj95, k95_0, k95_1, k95_2⟩ := h95
              show P g X 3 93 [(1, .int x72_), (0, .ref a0)] [] _ _ (K, len, I95, J95, R)
              have hF95 : Fr K [(10, 9), (10, 10), (11, 8), (11, 9), (11, 10), (11, 11), (11, 12), (11, 13), (80, 999), (81, 999), (83, 999), (84, 999)] I I95 := hF94.trans hf95 rfl rfl
              have hFJ95 : Fr K [(11, 14), (82, 999)] J J95 := hFJ9.trans hfj95 rfl rfl
              have oc95 := oc94.mv qM_big hf95 rfl
              have om95 := om94.mv hf95 rfl
              refine r_aload_n hC dX10_readKnower_93 1 rfl ?_
              refine r_ldcwS hC (i := 59) (by decide) rfl rfl dX10_readKnower_94 ?_
              refine r_iconst hC (v := (0)) dX10_readKnower_97 (by decide) (by decide) (fun x96_ e96 t96 => ?_)
              refine r_sipush hC (v := (999)) dX10_readKnower_98 (by decide) (by decide) (fun x97_ e97 t97 => ?_)
              refine r_callV hC (As := [.ref (g.2.2.1 59), .int x96_, .int x97_]) (rest := []) (ci := 10) (e_X10_readPart g (xL X) K len I95 J95 R hs95 a0 ka0 59 (by decide) x96_ x97_ (by omega)) mT_6_1 mT_1_10 mT_5_238 mT_6_0 mP_56 okX10_readPart ⟨by decide, by decide⟩ rfl (by show kO (K a0) = _; rw [ka0]; rfl) rfl rfl (Nat.le_of_ble_eq_true rfl) ⟨by decide, by decide⟩ dX10_readKnower_101 (aI2 (F := fun st M => P g X 3 104 [(1, .int x72_), (0, .ref a0)] st _ _ M) (M := (K, len, I95, J95, R)) fun x98_ I98 J98 h98 => ?_)
              obtain ⟨hs98, hf98, hfj98, k98_0, k98_1, k98_2⟩ := h98
              show P g X 3 104 [(1, .int x72_), (0, .ref a0)] [.int x98_] _ _ (K, len, I98, J98, R)
              have hF98 : Fr K [(10, 9), (10, 10), (11, 8), (11, 9), (11, 10), (11, 11), (11, 12), (11, 13), (80, 999), (81, 999), (83, 999), (84, 999)] I I98 := hF95.trans hf98 rfl rfl
              have hFJ98 : Fr K [(11, 14), (82, 999)] J J98 := hFJ95.trans hfj98 rfl rfl
              have oc98 := oc95.mv qM_big hf98 rfl
              have om98 := om95.mv hf98 rfl
              refine r_istore_n hC (lv' := [(2, .int x98_), (1, .int x72_), (0, .ref a0)]) dX10_readKnower_104 (by decide) rfl ?_
              refine r_aload_n hC dX10_readKnower_105 2 rfl ?_
              refine r_geti hC 9 (ci := 10) rfl u10_in (by decide) mT_5_4 dX10_readKnower_106 ka0 rfl rfl (fun x99_ e99 => ?_)
              have f99 : x99_.toInt = (I98 a0 9).toInt := by rw [e99]
              refine r_iconst hC (v := (5)) dX10_readKnower_109 (by decide) (by decide) (fun x100_ e100 t100 => ?_)
              refine r_icmp_ne hC (tgt := 114) dX10_readKnower_110 (by decide) (fun c101 => ?_) (fun c101 => ?_)
              · exfalso; omega
              have hG0 : I98 rm 0 = G0 := (Eq.trans (hf98.get krm rfl) (Eq.trans (hf95.get krm rfl) (Eq.trans (hf94.get krm rfl) (Eq.trans (hf70.get krm rfl) (Eq.trans (hf9.get krm rfl) (Eq.trans (hf6.get krm rfl) (Eq.trans (hf3.get krm rfl) eG0.symm)))))))
              have hG0t : (I98 rm 0).toInt = G0.toInt := congrArg Int32.toInt hG0
              have hG1 : I98 rm 1 = G1 := (Eq.trans (hf98.get krm rfl) (Eq.trans (hf95.get krm rfl) (Eq.trans (hf94.get krm rfl) (Eq.trans (hf70.get krm rfl) (Eq.trans (hf9.get krm rfl) (Eq.trans (hf6.get krm rfl) (Eq.trans (hf3.get krm rfl) eG1.symm)))))))
              have hG1t : (I98 rm 1).toInt = G1.toInt := congrArg Int32.toInt hG1
              have hG2 : I98 rm 2 = G2 := (Eq.trans (hf98.get krm rfl) (Eq.trans (hf95.get krm rfl) (Eq.trans (hf94.get krm rfl) (Eq.trans (hf70.get krm rfl) (Eq.trans (hf9.get krm rfl) (Eq.trans (hf6.get krm rfl) (Eq.trans (hf3.get krm rfl) eG2.symm)))))))
              have hG2t : (I98 rm 2).toInt = G2.toInt := congrArg Int32.toInt hG2
              have hG3 : I98 rm 3 = G3 := (Eq.trans (hf98.get krm rfl) (Eq.trans (hf95.get krm rfl) (Eq.trans (hf94.get krm rfl) (Eq.trans (hf70.get krm rfl) (Eq.trans (hf9.get krm rfl) (Eq.trans (hf6.get krm rfl) (Eq.trans (hf3.get krm rfl) eG3.symm)))))))
              have hG3t : (I98 rm 3).toInt = G3.toInt := congrArg Int32.toInt hG3
              have hG4 : I98 rm 4 = G4 := (Eq.trans (hf98.get krm rfl) (Eq.trans (hf95.get krm rfl) (Eq.trans (hf94.get krm rfl) (Eq.trans (hf70.get krm rfl) (Eq.trans (hf9.get krm rfl) (Eq.trans (hf6.get krm rfl) (Eq.trans (hf3.get krm rfl) eG4.symm)))))))
              have hG4t : (I98 rm 4).toInt = G4.toInt := congrArg Int32.toInt hG4
              have hG5 : I98 rm 5 = G5 := (Eq.trans (hf98.get krm rfl) (Eq.trans (hf95.get krm rfl) (Eq.trans (hf94.get krm rfl) (Eq.trans (hf70.get krm rfl) (Eq.trans (hf9.get krm rfl) (Eq.trans (hf6.get krm rfl) (Eq.trans (hf3.get krm rfl) eG5.symm)))))))
              have hG5t : (I98 rm 5).toInt = G5.toInt := congrArg Int32.toInt hG5
              have hG6 : I98 rm 6 = G6 := (Eq.trans (hf98.get krm rfl) (Eq.trans (hf95.get krm rfl) (Eq.trans (hf94.get krm rfl) (Eq.trans (hf70.get krm rfl) (Eq.trans (hf9.get krm rfl) (Eq.trans (hf6.get krm rfl) (Eq.trans (hf3.get krm rfl) eG6.symm)))))))
              have hG6t : (I98 rm 6).toInt = G6.toInt := congrArg Int32.toInt hG6
              have hG7 : I98 rm 7 = G7 := (Eq.trans (hf98.get krm rfl) (Eq.trans (hf95.get krm rfl) (Eq.trans (hf94.get krm rfl) (Eq.trans (hf70.get krm rfl) (Eq.trans (hf9.get krm rfl) (Eq.trans (hf6.get krm rfl) (Eq.trans (hf3.get krm rfl) eG7.symm)))))))
              have hG7t : (I98 rm 7).toInt = G7.toInt := congrArg Int32.toInt hG7
              have hG8 : I98 rm 8 = G8 := (Eq.trans (hf98.get krm rfl) (Eq.trans (hf95.get krm rfl) (Eq.trans (hf94.get krm rfl) (Eq.trans (hf70.get krm rfl) (Eq.trans (hf9.get krm rfl) (Eq.trans (hf6.get krm rfl) (Eq.trans (hf3.get krm rfl) eG8.symm)))))))
              have hG8t : (I98 rm 8).toInt = G8.toInt := congrArg Int32.toInt hG8
              have hG9 : I98 rm 9 = x5_ := (Eq.trans (hf98.get krm rfl) (Eq.trans (hf95.get krm rfl) (Eq.trans (hf94.get krm rfl) (Eq.trans (hf70.get krm rfl) (Eq.trans (hf9.get krm rfl) (Eq.trans (hf6.get krm rfl) e5.symm))))))
              have hG9t : (I98 rm 9).toInt = x5_.toInt := congrArg Int32.toInt hG9
              have hG10 : I98 rm 10 = N1 := (Eq.trans (hf98.get krm rfl) (Eq.trans (hf95.get krm rfl) (Eq.trans (hf94.get krm rfl) (Eq.trans (hf70.get krm rfl) (Eq.trans (hf9.get krm rfl) eN1.symm)))))
              have hG10t : (I98 rm 10).toInt = N1.toInt := congrArg Int32.toInt hG10
              exact r_vret hC hQ hlk hr (by decide) (by decide) dX10_readKnower_113 ⟨_, _, rfl, rfl, ⟨hs98, hF98, hFJ98, (by exact Or.inr ⟨1, (pl B n (nx B n (nx B n (nx B n p)))), by unfold sKnower; rw [pif_f hbg, hsp6, bnd_ok, pif_t (show isW B n (nx B n (nx B n p)) 27 from hw7), pif_f hw10], by omega, by omega, by omega⟩), (by exact om98), (by exact oc98)⟩⟩
      · refine r_if_ne hC (tgt := 39) dX10_readKnower_31 (by decide) (fun c102 => ?_) (fun c102 => ?_)
        · exfalso; omega
        refine r_aload_n hC dX10_readKnower_34 0 rfl ?_
        refine r_iconst hC (v := (1)) dX10_readKnower_35 (by decide) (by decide) (fun x103_ e103 t103 => ?_)
        refine r_callV hC (As := [.int x103_]) (rest := []) (ci := 10) (f_X10_wrong g (xL X) K len I6 J6 R hs6 a0 ka0 x103_ (tk6.e5)) mT_5_236 mT_1_10 mT_5_233 mT_5_235 mP_55 okX10_wrong ⟨by decide, by decide⟩ rfl (by show kO (K a0) = _; rw [ka0]; rfl) rfl rfl (Nat.le_of_ble_eq_true rfl) ⟨by decide, by decide⟩ dX10_readKnower_36 (aV1 (F := fun st M => P g X 3 39 [(0, .ref a0)] st _ _ M) (M := (K, len, I6, J6, R)) fun I104 h104 => ?_)
        obtain ⟨hs104, hf104, k104_0, k104_1, k104_2⟩ := h104
        show P g X 3 39 [(0, .ref a0)] [] _ _ (K, len, I104, J6, R)
        have hF104 : Fr K [(10, 9), (10, 10), (11, 8), (11, 9), (11, 10), (11, 11), (11, 12), (11, 13), (80, 999), (81, 999), (83, 999), (84, 999)] I I104 := hF6.trans hf104 rfl rfl
        have pg104 := pgf6.mv hf104 kns (fun _ => rfl)
        have oc104 := oc6.mv qM_big hf104 rfl
        have rw104 := rwf6.mv hcx qM_big hf104 rfl
        have om104 := om6.mv hf104 rfl
        have ni104 := nif6.mv hf104 kns knn (fun _ => rfl) (fun _ => rfl)
        have hwp104 := tk6.2.1
        refine r_aload_n hC dX10_readKnower_39 0 rfl ?_
        refine r_callV hC (As := []) (rest := []) (ci := 10) (e_X10_goesOn g (xL X) K len I104 J6 R hs104 a0 ka0 (by omega)) mT_5_199 mT_1_10 mT_5_196 mT_5_198 mP_49 okX10_goesOn ⟨by decide, by decide⟩ rfl (by show kO (K a0) = _; rw [ka0]; rfl) rfl rfl (Nat.le_of_ble_eq_true rfl) ⟨by decide, by decide⟩ dX10_readKnower_40 (aV2 (F := fun st M => P g X 3 43 [(0, .ref a0)] st _ _ M) (M := (K, len, I104, J6, R)) fun I105 J105 h105 => ?_)
        obtain ⟨hs105, hf105, hfj105, k105_0, k105_1, k105_2⟩ := h105
        show P g X 3 43 [(0, .ref a0)] [] _ _ (K, len, I105, J105, R)
        have hF105 : Fr K [(10, 9), (10, 10), (11, 8), (11, 9), (11, 10), (11, 11), (11, 12), (11, 13), (80, 999), (81, 999), (83, 999), (84, 999)] I I105 := hF104.trans hf105 rfl rfl
        have hFJ105 : Fr K [(11, 14), (82, 999)] J J105 := hFJ6.trans hfj105 rfl rfl
        have oc105 := oc104.mv qM_big hf105 rfl
        have om105 := om104.mv hf105 rfl
        refine r_aload_n hC dX10_readKnower_43 0 rfl ?_
        refine r_callV hC (As := []) (rest := []) (ci := 10) (e_X10_isName g (xL X) K len I105 J105 R hs105 a0 ka0 (by omega)) mT_6_27 mT_1_10 mT_6_24 mT_6_26 mP_61 okX10_isName ⟨by decide, by decide⟩ rfl (by show kO (K a0) = _; rw [ka0]; rfl) rfl rfl (Nat.le_of_ble_eq_true rfl) ⟨by decide, by decide⟩ dX10_readKnower_44 (aI0 (F := fun st M => P g X 3 47 [(0, .ref a0)] st _ _ M) (M := (K, len, I105, J105, R)) fun x106_ h106 => ?_)
        have k106_0 := h106
        clear h106
        show P g X 3 47 [(0, .ref a0)] [.int x106_] _ _ (K, len, I105, J105, R)
        refine r_if_ne hC (tgt := 55) dX10_readKnower_47 (by decide) (fun c107 => ?_) (fun c107 => ?_)
        · exfalso; omega
        refine r_aload_n hC dX10_readKnower_50 0 rfl ?_
        refine r_iconst hC (v := (1)) dX10_readKnower_51 (by decide) (by decide) (fun x108_ e108 t108 => ?_)
        refine r_callV hC (As := [.int x108_]) (rest := []) (ci := 10) (e_X10_wrong g (xL X) K len I105 J105 R hs105 a0 ka0 x108_ (by omega)) mT_5_236 mT_1_10 mT_5_233 mT_5_235 mP_55 okX10_wrong ⟨by decide, by decide⟩ rfl (by show kO (K a0) = _; rw [ka0]; rfl) rfl rfl (Nat.le_of_ble_eq_true rfl) ⟨by decide, by decide⟩ dX10_readKnower_52 (aV1 (F := fun st M => P g X 3 55 [(0, .ref a0)] st _ _ M) (M := (K, len, I105, J105, R)) fun I109 h109 => ?_)
        obtain ⟨hs109, hf109, k109_0, k109_1, k109_2⟩ := h109
        show P g X 3 55 [(0, .ref a0)] [] _ _ (K, len, I109, J105, R)
        have hF109 : Fr K [(10, 9), (10, 10), (11, 8), (11, 9), (11, 10), (11, 11), (11, 12), (11, 13), (80, 999), (81, 999), (83, 999), (84, 999)] I I109 := hF105.trans hf109 rfl rfl
        have oc109 := oc105.mv qM_big hf109 rfl
        have om109 := om105.mv hf109 rfl
        refine r_aload_n hC dX10_readKnower_55 0 rfl ?_
        refine r_getr hC 4 (ci := 10) rfl u10_in (by decide) mT_4_239 dX10_readKnower_56 ka0 rfl rfl hbr ?_
        refine r_aload_n hC dX10_readKnower_59 0 rfl ?_
        refine r_getj hC 14 (ci := 10) rfl u10_in (by decide) mT_5_9 dX10_readKnower_60 ka0 rfl rfl (fun y110_ e110 => ?_)
        have fj110 : y110_.toInt = (J105 a0 14).toInt := by rw [e110]
        refine r_callV hC (As := [.long y110_]) (rest := []) (ci := 9) (c_X9_find g (xL X) K len I109 J105 R hs109 rm krm y110_) mT_6_36 mT_1_17 mT_6_33 mT_6_34 mT_6_35 okX9_find ⟨by decide, by decide⟩ rfl (by show kO (K rm) = _; rw [krm]; rfl) rfl rfl (Nat.le_of_ble_eq_true rfl) ⟨by decide, by decide⟩ dX10_readKnower_63 (aI0 (F := fun st M => P g X 3 66 [(0, .ref a0)] st _ _ M) (M := (K, len, I109, J105, R)) fun x111_ h111 => ?_)
        obtain ⟨k111_0, k111_1⟩ := h111
        show P g X 3 66 [(0, .ref a0)] [.int x111_] _ _ (K, len, I109, J105, R)
        refine r_istore_n hC (lv' := [(1, .int x111_), (0, .ref a0)]) dX10_readKnower_66 (by decide) rfl ?_
        refine r_iload_n hC dX10_readKnower_67 0 rfl ?_
        refine r_iconst hC (v := (-1)) dX10_readKnower_68 (by decide) (by decide) (fun x112_ e112 t112 => ?_)
        refine r_icmp_eq hC (tgt := 84) dX10_readKnower_69 (by decide) (fun c113 => ?_) (fun c113 => ?_)
        · refine r_aload_n hC dX10_readKnower_84 1 rfl ?_
          refine r_iconst hC (v := (2)) dX10_readKnower_85 (by decide) (by decide) (fun x114_ e114 t114 => ?_)
          refine r_callV hC (As := [.int x114_]) (rest := []) (ci := 10) (e_X10_wrong g (xL X) K len I109 J105 R hs109 a0 ka0 x114_ (by omega)) mT_5_236 mT_1_10 mT_5_233 mT_5_235 mP_55 okX10_wrong ⟨by decide, by decide⟩ rfl (by show kO (K a0) = _; rw [ka0]; rfl) rfl rfl (Nat.le_of_ble_eq_true rfl) ⟨by decide, by decide⟩ dX10_readKnower_86 (aV1 (F := fun st M => P g X 3 89 [(1, .int x111_), (0, .ref a0)] st _ _ M) (M := (K, len, I109, J105, R)) fun I115 h115 => ?_)
          obtain ⟨hs115, hf115, k115_0, k115_1, k115_2⟩ := h115
          show P g X 3 89 [(1, .int x111_), (0, .ref a0)] [] _ _ (K, len, I115, J105, R)
          have hF115 : Fr K [(10, 9), (10, 10), (11, 8), (11, 9), (11, 10), (11, 11), (11, 12), (11, 13), (80, 999), (81, 999), (83, 999), (84, 999)] I I115 := hF109.trans hf115 rfl rfl
          have oc115 := oc109.mv qM_big hf115 rfl
          have om115 := om109.mv hf115 rfl
          refine r_aload_n hC dX10_readKnower_89 1 rfl ?_
          refine r_callV hC (As := []) (rest := []) (ci := 10) (e_X10_goesOn g (xL X) K len I115 J105 R hs115 a0 ka0 (by omega)) mT_5_199 mT_1_10 mT_5_196 mT_5_198 mP_49 okX10_goesOn ⟨by decide, by decide⟩ rfl (by show kO (K a0) = _; rw [ka0]; rfl) rfl rfl (Nat.le_of_ble_eq_true rfl) ⟨by decide, by decide⟩ dX10_readKnower_90 (aV2 (F := fun st M => P g X 3 93 [(1, .int x111_), (0, .ref a0)] st _ _ M) (M := (K, len, I115, J105, R)) fun I116 J116 h116 => ?_)
          obtain ⟨hs116, hf116, hfj116, k116_0, k116_1, k116_2⟩ := h116
          show P g X 3 93 [(1, .int x111_), (0, .ref a0)] [] _ _ (K, len, I116, J116, R)
          have hF116 : Fr K [(10, 9), (10, 10), (11, 8), (11, 9), (11, 10), (11, 11), (11, 12), (11, 13), (80, 999), (81, 999), (83, 999), (84, 999)] I I116 := hF115.trans hf116 rfl rfl
          have hFJ116 : Fr K [(11, 14), (82, 999)] J J116 := hFJ105.trans hfj116 rfl rfl
          have oc116 := oc115.mv qM_big hf116 rfl
          have om116 := om115.mv hf116 rfl
          refine r_aload_n hC dX10_readKnower_93 1 rfl ?_
          refine r_ldcwS hC (i := 59) (by decide) rfl rfl dX10_readKnower_94 ?_
          refine r_iconst hC (v := (0)) dX10_readKnower_97 (by decide) (by decide) (fun x117_ e117 t117 => ?_)
          refine r_sipush hC (v := (999)) dX10_readKnower_98 (by decide) (by decide) (fun x118_ e118 t118 => ?_)
          refine r_callV hC (As := [.ref (g.2.2.1 59), .int x117_, .int x118_]) (rest := []) (ci := 10) (e_X10_readPart g (xL X) K len I116 J116 R hs116 a0 ka0 59 (by decide) x117_ x118_ (by omega)) mT_6_1 mT_1_10 mT_5_238 mT_6_0 mP_56 okX10_readPart ⟨by decide, by decide⟩ rfl (by show kO (K a0) = _; rw [ka0]; rfl) rfl rfl (Nat.le_of_ble_eq_true rfl) ⟨by decide, by decide⟩ dX10_readKnower_101 (aI2 (F := fun st M => P g X 3 104 [(1, .int x111_), (0, .ref a0)] st _ _ M) (M := (K, len, I116, J116, R)) fun x119_ I119 J119 h119 => ?_)
          obtain ⟨hs119, hf119, hfj119, k119_0, k119_1, k119_2⟩ := h119
          show P g X 3 104 [(1, .int x111_), (0, .ref a0)] [.int x119_] _ _ (K, len, I119, J119, R)
          have hF119 : Fr K [(10, 9), (10, 10), (11, 8), (11, 9), (11, 10), (11, 11), (11, 12), (11, 13), (80, 999), (81, 999), (83, 999), (84, 999)] I I119 := hF116.trans hf119 rfl rfl
          have hFJ119 : Fr K [(11, 14), (82, 999)] J J119 := hFJ116.trans hfj119 rfl rfl
          have oc119 := oc116.mv qM_big hf119 rfl
          have om119 := om116.mv hf119 rfl
          refine r_istore_n hC (lv' := [(2, .int x119_), (1, .int x111_), (0, .ref a0)]) dX10_readKnower_104 (by decide) rfl ?_
          refine r_aload_n hC dX10_readKnower_105 2 rfl ?_
          refine r_geti hC 9 (ci := 10) rfl u10_in (by decide) mT_5_4 dX10_readKnower_106 ka0 rfl rfl (fun x120_ e120 => ?_)
          have f120 : x120_.toInt = (I119 a0 9).toInt := by rw [e120]
          refine r_iconst hC (v := (5)) dX10_readKnower_109 (by decide) (by decide) (fun x121_ e121 t121 => ?_)
          refine r_icmp_ne hC (tgt := 114) dX10_readKnower_110 (by decide) (fun c122 => ?_) (fun c122 => ?_)
          · exfalso; omega
          have hG0 : I119 rm 0 = G0 := (Eq.trans (hf119.get krm rfl) (Eq.trans (hf116.get krm rfl) (Eq.trans (hf115.get krm rfl) (Eq.trans (hf109.get krm rfl) (Eq.trans (hf105.get krm rfl) (Eq.trans (hf104.get krm rfl) (Eq.trans (hf6.get krm rfl) (Eq.trans (hf3.get krm rfl) eG0.symm))))))))
          have hG0t : (I119 rm 0).toInt = G0.toInt := congrArg Int32.toInt hG0
          have hG1 : I119 rm 1 = G1 := (Eq.trans (hf119.get krm rfl) (Eq.trans (hf116.get krm rfl) (Eq.trans (hf115.get krm rfl) (Eq.trans (hf109.get krm rfl) (Eq.trans (hf105.get krm rfl) (Eq.trans (hf104.get krm rfl) (Eq.trans (hf6.get krm rfl) (Eq.trans (hf3.get krm rfl) eG1.symm))))))))
          have hG1t : (I119 rm 1).toInt = G1.toInt := congrArg Int32.toInt hG1
          have hG2 : I119 rm 2 = G2 := (Eq.trans (hf119.get krm rfl) (Eq.trans (hf116.get krm rfl) (Eq.trans (hf115.get krm rfl) (Eq.trans (hf109.get krm rfl) (Eq.trans (hf105.get krm rfl) (Eq.trans (hf104.get krm rfl) (Eq.trans (hf6.get krm rfl) (Eq.trans (hf3.get krm rfl) eG2.symm))))))))
          have hG2t : (I119 rm 2).toInt = G2.toInt := congrArg Int32.toInt hG2
          have hG3 : I119 rm 3 = G3 := (Eq.trans (hf119.get krm rfl) (Eq.trans (hf116.get krm rfl) (Eq.trans (hf115.get krm rfl) (Eq.trans (hf109.get krm rfl) (Eq.trans (hf105.get krm rfl) (Eq.trans (hf104.get krm rfl) (Eq.trans (hf6.get krm rfl) (Eq.trans (hf3.get krm rfl) eG3.symm))))))))
          have hG3t : (I119 rm 3).toInt = G3.toInt := congrArg Int32.toInt hG3
          have hG4 : I119 rm 4 = G4 := (Eq.trans (hf119.get krm rfl) (Eq.trans (hf116.get krm rfl) (Eq.trans (hf115.get krm rfl) (Eq.trans (hf109.get krm rfl) (Eq.trans (hf105.get krm rfl) (Eq.trans (hf104.get krm rfl) (Eq.trans (hf6.get krm rfl) (Eq.trans (hf3.get krm rfl) eG4.symm))))))))
          have hG4t : (I119 rm 4).toInt = G4.toInt := congrArg Int32.toInt hG4
          have hG5 : I119 rm 5 = G5 := (Eq.trans (hf119.get krm rfl) (Eq.trans (hf116.get krm rfl) (Eq.trans (hf115.get krm rfl) (Eq.trans (hf109.get krm rfl) (Eq.trans (hf105.get krm rfl) (Eq.trans (hf104.get krm rfl) (Eq.trans (hf6.get krm rfl) (Eq.trans (hf3.get krm rfl) eG5.symm))))))))
          have hG5t : (I119 rm 5).toInt = G5.toInt := congrArg Int32.toInt hG5
          have hG6 : I119 rm 6 = G6 := (Eq.trans (hf119.get krm rfl) (Eq.trans (hf116.get krm rfl) (Eq.trans (hf115.get krm rfl) (Eq.trans (hf109.get krm rfl) (Eq.trans (hf105.get krm rfl) (Eq.trans (hf104.get krm rfl) (Eq.trans (hf6.get krm rfl) (Eq.trans (hf3.get krm rfl) eG6.symm))))))))
          have hG6t : (I119 rm 6).toInt = G6.toInt := congrArg Int32.toInt hG6
          have hG7 : I119 rm 7 = G7 := (Eq.trans (hf119.get krm rfl) (Eq.trans (hf116.get krm rfl) (Eq.trans (hf115.get krm rfl) (Eq.trans (hf109.get krm rfl) (Eq.trans (hf105.get krm rfl) (Eq.trans (hf104.get krm rfl) (Eq.trans (hf6.get krm rfl) (Eq.trans (hf3.get krm rfl) eG7.symm))))))))
          have hG7t : (I119 rm 7).toInt = G7.toInt := congrArg Int32.toInt hG7
          have hG8 : I119 rm 8 = G8 := (Eq.trans (hf119.get krm rfl) (Eq.trans (hf116.get krm rfl) (Eq.trans (hf115.get krm rfl) (Eq.trans (hf109.get krm rfl) (Eq.trans (hf105.get krm rfl) (Eq.trans (hf104.get krm rfl) (Eq.trans (hf6.get krm rfl) (Eq.trans (hf3.get krm rfl) eG8.symm))))))))
          have hG8t : (I119 rm 8).toInt = G8.toInt := congrArg Int32.toInt hG8
          have hG9 : I119 rm 9 = x5_ := (Eq.trans (hf119.get krm rfl) (Eq.trans (hf116.get krm rfl) (Eq.trans (hf115.get krm rfl) (Eq.trans (hf109.get krm rfl) (Eq.trans (hf105.get krm rfl) (Eq.trans (hf104.get krm rfl) (Eq.trans (hf6.get krm rfl) e5.symm)))))))
          have hG9t : (I119 rm 9).toInt = x5_.toInt := congrArg Int32.toInt hG9
          have hG10 : I119 rm 10 = N1 := (Eq.trans (hf119.get krm rfl) (Eq.trans (hf116.get krm rfl) (Eq.trans (hf115.get krm rfl) (Eq.trans (hf109.get krm rfl) (Eq.trans (hf105.get krm rfl) (Eq.trans (hf104.get krm rfl) eN1.symm))))))
          have hG10t : (I119 rm 10).toInt = N1.toInt := congrArg Int32.toInt hG10
          exact r_vret hC hQ hlk hr (by decide) (by decide) dX10_readKnower_113 ⟨_, _, rfl, rfl, ⟨hs119, hF119, hFJ119, (by exact Or.inr ⟨1, (pl B n (nx B n (nx B n p))), by unfold sKnower; rw [pif_f hbg, hsp6, bnd_ok, pif_f (show ¬ isW B n (nx B n (nx B n p)) 27 from hw7)], by omega, by omega, by omega⟩), (by exact om119), (by exact oc119)⟩⟩
        · refine r_aload_n hC dX10_readKnower_72 1 rfl ?_
          refine r_getr hC 4 (ci := 10) rfl u10_in (by decide) mT_4_239 dX10_readKnower_73 ka0 rfl rfl hbr ?_
          refine r_getrN hC 26 (ci := 9) rfl u9_in (by decide) nF_26 dX10_readKnower_76 krm rfl rfl hns ?_
          refine r_iload_n hC dX10_readKnower_79 0 rfl ?_
          refine x_iaload hC kns lns (by decide) rfl rfl dX10_readKnower_80 (by omega) (by omega) (fun x123_ e123 => ?_)
          refine r_if_eq hC (tgt := 89) dX10_readKnower_81 (by decide) (fun c124 => ?_) (fun c124 => ?_)
          · refine r_aload_n hC dX10_readKnower_89 1 rfl ?_
            refine r_callV hC (As := []) (rest := []) (ci := 10) (e_X10_goesOn g (xL X) K len I109 J105 R hs109 a0 ka0 (by omega)) mT_5_199 mT_1_10 mT_5_196 mT_5_198 mP_49 okX10_goesOn ⟨by decide, by decide⟩ rfl (by show kO (K a0) = _; rw [ka0]; rfl) rfl rfl (Nat.le_of_ble_eq_true rfl) ⟨by decide, by decide⟩ dX10_readKnower_90 (aV2 (F := fun st M => P g X 3 93 [(1, .int x111_), (0, .ref a0)] st _ _ M) (M := (K, len, I109, J105, R)) fun I125 J125 h125 => ?_)
            obtain ⟨hs125, hf125, hfj125, k125_0, k125_1, k125_2⟩ := h125
            show P g X 3 93 [(1, .int x111_), (0, .ref a0)] [] _ _ (K, len, I125, J125, R)
            have hF125 : Fr K [(10, 9), (10, 10), (11, 8), (11, 9), (11, 10), (11, 11), (11, 12), (11, 13), (80, 999), (81, 999), (83, 999), (84, 999)] I I125 := hF109.trans hf125 rfl rfl
            have hFJ125 : Fr K [(11, 14), (82, 999)] J J125 := hFJ105.trans hfj125 rfl rfl
            have oc125 := oc109.mv qM_big hf125 rfl
            have om125 := om109.mv hf125 rfl
            refine r_aload_n hC dX10_readKnower_93 1 rfl ?_
            refine r_ldcwS hC (i := 59) (by decide) rfl rfl dX10_readKnower_94 ?_
            refine r_iconst hC (v := (0)) dX10_readKnower_97 (by decide) (by decide) (fun x126_ e126 t126 => ?_)
            refine r_sipush hC (v := (999)) dX10_readKnower_98 (by decide) (by decide) (fun x127_ e127 t127 => ?_)
            refine r_callV hC (As := [.ref (g.2.2.1 59), .int x126_, .int x127_]) (rest := []) (ci := 10) (e_X10_readPart g (xL X) K len I125 J125 R hs125 a0 ka0 59 (by decide) x126_ x127_ (by omega)) mT_6_1 mT_1_10 mT_5_238 mT_6_0 mP_56 okX10_readPart ⟨by decide, by decide⟩ rfl (by show kO (K a0) = _; rw [ka0]; rfl) rfl rfl (Nat.le_of_ble_eq_true rfl) ⟨by decide, by decide⟩ dX10_readKnower_101 (aI2 (F := fun st M => P g X 3 104 [(1, .int x111_), (0, .ref a0)] st _ _ M) (M := (K, len, I125, J125, R)) fun x128_ I128 J128 h128 => ?_)
            obtain ⟨hs128, hf128, hfj128, k128_0, k128_1, k128_2⟩ := h128
            show P g X 3 104 [(1, .int x111_), (0, .ref a0)] [.int x128_] _ _ (K, len, I128, J128, R)
            have hF128 : Fr K [(10, 9), (10, 10), (11, 8), (11, 9), (11, 10), (11, 11), (11, 12), (11, 13), (80, 999), (81, 999), (83, 999), (84, 999)] I I128 := hF125.trans hf128 rfl rfl
            have hFJ128 : Fr K [(11, 14), (82, 999)] J J128 := hFJ125.trans hfj128 rfl rfl
            have oc128 := oc125.mv qM_big hf128 rfl
            have om128 := om125.mv hf128 rfl
            refine r_istore_n hC (lv' := [(2, .int x128_), (1, .int x111_), (0, .ref a0)]) dX10_readKnower_104 (by decide) rfl ?_
            refine r_aload_n hC dX10_readKnower_105 2 rfl ?_
            refine r_geti hC 9 (ci := 10) rfl u10_in (by decide) mT_5_4 dX10_readKnower_106 ka0 rfl rfl (fun x129_ e129 => ?_)
            have f129 : x129_.toInt = (I128 a0 9).toInt := by rw [e129]
            refine r_iconst hC (v := (5)) dX10_readKnower_109 (by decide) (by decide) (fun x130_ e130 t130 => ?_)
            refine r_icmp_ne hC (tgt := 114) dX10_readKnower_110 (by decide) (fun c131 => ?_) (fun c131 => ?_)
            · exfalso; omega
            have hG0 : I128 rm 0 = G0 := (Eq.trans (hf128.get krm rfl) (Eq.trans (hf125.get krm rfl) (Eq.trans (hf109.get krm rfl) (Eq.trans (hf105.get krm rfl) (Eq.trans (hf104.get krm rfl) (Eq.trans (hf6.get krm rfl) (Eq.trans (hf3.get krm rfl) eG0.symm)))))))
            have hG0t : (I128 rm 0).toInt = G0.toInt := congrArg Int32.toInt hG0
            have hG1 : I128 rm 1 = G1 := (Eq.trans (hf128.get krm rfl) (Eq.trans (hf125.get krm rfl) (Eq.trans (hf109.get krm rfl) (Eq.trans (hf105.get krm rfl) (Eq.trans (hf104.get krm rfl) (Eq.trans (hf6.get krm rfl) (Eq.trans (hf3.get krm rfl) eG1.symm)))))))
            have hG1t : (I128 rm 1).toInt = G1.toInt := congrArg Int32.toInt hG1
            have hG2 : I128 rm 2 = G2 := (Eq.trans (hf128.get krm rfl) (Eq.trans (hf125.get krm rfl) (Eq.trans (hf109.get krm rfl) (Eq.trans (hf105.get krm rfl) (Eq.trans (hf104.get krm rfl) (Eq.trans (hf6.get krm rfl) (Eq.trans (hf3.get krm rfl) eG2.symm)))))))
            have hG2t : (I128 rm 2).toInt = G2.toInt := congrArg Int32.toInt hG2
            have hG3 : I128 rm 3 = G3 := (Eq.trans (hf128.get krm rfl) (Eq.trans (hf125.get krm rfl) (Eq.trans (hf109.get krm rfl) (Eq.trans (hf105.get krm rfl) (Eq.trans (hf104.get krm rfl) (Eq.trans (hf6.get krm rfl) (Eq.trans (hf3.get krm rfl) eG3.symm)))))))
            have hG3t : (I128 rm 3).toInt = G3.toInt := congrArg Int32.toInt hG3
            have hG4 : I128 rm 4 = G4 := (Eq.trans (hf128.get krm rfl) (Eq.trans (hf125.get krm rfl) (Eq.trans (hf109.get krm rfl) (Eq.trans (hf105.get krm rfl) (Eq.trans (hf104.get krm rfl) (Eq.trans (hf6.get krm rfl) (Eq.trans (hf3.get krm rfl) eG4.symm)))))))
            have hG4t : (I128 rm 4).toInt = G4.toInt := congrArg Int32.toInt hG4
            have hG5 : I128 rm 5 = G5 := (Eq.trans (hf128.get krm rfl) (Eq.trans (hf125.get krm rfl) (Eq.trans (hf109.get krm rfl) (Eq.trans (hf105.get krm rfl) (Eq.trans (hf104.get krm rfl) (Eq.trans (hf6.get krm rfl) (Eq.trans (hf3.get krm rfl) eG5.symm)))))))
            have hG5t : (I128 rm 5).toInt = G5.toInt := congrArg Int32.toInt hG5
            have hG6 : I128 rm 6 = G6 := (Eq.trans (hf128.get krm rfl) (Eq.trans (hf125.get krm rfl) (Eq.trans (hf109.get krm rfl) (Eq.trans (hf105.get krm rfl) (Eq.trans (hf104.get krm rfl) (Eq.trans (hf6.get krm rfl) (Eq.trans (hf3.get krm rfl) eG6.symm)))))))
            have hG6t : (I128 rm 6).toInt = G6.toInt := congrArg Int32.toInt hG6
            have hG7 : I128 rm 7 = G7 := (Eq.trans (hf128.get krm rfl) (Eq.trans (hf125.get krm rfl) (Eq.trans (hf109.get krm rfl) (Eq.trans (hf105.get krm rfl) (Eq.trans (hf104.get krm rfl) (Eq.trans (hf6.get krm rfl) (Eq.trans (hf3.get krm rfl) eG7.symm)))))))
            have hG7t : (I128 rm 7).toInt = G7.toInt := congrArg Int32.toInt hG7
            have hG8 : I128 rm 8 = G8 := (Eq.trans (hf128.get krm rfl) (Eq.trans (hf125.get krm rfl) (Eq.trans (hf109.get krm rfl) (Eq.trans (hf105.get krm rfl) (Eq.trans (hf104.get krm rfl) (Eq.trans (hf6.get krm rfl) (Eq.trans (hf3.get krm rfl) eG8.symm)))))))
            have hG8t : (I128 rm 8).toInt = G8.toInt := congrArg Int32.toInt hG8
            have hG9 : I128 rm 9 = x5_ := (Eq.trans (hf128.get krm rfl) (Eq.trans (hf125.get krm rfl) (Eq.trans (hf109.get krm rfl) (Eq.trans (hf105.get krm rfl) (Eq.trans (hf104.get krm rfl) (Eq.trans (hf6.get krm rfl) e5.symm))))))
            have hG9t : (I128 rm 9).toInt = x5_.toInt := congrArg Int32.toInt hG9
            have hG10 : I128 rm 10 = N1 := (Eq.trans (hf128.get krm rfl) (Eq.trans (hf125.get krm rfl) (Eq.trans (hf109.get krm rfl) (Eq.trans (hf105.get krm rfl) (Eq.trans (hf104.get krm rfl) eN1.symm)))))
            have hG10t : (I128 rm 10).toInt = N1.toInt := congrArg Int32.toInt hG10
            exact r_vret hC hQ hlk hr (by decide) (by decide) dX10_readKnower_113 ⟨_, _, rfl, rfl, ⟨hs128, hF128, hFJ128, (by exact Or.inr ⟨1, (pl B n (nx B n (nx B n p))), by unfold sKnower; rw [pif_f hbg, hsp6, bnd_ok, pif_f (show ¬ isW B n (nx B n (nx B n p)) 27 from hw7)], by omega, by omega, by omega⟩), (by exact om128), (by exact oc128)⟩⟩
          · refine r_aload_n hC dX10_readKnower_84 1 rfl ?_
            refine r_iconst hC (v := (2)) dX10_readKnower_85 (by decide) (by decide) (fun x132_ e132 t132 => ?_)
            refine r_callV hC (As := [.int x132_]) (rest := []) (ci := 10) (e_X10_wrong g (xL X) K len I109 J105 R hs109 a0 ka0 x132_ (by omega)) mT_5_236 mT_1_10 mT_5_233 mT_5_235 mP_55 okX10_wrong ⟨by decide, by decide⟩ rfl (by show kO (K a0) = _; rw [ka0]; rfl) rfl rfl (Nat.le_of_ble_eq_true rfl) ⟨by decide, by decide⟩ dX10_readKnower_86 (aV1 (F := fun st M => P g X 3 89 [(1, .int x111_), (0, .ref a0)] st _ _ M) (M := (K, len, I109, J105, R)) fun I133 h133 => ?_)
            obtain ⟨hs133, hf133, k133_0, k133_1, k133_2⟩ := h133
            show P g X 3 89 [(1, .int x111_), (0, .ref a0)] [] _ _ (K, len, I133, J105, R)
            have hF133 : Fr K [(10, 9), (10, 10), (11, 8), (11, 9), (11, 10), (11, 11), (11, 12), (11, 13), (80, 999), (81, 999), (83, 999), (84, 999)] I I133 := hF109.trans hf133 rfl rfl
            have oc133 := oc109.mv qM_big hf133 rfl
            have om133 := om109.mv hf133 rfl
            refine r_aload_n hC dX10_readKnower_89 1 rfl ?_
            refine r_callV hC (As := []) (rest := []) (ci := 10) (e_X10_goesOn g (xL X) K len I133 J105 R hs133 a0 ka0 (by omega)) mT_5_199 mT_1_10 mT_5_196 mT_5_198 mP_49 okX10_goesOn ⟨by decide, by decide⟩ rfl (by show kO (K a0) = _; rw [ka0]; rfl) rfl rfl (Nat.le_of_ble_eq_true rfl) ⟨by decide, by decide⟩ dX10_readKnower_90 (aV2 (F := fun st M => P g X 3 93 [(1, .int x111_), (0, .ref a0)] st _ _ M) (M := (K, len, I133, J105, R)) fun I134 J134 h134 => ?_)
            obtain ⟨hs134, hf134, hfj134, k134_0, k134_1, k134_2⟩ := h134
            show P g X 3 93 [(1, .int x111_), (0, .ref a0)] [] _ _ (K, len, I134, J134, R)
            have hF134 : Fr K [(10, 9), (10, 10), (11, 8), (11, 9), (11, 10), (11, 11), (11, 12), (11, 13), (80, 999), (81, 999), (83, 999), (84, 999)] I I134 := hF133.trans hf134 rfl rfl
            have hFJ134 : Fr K [(11, 14), (82, 999)] J J134 := hFJ105.trans hfj134 rfl rfl
            have oc134 := oc133.mv qM_big hf134 rfl
            have om134 := om133.mv hf134 rfl
            refine r_aload_n hC dX10_readKnower_93 1 rfl ?_
            refine r_ldcwS hC (i := 59) (by decide) rfl rfl dX10_readKnower_94 ?_
            refine r_iconst hC (v := (0)) dX10_readKnower_97 (by decide) (by decide) (fun x135_ e135 t135 => ?_)
            refine r_sipush hC (v := (999)) dX10_readKnower_98 (by decide) (by decide) (fun x136_ e136 t136 => ?_)
            refine r_callV hC (As := [.ref (g.2.2.1 59), .int x135_, .int x136_]) (rest := []) (ci := 10) (e_X10_readPart g (xL X) K len I134 J134 R hs134 a0 ka0 59 (by decide) x135_ x136_ (by omega)) mT_6_1 mT_1_10 mT_5_238 mT_6_0 mP_56 okX10_readPart ⟨by decide, by decide⟩ rfl (by show kO (K a0) = _; rw [ka0]; rfl) rfl rfl (Nat.le_of_ble_eq_true rfl) ⟨by decide, by decide⟩ dX10_readKnower_101 (aI2 (F := fun st M => P g X 3 104 [(1, .int x111_), (0, .ref a0)] st _ _ M) (M := (K, len, I134, J134, R)) fun x137_ I137 J137 h137 => ?_)
            obtain ⟨hs137, hf137, hfj137, k137_0, k137_1, k137_2⟩ := h137
            show P g X 3 104 [(1, .int x111_), (0, .ref a0)] [.int x137_] _ _ (K, len, I137, J137, R)
            have hF137 : Fr K [(10, 9), (10, 10), (11, 8), (11, 9), (11, 10), (11, 11), (11, 12), (11, 13), (80, 999), (81, 999), (83, 999), (84, 999)] I I137 := hF134.trans hf137 rfl rfl
            have hFJ137 : Fr K [(11, 14), (82, 999)] J J137 := hFJ134.trans hfj137 rfl rfl
            have oc137 := oc134.mv qM_big hf137 rfl
            have om137 := om134.mv hf137 rfl
            refine r_istore_n hC (lv' := [(2, .int x137_), (1, .int x111_), (0, .ref a0)]) dX10_readKnower_104 (by decide) rfl ?_
            refine r_aload_n hC dX10_readKnower_105 2 rfl ?_
            refine r_geti hC 9 (ci := 10) rfl u10_in (by decide) mT_5_4 dX10_readKnower_106 ka0 rfl rfl (fun x138_ e138 => ?_)
            have f138 : x138_.toInt = (I137 a0 9).toInt := by rw [e138]
            refine r_iconst hC (v := (5)) dX10_readKnower_109 (by decide) (by decide) (fun x139_ e139 t139 => ?_)
            refine r_icmp_ne hC (tgt := 114) dX10_readKnower_110 (by decide) (fun c140 => ?_) (fun c140 => ?_)
            · exfalso; omega
            have hG0 : I137 rm 0 = G0 := (Eq.trans (hf137.get krm rfl) (Eq.trans (hf134.get krm rfl) (Eq.trans (hf133.get krm rfl) (Eq.trans (hf109.get krm rfl) (Eq.trans (hf105.get krm rfl) (Eq.trans (hf104.get krm rfl) (Eq.trans (hf6.get krm rfl) (Eq.trans (hf3.get krm rfl) eG0.symm))))))))
            have hG0t : (I137 rm 0).toInt = G0.toInt := congrArg Int32.toInt hG0
            have hG1 : I137 rm 1 = G1 := (Eq.trans (hf137.get krm rfl) (Eq.trans (hf134.get krm rfl) (Eq.trans (hf133.get krm rfl) (Eq.trans (hf109.get krm rfl) (Eq.trans (hf105.get krm rfl) (Eq.trans (hf104.get krm rfl) (Eq.trans (hf6.get krm rfl) (Eq.trans (hf3.get krm rfl) eG1.symm))))))))
            have hG1t : (I137 rm 1).toInt = G1.toInt := congrArg Int32.toInt hG1
            have hG2 : I137 rm 2 = G2 := (Eq.trans (hf137.get krm rfl) (Eq.trans (hf134.get krm rfl) (Eq.trans (hf133.get krm rfl) (Eq.trans (hf109.get krm rfl) (Eq.trans (hf105.get krm rfl) (Eq.trans (hf104.get krm rfl) (Eq.trans (hf6.get krm rfl) (Eq.trans (hf3.get krm rfl) eG2.symm))))))))
            have hG2t : (I137 rm 2).toInt = G2.toInt := congrArg Int32.toInt hG2
            have hG3 : I137 rm 3 = G3 := (Eq.trans (hf137.get krm rfl) (Eq.trans (hf134.get krm rfl) (Eq.trans (hf133.get krm rfl) (Eq.trans (hf109.get krm rfl) (Eq.trans (hf105.get krm rfl) (Eq.trans (hf104.get krm rfl) (Eq.trans (hf6.get krm rfl) (Eq.trans (hf3.get krm rfl) eG3.symm))))))))
            have hG3t : (I137 rm 3).toInt = G3.toInt := congrArg Int32.toInt hG3
            have hG4 : I137 rm 4 = G4 := (Eq.trans (hf137.get krm rfl) (Eq.trans (hf134.get krm rfl) (Eq.trans (hf133.get krm rfl) (Eq.trans (hf109.get krm rfl) (Eq.trans (hf105.get krm rfl) (Eq.trans (hf104.get krm rfl) (Eq.trans (hf6.get krm rfl) (Eq.trans (hf3.get krm rfl) eG4.symm))))))))
            have hG4t : (I137 rm 4).toInt = G4.toInt := congrArg Int32.toInt hG4
            have hG5 : I137 rm 5 = G5 := (Eq.trans (hf137.get krm rfl) (Eq.trans (hf134.get krm rfl) (Eq.trans (hf133.get krm rfl) (Eq.trans (hf109.get krm rfl) (Eq.trans (hf105.get krm rfl) (Eq.trans (hf104.get krm rfl) (Eq.trans (hf6.get krm rfl) (Eq.trans (hf3.get krm rfl) eG5.symm))))))))
            have hG5t : (I137 rm 5).toInt = G5.toInt := congrArg Int32.toInt hG5
            have hG6 : I137 rm 6 = G6 := (Eq.trans (hf137.get krm rfl) (Eq.trans (hf134.get krm rfl) (Eq.trans (hf133.get krm rfl) (Eq.trans (hf109.get krm rfl) (Eq.trans (hf105.get krm rfl) (Eq.trans (hf104.get krm rfl) (Eq.trans (hf6.get krm rfl) (Eq.trans (hf3.get krm rfl) eG6.symm))))))))
            have hG6t : (I137 rm 6).toInt = G6.toInt := congrArg Int32.toInt hG6
            have hG7 : I137 rm 7 = G7 := (Eq.trans (hf137.get krm rfl) (Eq.trans (hf134.get krm rfl) (Eq.trans (hf133.get krm rfl) (Eq.trans (hf109.get krm rfl) (Eq.trans (hf105.get krm rfl) (Eq.trans (hf104.get krm rfl) (Eq.trans (hf6.get krm rfl) (Eq.trans (hf3.get krm rfl) eG7.symm))))))))
            have hG7t : (I137 rm 7).toInt = G7.toInt := congrArg Int32.toInt hG7
            have hG8 : I137 rm 8 = G8 := (Eq.trans (hf137.get krm rfl) (Eq.trans (hf134.get krm rfl) (Eq.trans (hf133.get krm rfl) (Eq.trans (hf109.get krm rfl) (Eq.trans (hf105.get krm rfl) (Eq.trans (hf104.get krm rfl) (Eq.trans (hf6.get krm rfl) (Eq.trans (hf3.get krm rfl) eG8.symm))))))))
            have hG8t : (I137 rm 8).toInt = G8.toInt := congrArg Int32.toInt hG8
            have hG9 : I137 rm 9 = x5_ := (Eq.trans (hf137.get krm rfl) (Eq.trans (hf134.get krm rfl) (Eq.trans (hf133.get krm rfl) (Eq.trans (hf109.get krm rfl) (Eq.trans (hf105.get krm rfl) (Eq.trans (hf104.get krm rfl) (Eq.trans (hf6.get krm rfl) e5.symm)))))))
            have hG9t : (I137 rm 9).toInt = x5_.toInt := congrArg Int32.toInt hG9
            have hG10 : I137 rm 10 = N1 := (Eq.trans (hf137.get krm rfl) (Eq.trans (hf134.get krm rfl) (Eq.trans (hf133.get krm rfl) (Eq.trans (hf109.get krm rfl) (Eq.trans (hf105.get krm rfl) (Eq.trans (hf104.get krm rfl) eN1.symm))))))
            have hG10t : (I137 rm 10).toInt = N1.toInt := congrArg Int32.toInt hG10
            exact r_vret hC hQ hlk hr (by decide) (by decide) dX10_readKnower_113 ⟨_, _, rfl, rfl, ⟨hs137, hF137, hFJ137, (by exact Or.inr ⟨1, (pl B n (nx B n (nx B n p))), by unfold sKnower; rw [pif_f hbg, hsp6, bnd_ok, pif_f (show ¬ isW B n (nx B n (nx B n p)) 27 from hw7)], by omega, by omega, by omega⟩), (by exact om137), (by exact oc137)⟩⟩
    · obtain ⟨N1, eN1⟩ : ∃ z : Int32, z = I6 rm 10 := ⟨_, rfl⟩
      have fN1 : N1.toInt = (I6 rm 10).toInt := by rw [eN1]
      have rN1 := hs6.rng krm rfl eN1
      refine r_aload_n hC dX10_readKnower_24 0 rfl ?_
      refine r_ldcwS hC (i := 58) (by decide) rfl rfl dX10_readKnower_25 ?_
      refine r_callV hC (As := [.ref (g.2.2.1 58)]) (rest := []) (ci := 10) (e_X10_isWord g (xL X) K len I6 J6 R hs6 a0 ka0 58 (by decide) (by omega)) mT_5_223 mT_1_10 mT_5_220 mT_5_222 mP_53 okX10_isWord ⟨by decide, by decide⟩ rfl (by show kO (K a0) = _; rw [ka0]; rfl) rfl rfl (Nat.le_of_ble_eq_true rfl) ⟨by decide, by decide⟩ dX10_readKnower_28 (aI0 (F := fun st M => P g X 3 31 [(0, .ref a0)] st _ _ M) (M := (K, len, I6, J6, R)) fun x141_ h141 => ?_)
      have k141_0 := h141
      clear h141
      show P g X 3 31 [(0, .ref a0)] [.int x141_] _ _ (K, len, I6, J6, R)
      refine r_if_ne hC (tgt := 39) dX10_readKnower_31 (by decide) (fun c142 => ?_) (fun c142 => ?_)
      · exfalso; omega
      refine r_aload_n hC dX10_readKnower_34 0 rfl ?_
      refine r_iconst hC (v := (1)) dX10_readKnower_35 (by decide) (by decide) (fun x143_ e143 t143 => ?_)
      refine r_callV hC (As := [.int x143_]) (rest := []) (ci := 10) (e_X10_wrong g (xL X) K len I6 J6 R hs6 a0 ka0 x143_ (by omega)) mT_5_236 mT_1_10 mT_5_233 mT_5_235 mP_55 okX10_wrong ⟨by decide, by decide⟩ rfl (by show kO (K a0) = _; rw [ka0]; rfl) rfl rfl (Nat.le_of_ble_eq_true rfl) ⟨by decide, by decide⟩ dX10_readKnower_36 (aV1 (F := fun st M => P g X 3 39 [(0, .ref a0)] st _ _ M) (M := (K, len, I6, J6, R)) fun I144 h144 => ?_)
      obtain ⟨hs144, hf144, k144_0, k144_1, k144_2⟩ := h144
      show P g X 3 39 [(0, .ref a0)] [] _ _ (K, len, I144, J6, R)
      have hF144 : Fr K [(10, 9), (10, 10), (11, 8), (11, 9), (11, 10), (11, 11), (11, 12), (11, 13), (80, 999), (81, 999), (83, 999), (84, 999)] I I144 := hF6.trans hf144 rfl rfl
      have oc144 := oc6.mv qM_big hf144 rfl
      have om144 := om6.mv hf144 rfl
      refine r_aload_n hC dX10_readKnower_39 0 rfl ?_
      refine r_callV hC (As := []) (rest := []) (ci := 10) (e_X10_goesOn g (xL X) K len I144 J6 R hs144 a0 ka0 (by omega)) mT_5_199 mT_1_10 mT_5_196 mT_5_198 mP_49 okX10_goesOn ⟨by decide, by decide⟩ rfl (by show kO (K a0) = _; rw [ka0]; rfl) rfl rfl (Nat.le_of_ble_eq_true rfl) ⟨by decide, by decide⟩ dX10_readKnower_40 (aV2 (F := fun st M => P g X 3 43 [(0, .ref a0)] st _ _ M) (M := (K, len, I144, J6, R)) fun I145 J145 h145 => ?_)
      obtain ⟨hs145, hf145, hfj145, k145_0, k145_1, k145_2⟩ := h145
      show P g X 3 43 [(0, .ref a0)] [] _ _ (K, len, I145, J145, R)
      have hF145 : Fr K [(10, 9), (10, 10), (11, 8), (11, 9), (11, 10), (11, 11), (11, 12), (11, 13), (80, 999), (81, 999), (83, 999), (84, 999)] I I145 := hF144.trans hf145 rfl rfl
      have hFJ145 : Fr K [(11, 14), (82, 999)] J J145 := hFJ6.trans hfj145 rfl rfl
      have oc145 := oc144.mv qM_big hf145 rfl
      have om145 := om144.mv hf145 rfl
      refine r_aload_n hC dX10_readKnower_43 0 rfl ?_
      refine r_callV hC (As := []) (rest := []) (ci := 10) (e_X10_isName g (xL X) K len I145 J145 R hs145 a0 ka0 (by omega)) mT_6_27 mT_1_10 mT_6_24 mT_6_26 mP_61 okX10_isName ⟨by decide, by decide⟩ rfl (by show kO (K a0) = _; rw [ka0]; rfl) rfl rfl (Nat.le_of_ble_eq_true rfl) ⟨by decide, by decide⟩ dX10_readKnower_44 (aI0 (F := fun st M => P g X 3 47 [(0, .ref a0)] st _ _ M) (M := (K, len, I145, J145, R)) fun x146_ h146 => ?_)
      have k146_0 := h146
      clear h146
      show P g X 3 47 [(0, .ref a0)] [.int x146_] _ _ (K, len, I145, J145, R)
      refine r_if_ne hC (tgt := 55) dX10_readKnower_47 (by decide) (fun c147 => ?_) (fun c147 => ?_)
      · exfalso; omega
      refine r_aload_n hC dX10_readKnower_50 0 rfl ?_
      refine r_iconst hC (v := (1)) dX10_readKnower_51 (by decide) (by decide) (fun x148_ e148 t148 => ?_)
      refine r_callV hC (As := [.int x148_]) (rest := []) (ci := 10) (e_X10_wrong g (xL X) K len I145 J145 R hs145 a0 ka0 x148_ (by omega)) mT_5_236 mT_1_10 mT_5_233 mT_5_235 mP_55 okX10_wrong ⟨by decide, by decide⟩ rfl (by show kO (K a0) = _; rw [ka0]; rfl) rfl rfl (Nat.le_of_ble_eq_true rfl) ⟨by decide, by decide⟩ dX10_readKnower_52 (aV1 (F := fun st M => P g X 3 55 [(0, .ref a0)] st _ _ M) (M := (K, len, I145, J145, R)) fun I149 h149 => ?_)
      obtain ⟨hs149, hf149, k149_0, k149_1, k149_2⟩ := h149
      show P g X 3 55 [(0, .ref a0)] [] _ _ (K, len, I149, J145, R)
      have hF149 : Fr K [(10, 9), (10, 10), (11, 8), (11, 9), (11, 10), (11, 11), (11, 12), (11, 13), (80, 999), (81, 999), (83, 999), (84, 999)] I I149 := hF145.trans hf149 rfl rfl
      have oc149 := oc145.mv qM_big hf149 rfl
      have om149 := om145.mv hf149 rfl
      refine r_aload_n hC dX10_readKnower_55 0 rfl ?_
      refine r_getr hC 4 (ci := 10) rfl u10_in (by decide) mT_4_239 dX10_readKnower_56 ka0 rfl rfl hbr ?_
      refine r_aload_n hC dX10_readKnower_59 0 rfl ?_
      refine r_getj hC 14 (ci := 10) rfl u10_in (by decide) mT_5_9 dX10_readKnower_60 ka0 rfl rfl (fun y150_ e150 => ?_)
      have fj150 : y150_.toInt = (J145 a0 14).toInt := by rw [e150]
      refine r_callV hC (As := [.long y150_]) (rest := []) (ci := 9) (c_X9_find g (xL X) K len I149 J145 R hs149 rm krm y150_) mT_6_36 mT_1_17 mT_6_33 mT_6_34 mT_6_35 okX9_find ⟨by decide, by decide⟩ rfl (by show kO (K rm) = _; rw [krm]; rfl) rfl rfl (Nat.le_of_ble_eq_true rfl) ⟨by decide, by decide⟩ dX10_readKnower_63 (aI0 (F := fun st M => P g X 3 66 [(0, .ref a0)] st _ _ M) (M := (K, len, I149, J145, R)) fun x151_ h151 => ?_)
      obtain ⟨k151_0, k151_1⟩ := h151
      show P g X 3 66 [(0, .ref a0)] [.int x151_] _ _ (K, len, I149, J145, R)
      refine r_istore_n hC (lv' := [(1, .int x151_), (0, .ref a0)]) dX10_readKnower_66 (by decide) rfl ?_
      refine r_iload_n hC dX10_readKnower_67 0 rfl ?_
      refine r_iconst hC (v := (-1)) dX10_readKnower_68 (by decide) (by decide) (fun x152_ e152 t152 => ?_)
      refine r_icmp_eq hC (tgt := 84) dX10_readKnower_69 (by decide) (fun c153 => ?_) (fun c153 => ?_)
      · refine r_aload_n hC dX10_readKnower_84 1 rfl ?_
        refine r_iconst hC (v := (2)) dX10_readKnower_85 (by decide) (by decide) (fun x154_ e154 t154 => ?_)
        refine r_callV hC (As := [.int x154_]) (rest := []) (ci := 10) (e_X10_wrong g (xL X) K len I149 J145 R hs149 a0 ka0 x154_ (by omega)) mT_5_236 mT_1_10 mT_5_233 mT_5_235 mP_55 okX10_wrong ⟨by decide, by decide⟩ rfl (by show kO (K a0) = _; rw [ka0]; rfl) rfl rfl (Nat.le_of_ble_eq_true rfl) ⟨by decide, by decide⟩ dX10_readKnower_86 (aV1 (F := fun st M => P g X 3 89 [(1, .int x151_), (0, .ref a0)] st _ _ M) (M := (K, len, I149, J145, R)) fun I155 h155 => ?_)
        obtain ⟨hs155, hf155, k155_0, k155_1, k155_2⟩ := h155
        show P g X 3 89 [(1, .int x151_), (0, .ref a0)] [] _ _ (K, len, I155, J145, R)
        have hF155 : Fr K [(10, 9), (10, 10), (11, 8), (11, 9), (11, 10), (11, 11), (11, 12), (11, 13), (80, 999), (81, 999), (83, 999), (84, 999)] I I155 := hF149.trans hf155 rfl rfl
        have oc155 := oc149.mv qM_big hf155 rfl
        have om155 := om149.mv hf155 rfl
        refine r_aload_n hC dX10_readKnower_89 1 rfl ?_
        refine r_callV hC (As := []) (rest := []) (ci := 10) (e_X10_goesOn g (xL X) K len I155 J145 R hs155 a0 ka0 (by omega)) mT_5_199 mT_1_10 mT_5_196 mT_5_198 mP_49 okX10_goesOn ⟨by decide, by decide⟩ rfl (by show kO (K a0) = _; rw [ka0]; rfl) rfl rfl (Nat.le_of_ble_eq_true rfl) ⟨by decide, by decide⟩ dX10_readKnower_90 (aV2 (F := fun st M => P g X 3 93 [(1, .int x151_), (0, .ref a0)] st _ _ M) (M := (K, len, I155, J145, R)) fun I156 J156 h156 => ?_)
        obtain ⟨hs156, hf156, hfj156, k156_0, k156_1, k156_2⟩ := h156
        show P g X 3 93 [(1, .int x151_), (0, .ref a0)] [] _ _ (K, len, I156, J156, R)
        have hF156 : Fr K [(10, 9), (10, 10), (11, 8), (11, 9), (11, 10), (11, 11), (11, 12), (11, 13), (80, 999), (81, 999), (83, 999), (84, 999)] I I156 := hF155.trans hf156 rfl rfl
        have hFJ156 : Fr K [(11, 14), (82, 999)] J J156 := hFJ145.trans hfj156 rfl rfl
        have oc156 := oc155.mv qM_big hf156 rfl
        have om156 := om155.mv hf156 rfl
        refine r_aload_n hC dX10_readKnower_93 1 rfl ?_
        refine r_ldcwS hC (i := 59) (by decide) rfl rfl dX10_readKnower_94 ?_
        refine r_iconst hC (v := (0)) dX10_readKnower_97 (by decide) (by decide) (fun x157_ e157 t157 => ?_)
        refine r_sipush hC (v := (999)) dX10_readKnower_98 (by decide) (by decide) (fun x158_ e158 t158 => ?_)
        refine r_callV hC (As := [.ref (g.2.2.1 59), .int x157_, .int x158_]) (rest := []) (ci := 10) (e_X10_readPart g (xL X) K len I156 J156 R hs156 a0 ka0 59 (by decide) x157_ x158_ (by omega)) mT_6_1 mT_1_10 mT_5_238 mT_6_0 mP_56 okX10_readPart ⟨by decide, by decide⟩ rfl (by show kO (K a0) = _; rw [ka0]; rfl) rfl rfl (Nat.le_of_ble_eq_true rfl) ⟨by decide, by decide⟩ dX10_readKnower_101 (aI2 (F := fun st M => P g X 3 104 [(1, .int x151_), (0, .ref a0)] st _ _ M) (M := (K, len, I156, J156, R)) fun x159_ I159 J159 h159 => ?_)
        obtain ⟨hs159, hf159, hfj159, k159_0, k159_1, k159_2⟩ := h159
        show P g X 3 104 [(1, .int x151_), (0, .ref a0)] [.int x159_] _ _ (K, len, I159, J159, R)
        have hF159 : Fr K [(10, 9), (10, 10), (11, 8), (11, 9), (11, 10), (11, 11), (11, 12), (11, 13), (80, 999), (81, 999), (83, 999), (84, 999)] I I159 := hF156.trans hf159 rfl rfl
        have hFJ159 : Fr K [(11, 14), (82, 999)] J J159 := hFJ156.trans hfj159 rfl rfl
        have oc159 := oc156.mv qM_big hf159 rfl
        have om159 := om156.mv hf159 rfl
        refine r_istore_n hC (lv' := [(2, .int x159_), (1, .int x151_), (0, .ref a0)]) dX10_readKnower_104 (by decide) rfl ?_
        refine r_aload_n hC dX10_readKnower_105 2 rfl ?_
        refine r_geti hC 9 (ci := 10) rfl u10_in (by decide) mT_5_4 dX10_readKnower_106 ka0 rfl rfl (fun x160_ e160 => ?_)
        have f160 : x160_.toInt = (I159 a0 9).toInt := by rw [e160]
        refine r_iconst hC (v := (5)) dX10_readKnower_109 (by decide) (by decide) (fun x161_ e161 t161 => ?_)
        refine r_icmp_ne hC (tgt := 114) dX10_readKnower_110 (by decide) (fun c162 => ?_) (fun c162 => ?_)
        · exfalso; omega
        have hG0 : I159 rm 0 = G0 := (Eq.trans (hf159.get krm rfl) (Eq.trans (hf156.get krm rfl) (Eq.trans (hf155.get krm rfl) (Eq.trans (hf149.get krm rfl) (Eq.trans (hf145.get krm rfl) (Eq.trans (hf144.get krm rfl) (Eq.trans (hf6.get krm rfl) (Eq.trans (hf3.get krm rfl) eG0.symm))))))))
        have hG0t : (I159 rm 0).toInt = G0.toInt := congrArg Int32.toInt hG0
        have hG1 : I159 rm 1 = G1 := (Eq.trans (hf159.get krm rfl) (Eq.trans (hf156.get krm rfl) (Eq.trans (hf155.get krm rfl) (Eq.trans (hf149.get krm rfl) (Eq.trans (hf145.get krm rfl) (Eq.trans (hf144.get krm rfl) (Eq.trans (hf6.get krm rfl) (Eq.trans (hf3.get krm rfl) eG1.symm))))))))
        have hG1t : (I159 rm 1).toInt = G1.toInt := congrArg Int32.toInt hG1
        have hG2 : I159 rm 2 = G2 := (Eq.trans (hf159.get krm rfl) (Eq.trans (hf156.get krm rfl) (Eq.trans (hf155.get krm rfl) (Eq.trans (hf149.get krm rfl) (Eq.trans (hf145.get krm rfl) (Eq.trans (hf144.get krm rfl) (Eq.trans (hf6.get krm rfl) (Eq.trans (hf3.get krm rfl) eG2.symm))))))))
        have hG2t : (I159 rm 2).toInt = G2.toInt := congrArg Int32.toInt hG2
        have hG3 : I159 rm 3 = G3 := (Eq.trans (hf159.get krm rfl) (Eq.trans (hf156.get krm rfl) (Eq.trans (hf155.get krm rfl) (Eq.trans (hf149.get krm rfl) (Eq.trans (hf145.get krm rfl) (Eq.trans (hf144.get krm rfl) (Eq.trans (hf6.get krm rfl) (Eq.trans (hf3.get krm rfl) eG3.symm))))))))
        have hG3t : (I159 rm 3).toInt = G3.toInt := congrArg Int32.toInt hG3
        have hG4 : I159 rm 4 = G4 := (Eq.trans (hf159.get krm rfl) (Eq.trans (hf156.get krm rfl) (Eq.trans (hf155.get krm rfl) (Eq.trans (hf149.get krm rfl) (Eq.trans (hf145.get krm rfl) (Eq.trans (hf144.get krm rfl) (Eq.trans (hf6.get krm rfl) (Eq.trans (hf3.get krm rfl) eG4.symm))))))))
        have hG4t : (I159 rm 4).toInt = G4.toInt := congrArg Int32.toInt hG4
        have hG5 : I159 rm 5 = G5 := (Eq.trans (hf159.get krm rfl) (Eq.trans (hf156.get krm rfl) (Eq.trans (hf155.get krm rfl) (Eq.trans (hf149.get krm rfl) (Eq.trans (hf145.get krm rfl) (Eq.trans (hf144.get krm rfl) (Eq.trans (hf6.get krm rfl) (Eq.trans (hf3.get krm rfl) eG5.symm))))))))
        have hG5t : (I159 rm 5).toInt = G5.toInt := congrArg Int32.toInt hG5
        have hG6 : I159 rm 6 = G6 := (Eq.trans (hf159.get krm rfl) (Eq.trans (hf156.get krm rfl) (Eq.trans (hf155.get krm rfl) (Eq.trans (hf149.get krm rfl) (Eq.trans (hf145.get krm rfl) (Eq.trans (hf144.get krm rfl) (Eq.trans (hf6.get krm rfl) (Eq.trans (hf3.get krm rfl) eG6.symm))))))))
        have hG6t : (I159 rm 6).toInt = G6.toInt := congrArg Int32.toInt hG6
        have hG7 : I159 rm 7 = G7 := (Eq.trans (hf159.get krm rfl) (Eq.trans (hf156.get krm rfl) (Eq.trans (hf155.get krm rfl) (Eq.trans (hf149.get krm rfl) (Eq.trans (hf145.get krm rfl) (Eq.trans (hf144.get krm rfl) (Eq.trans (hf6.get krm rfl) (Eq.trans (hf3.get krm rfl) eG7.symm))))))))
        have hG7t : (I159 rm 7).toInt = G7.toInt := congrArg Int32.toInt hG7
        have hG8 : I159 rm 8 = G8 := (Eq.trans (hf159.get krm rfl) (Eq.trans (hf156.get krm rfl) (Eq.trans (hf155.get krm rfl) (Eq.trans (hf149.get krm rfl) (Eq.trans (hf145.get krm rfl) (Eq.trans (hf144.get krm rfl) (Eq.trans (hf6.get krm rfl) (Eq.trans (hf3.get krm rfl) eG8.symm))))))))
        have hG8t : (I159 rm 8).toInt = G8.toInt := congrArg Int32.toInt hG8
        have hG9 : I159 rm 9 = x5_ := (Eq.trans (hf159.get krm rfl) (Eq.trans (hf156.get krm rfl) (Eq.trans (hf155.get krm rfl) (Eq.trans (hf149.get krm rfl) (Eq.trans (hf145.get krm rfl) (Eq.trans (hf144.get krm rfl) (Eq.trans (hf6.get krm rfl) e5.symm)))))))
        have hG9t : (I159 rm 9).toInt = x5_.toInt := congrArg Int32.toInt hG9
        have hG10 : I159 rm 10 = N1 := (Eq.trans (hf159.get krm rfl) (Eq.trans (hf156.get krm rfl) (Eq.trans (hf155.get krm rfl) (Eq.trans (hf149.get krm rfl) (Eq.trans (hf145.get krm rfl) (Eq.trans (hf144.get krm rfl) eN1.symm))))))
        have hG10t : (I159 rm 10).toInt = N1.toInt := congrArg Int32.toInt hG10
        exact r_vret hC hQ hlk hr (by decide) (by decide) dX10_readKnower_113 ⟨_, _, rfl, rfl, ⟨hs159, hF159, hFJ159, (by exact Or.inr ⟨kf6, qf6, by unfold sKnower; rw [pif_f hbg, hsp6, bnd_er], by omega, by omega, by omega⟩), (by exact om159), (by exact oc159)⟩⟩
      · refine r_aload_n hC dX10_readKnower_72 1 rfl ?_
        refine r_getr hC 4 (ci := 10) rfl u10_in (by decide) mT_4_239 dX10_readKnower_73 ka0 rfl rfl hbr ?_
        refine r_getrN hC 26 (ci := 9) rfl u9_in (by decide) nF_26 dX10_readKnower_76 krm rfl rfl hns ?_
        refine r_iload_n hC dX10_readKnower_79 0 rfl ?_
        refine x_iaload hC kns lns (by decide) rfl rfl dX10_readKnower_80 (by omega) (by omega) (fun x163_ e163 => ?_)
        refine r_if_eq hC (tgt := 89) dX10_readKnower_81 (by decide) (fun c164 => ?_) (fun c164 => ?_)
        · refine r_aload_n hC dX10_readKnower_89 1 rfl ?_
          refine r_callV hC (As := []) (rest := []) (ci := 10) (e_X10_goesOn g (xL X) K len I149 J145 R hs149 a0 ka0 (by omega)) mT_5_199 mT_1_10 mT_5_196 mT_5_198 mP_49 okX10_goesOn ⟨by decide, by decide⟩ rfl (by show kO (K a0) = _; rw [ka0]; rfl) rfl rfl (Nat.le_of_ble_eq_true rfl) ⟨by decide, by decide⟩ dX10_readKnower_90 (aV2 (F := fun st M => P g X 3 93 [(1, .int x151_), (0, .ref a0)] st _ _ M) (M := (K, len, I149, J145, R)) fun I165 J165 h165 => ?_)
          obtain ⟨hs165, hf165, hfj165, k165_0, k165_1, k165_2⟩ := h165
          show P g X 3 93 [(1, .int x151_), (0, .ref a0)] [] _ _ (K, len, I165, J165, R)
          have hF165 : Fr K [(10, 9), (10, 10), (11, 8), (11, 9), (11, 10), (11, 11), (11, 12), (11, 13), (80, 999), (81, 999), (83, 999), (84, 999)] I I165 := hF149.trans hf165 rfl rfl
          have hFJ165 : Fr K [(11, 14), (82, 999)] J J165 := hFJ145.trans hfj165 rfl rfl
          have oc165 := oc149.mv qM_big hf165 rfl
          have om165 := om149.mv hf165 rfl
          refine r_aload_n hC dX10_readKnower_93 1 rfl ?_
          refine r_ldcwS hC (i := 59) (by decide) rfl rfl dX10_readKnower_94 ?_
          refine r_iconst hC (v := (0)) dX10_readKnower_97 (by decide) (by decide) (fun x166_ e166 t166 => ?_)
          refine r_sipush hC (v := (999)) dX10_readKnower_98 (by decide) (by decide) (fun x167_ e167 t167 => ?_)
          refine r_callV hC (As := [.ref (g.2.2.1 59), .int x166_, .int x167_]) (rest := []) (ci := 10) (e_X10_readPart g (xL X) K len I165 J165 R hs165 a0 ka0 59 (by decide) x166_ x167_ (by omega)) mT_6_1 mT_1_10 mT_5_238 mT_6_0 mP_56 okX10_readPart ⟨by decide, by decide⟩ rfl (by show kO (K a0) = _; rw [ka0]; rfl) rfl rfl (Nat.le_of_ble_eq_true rfl) ⟨by decide, by decide⟩ dX10_readKnower_101 (aI2 (F := fun st M => P g X 3 104 [(1, .int x151_), (0, .ref a0)] st _ _ M) (M := (K, len, I165, J165, R)) fun x168_ I168 J168 h168 => ?_)
          obtain ⟨hs168, hf168, hfj168, k168_0, k168_1, k168_2⟩ := h168
          show P g X 3 104 [(1, .int x151_), (0, .ref a0)] [.int x168_] _ _ (K, len, I168, J168, R)
          have hF168 : Fr K [(10, 9), (10, 10), (11, 8), (11, 9), (11, 10), (11, 11), (11, 12), (11, 13), (80, 999), (81, 999), (83, 999), (84, 999)] I I168 := hF165.trans hf168 rfl rfl
          have hFJ168 : Fr K [(11, 14), (82, 999)] J J168 := hFJ165.trans hfj168 rfl rfl
          have oc168 := oc165.mv qM_big hf168 rfl
          have om168 := om165.mv hf168 rfl
          refine r_istore_n hC (lv' := [(2, .int x168_), (1, .int x151_), (0, .ref a0)]) dX10_readKnower_104 (by decide) rfl ?_
          refine r_aload_n hC dX10_readKnower_105 2 rfl ?_
          refine r_geti hC 9 (ci := 10) rfl u10_in (by decide) mT_5_4 dX10_readKnower_106 ka0 rfl rfl (fun x169_ e169 => ?_)
          have f169 : x169_.toInt = (I168 a0 9).toInt := by rw [e169]
          refine r_iconst hC (v := (5)) dX10_readKnower_109 (by decide) (by decide) (fun x170_ e170 t170 => ?_)
          refine r_icmp_ne hC (tgt := 114) dX10_readKnower_110 (by decide) (fun c171 => ?_) (fun c171 => ?_)
          · exfalso; omega
          have hG0 : I168 rm 0 = G0 := (Eq.trans (hf168.get krm rfl) (Eq.trans (hf165.get krm rfl) (Eq.trans (hf149.get krm rfl) (Eq.trans (hf145.get krm rfl) (Eq.trans (hf144.get krm rfl) (Eq.trans (hf6.get krm rfl) (Eq.trans (hf3.get krm rfl) eG0.symm)))))))
          have hG0t : (I168 rm 0).toInt = G0.toInt := congrArg Int32.toInt hG0
          have hG1 : I168 rm 1 = G1 := (Eq.trans (hf168.get krm rfl) (Eq.trans (hf165.get krm rfl) (Eq.trans (hf149.get krm rfl) (Eq.trans (hf145.get krm rfl) (Eq.trans (hf144.get krm rfl) (Eq.trans (hf6.get krm rfl) (Eq.trans (hf3.get krm rfl) eG1.symm)))))))
          have hG1t : (I168 rm 1).toInt = G1.toInt := congrArg Int32.toInt hG1
          have hG2 : I168 rm 2 = G2 := (Eq.trans (hf168.get krm rfl) (Eq.trans (hf165.get krm rfl) (Eq.trans (hf149.get krm rfl) (Eq.trans (hf145.get krm rfl) (Eq.trans (hf144.get krm rfl) (Eq.trans (hf6.get krm rfl) (Eq.trans (hf3.get krm rfl) eG2.symm)))))))
          have hG2t : (I168 rm 2).toInt = G2.toInt := congrArg Int32.toInt hG2
          have hG3 : I168 rm 3 = G3 := (Eq.trans (hf168.get krm rfl) (Eq.trans (hf165.get krm rfl) (Eq.trans (hf149.get krm rfl) (Eq.trans (hf145.get krm rfl) (Eq.trans (hf144.get krm rfl) (Eq.trans (hf6.get krm rfl) (Eq.trans (hf3.get krm rfl) eG3.symm)))))))
          have hG3t : (I168 rm 3).toInt = G3.toInt := congrArg Int32.toInt hG3
          have hG4 : I168 rm 4 = G4 := (Eq.trans (hf168.get krm rfl) (Eq.trans (hf165.get krm rfl) (Eq.trans (hf149.get krm rfl) (Eq.trans (hf145.get krm rfl) (Eq.trans (hf144.get krm rfl) (Eq.trans (hf6.get krm rfl) (Eq.trans (hf3.get krm rfl) eG4.symm)))))))
          have hG4t : (I168 rm 4).toInt = G4.toInt := congrArg Int32.toInt hG4
          have hG5 : I168 rm 5 = G5 := (Eq.trans (hf168.get krm rfl) (Eq.trans (hf165.get krm rfl) (Eq.trans (hf149.get krm rfl) (Eq.trans (hf145.get krm rfl) (Eq.trans (hf144.get krm rfl) (Eq.trans (hf6.get krm rfl) (Eq.trans (hf3.get krm rfl) eG5.symm)))))))
          have hG5t : (I168 rm 5).toInt = G5.toInt := congrArg Int32.toInt hG5
          have hG6 : I168 rm 6 = G6 := (Eq.trans (hf168.get krm rfl) (Eq.trans (hf165.get krm rfl) (Eq.trans (hf149.get krm rfl) (Eq.trans (hf145.get krm rfl) (Eq.trans (hf144.get krm rfl) (Eq.trans (hf6.get krm rfl) (Eq.trans (hf3.get krm rfl) eG6.symm)))))))
          have hG6t : (I168 rm 6).toInt = G6.toInt := congrArg Int32.toInt hG6
          have hG7 : I168 rm 7 = G7 := (Eq.trans (hf168.get krm rfl) (Eq.trans (hf165.get krm rfl) (Eq.trans (hf149.get krm rfl) (Eq.trans (hf145.get krm rfl) (Eq.trans (hf144.get krm rfl) (Eq.trans (hf6.get krm rfl) (Eq.trans (hf3.get krm rfl) eG7.symm)))))))
          have hG7t : (I168 rm 7).toInt = G7.toInt := congrArg Int32.toInt hG7
          have hG8 : I168 rm 8 = G8 := (Eq.trans (hf168.get krm rfl) (Eq.trans (hf165.get krm rfl) (Eq.trans (hf149.get krm rfl) (Eq.trans (hf145.get krm rfl) (Eq.trans (hf144.get krm rfl) (Eq.trans (hf6.get krm rfl) (Eq.trans (hf3.get krm rfl) eG8.symm)))))))
          have hG8t : (I168 rm 8).toInt = G8.toInt := congrArg Int32.toInt hG8
          have hG9 : I168 rm 9 = x5_ := (Eq.trans (hf168.get krm rfl) (Eq.trans (hf165.get krm rfl) (Eq.trans (hf149.get krm rfl) (Eq.trans (hf145.get krm rfl) (Eq.trans (hf144.get krm rfl) (Eq.trans (hf6.get krm rfl) e5.symm))))))
          have hG9t : (I168 rm 9).toInt = x5_.toInt := congrArg Int32.toInt hG9
          have hG10 : I168 rm 10 = N1 := (Eq.trans (hf168.get krm rfl) (Eq.trans (hf165.get krm rfl) (Eq.trans (hf149.get krm rfl) (Eq.trans (hf145.get krm rfl) (Eq.trans (hf144.get krm rfl) eN1.symm)))))
          have hG10t : (I168 rm 10).toInt = N1.toInt := congrArg Int32.toInt hG10
          exact r_vret hC hQ hlk hr (by decide) (by decide) dX10_readKnower_113 ⟨_, _, rfl, rfl, ⟨hs168, hF168, hFJ168, (by exact Or.inr ⟨kf6, qf6, by unfold sKnower; rw [pif_f hbg, hsp6, bnd_er], by omega, by omega, by omega⟩), (by exact om168), (by exact oc168)⟩⟩
        · refine r_aload_n hC dX10_readKnower_84 1 rfl ?_
          refine r_iconst hC (v := (2)) dX10_readKnower_85 (by decide) (by decide) (fun x172_ e172 t172 => ?_)
          refine r_callV hC (As := [.int x172_]) (rest := []) (ci := 10) (e_X10_wrong g (xL X) K len I149 J145 R hs149 a0 ka0 x172_ (by omega)) mT_5_236 mT_1_10 mT_5_233 mT_5_235 mP_55 okX10_wrong ⟨by decide, by decide⟩ rfl (by show kO (K a0) = _; rw [ka0]; rfl) rfl rfl (Nat.le_of_ble_eq_true rfl) ⟨by decide, by decide⟩ dX10_readKnower_86 (aV1 (F := fun st M => P g X 3 89 [(1, .int x151_), (0, .ref a0)] st _ _ M) (M := (K, len, I149, J145, R)) fun I173 h173 => ?_)
          obtain ⟨hs173, hf173, k173_0, k173_1, k173_2⟩ := h173
          show P g X 3 89 [(1, .int x151_), (0, .ref a0)] [] _ _ (K, len, I173, J145, R)
          have hF173 : Fr K [(10, 9), (10, 10), (11, 8), (11, 9), (11, 10), (11, 11), (11, 12), (11, 13), (80, 999), (81, 999), (83, 999), (84, 999)] I I173 := hF149.trans hf173 rfl rfl
          have oc173 := oc149.mv qM_big hf173 rfl
          have om173 := om149.mv hf173 rfl
          refine r_aload_n hC dX10_readKnower_89 1 rfl ?_
          refine r_callV hC (As := []) (rest := []) (ci := 10) (e_X10_goesOn g (xL X) K len I173 J145 R hs173 a0 ka0 (by omega)) mT_5_199 mT_1_10 mT_5_196 mT_5_198 mP_49 okX10_goesOn ⟨by decide, by decide⟩ rfl (by show kO (K a0) = _; rw [ka0]; rfl) rfl rfl (Nat.le_of_ble_eq_true rfl) ⟨by decide, by decide⟩ dX10_readKnower_90 (aV2 (F := fun st M => P g X 3 93 [(1, .int x151_), (0, .ref a0)] st _ _ M) (M := (K, len, I173, J145, R)) fun I174 J174 h174 => ?_)
          obtain ⟨hs174, hf174, hfj174, k174_0, k174_1, k174_2⟩ := h174
          show P g X 3 93 [(1, .int x151_), (0, .ref a0)] [] _ _ (K, len, I174, J174, R)
          have hF174 : Fr K [(10, 9), (10, 10), (11, 8), (11, 9), (11, 10), (11, 11), (11, 12), (11, 13), (80, 999), (81, 999), (83, 999), (84, 999)] I I174 := hF173.trans hf174 rfl rfl
          have hFJ174 : Fr K [(11, 14), (82, 999)] J J174 := hFJ145.trans hfj174 rfl rfl
          have oc174 := oc173.mv qM_big hf174 rfl
          have om174 := om173.mv hf174 rfl
          refine r_aload_n hC dX10_readKnower_93 1 rfl ?_
          refine r_ldcwS hC (i := 59) (by decide) rfl rfl dX10_readKnower_94 ?_
          refine r_iconst hC (v := (0)) dX10_readKnower_97 (by decide) (by decide) (fun x175_ e175 t175 => ?_)
          refine r_sipush hC (v := (999)) dX10_readKnower_98 (by decide) (by decide) (fun x176_ e176 t176 => ?_)
          refine r_callV hC (As := [.ref (g.2.2.1 59), .int x175_, .int x176_]) (rest := []) (ci := 10) (e_X10_readPart g (xL X) K len I174 J174 R hs174 a0 ka0 59 (by decide) x175_ x176_ (by omega)) mT_6_1 mT_1_10 mT_5_238 mT_6_0 mP_56 okX10_readPart ⟨by decide, by decide⟩ rfl (by show kO (K a0) = _; rw [ka0]; rfl) rfl rfl (Nat.le_of_ble_eq_true rfl) ⟨by decide, by decide⟩ dX10_readKnower_101 (aI2 (F := fun st M => P g X 3 104 [(1, .int x151_), (0, .ref a0)] st _ _ M) (M := (K, len, I174, J174, R)) fun x177_ I177 J177 h177 => ?_)
          obtain ⟨hs177, hf177, hfj177, k177_0, k177_1, k177_2⟩ := h177
          show P g X 3 104 [(1, .int x151_), (0, .ref a0)] [.int x177_] _ _ (K, len, I177, J177, R)
          have hF177 : Fr K [(10, 9), (10, 10), (11, 8), (11, 9), (11, 10), (11, 11), (11, 12), (11, 13), (80, 999), (81, 999), (83, 999), (84, 999)] I I177 := hF174.trans hf177 rfl rfl
          have hFJ177 : Fr K [(11, 14), (82, 999)] J J177 := hFJ174.trans hfj177 rfl rfl
          have oc177 := oc174.mv qM_big hf177 rfl
          have om177 := om174.mv hf177 rfl
          refine r_istore_n hC (lv' := [(2, .int x177_), (1, .int x151_), (0, .ref a0)]) dX10_readKnower_104 (by decide) rfl ?_
          refine r_aload_n hC dX10_readKnower_105 2 rfl ?_
          refine r_geti hC 9 (ci := 10) rfl u10_in (by decide) mT_5_4 dX10_readKnower_106 ka0 rfl rfl (fun x178_ e178 => ?_)
          have f178 : x178_.toInt = (I177 a0 9).toInt := by rw [e178]
          refine r_iconst hC (v := (5)) dX10_readKnower_109 (by decide) (by decide) (fun x179_ e179 t179 => ?_)
          refine r_icmp_ne hC (tgt := 114) dX10_readKnower_110 (by decide) (fun c180 => ?_) (fun c180 => ?_)
          · exfalso; omega
          have hG0 : I177 rm 0 = G0 := (Eq.trans (hf177.get krm rfl) (Eq.trans (hf174.get krm rfl) (Eq.trans (hf173.get krm rfl) (Eq.trans (hf149.get krm rfl) (Eq.trans (hf145.get krm rfl) (Eq.trans (hf144.get krm rfl) (Eq.trans (hf6.get krm rfl) (Eq.trans (hf3.get krm rfl) eG0.symm))))))))
          have hG0t : (I177 rm 0).toInt = G0.toInt := congrArg Int32.toInt hG0
          have hG1 : I177 rm 1 = G1 := (Eq.trans (hf177.get krm rfl) (Eq.trans (hf174.get krm rfl) (Eq.trans (hf173.get krm rfl) (Eq.trans (hf149.get krm rfl) (Eq.trans (hf145.get krm rfl) (Eq.trans (hf144.get krm rfl) (Eq.trans (hf6.get krm rfl) (Eq.trans (hf3.get krm rfl) eG1.symm))))))))
          have hG1t : (I177 rm 1).toInt = G1.toInt := congrArg Int32.toInt hG1
          have hG2 : I177 rm 2 = G2 := (Eq.trans (hf177.get krm rfl) (Eq.trans (hf174.get krm rfl) (Eq.trans (hf173.get krm rfl) (Eq.trans (hf149.get krm rfl) (Eq.trans (hf145.get krm rfl) (Eq.trans (hf144.get krm rfl) (Eq.trans (hf6.get krm rfl) (Eq.trans (hf3.get krm rfl) eG2.symm))))))))
          have hG2t : (I177 rm 2).toInt = G2.toInt := congrArg Int32.toInt hG2
          have hG3 : I177 rm 3 = G3 := (Eq.trans (hf177.get krm rfl) (Eq.trans (hf174.get krm rfl) (Eq.trans (hf173.get krm rfl) (Eq.trans (hf149.get krm rfl) (Eq.trans (hf145.get krm rfl) (Eq.trans (hf144.get krm rfl) (Eq.trans (hf6.get krm rfl) (Eq.trans (hf3.get krm rfl) eG3.symm))))))))
          have hG3t : (I177 rm 3).toInt = G3.toInt := congrArg Int32.toInt hG3
          have hG4 : I177 rm 4 = G4 := (Eq.trans (hf177.get krm rfl) (Eq.trans (hf174.get krm rfl) (Eq.trans (hf173.get krm rfl) (Eq.trans (hf149.get krm rfl) (Eq.trans (hf145.get krm rfl) (Eq.trans (hf144.get krm rfl) (Eq.trans (hf6.get krm rfl) (Eq.trans (hf3.get krm rfl) eG4.symm))))))))
          have hG4t : (I177 rm 4).toInt = G4.toInt := congrArg Int32.toInt hG4
          have hG5 : I177 rm 5 = G5 := (Eq.trans (hf177.get krm rfl) (Eq.trans (hf174.get krm rfl) (Eq.trans (hf173.get krm rfl) (Eq.trans (hf149.get krm rfl) (Eq.trans (hf145.get krm rfl) (Eq.trans (hf144.get krm rfl) (Eq.trans (hf6.get krm rfl) (Eq.trans (hf3.get krm rfl) eG5.symm))))))))
          have hG5t : (I177 rm 5).toInt = G5.toInt := congrArg Int32.toInt hG5
          have hG6 : I177 rm 6 = G6 := (Eq.trans (hf177.get krm rfl) (Eq.trans (hf174.get krm rfl) (Eq.trans (hf173.get krm rfl) (Eq.trans (hf149.get krm rfl) (Eq.trans (hf145.get krm rfl) (Eq.trans (hf144.get krm rfl) (Eq.trans (hf6.get krm rfl) (Eq.trans (hf3.get krm rfl) eG6.symm))))))))
          have hG6t : (I177 rm 6).toInt = G6.toInt := congrArg Int32.toInt hG6
          have hG7 : I177 rm 7 = G7 := (Eq.trans (hf177.get krm rfl) (Eq.trans (hf174.get krm rfl) (Eq.trans (hf173.get krm rfl) (Eq.trans (hf149.get krm rfl) (Eq.trans (hf145.get krm rfl) (Eq.trans (hf144.get krm rfl) (Eq.trans (hf6.get krm rfl) (Eq.trans (hf3.get krm rfl) eG7.symm))))))))
          have hG7t : (I177 rm 7).toInt = G7.toInt := congrArg Int32.toInt hG7
          have hG8 : I177 rm 8 = G8 := (Eq.trans (hf177.get krm rfl) (Eq.trans (hf174.get krm rfl) (Eq.trans (hf173.get krm rfl) (Eq.trans (hf149.get krm rfl) (Eq.trans (hf145.get krm rfl) (Eq.trans (hf144.get krm rfl) (Eq.trans (hf6.get krm rfl) (Eq.trans (hf3.get krm rfl) eG8.symm))))))))
          have hG8t : (I177 rm 8).toInt = G8.toInt := congrArg Int32.toInt hG8
          have hG9 : I177 rm 9 = x5_ := (Eq.trans (hf177.get krm rfl) (Eq.trans (hf174.get krm rfl) (Eq.trans (hf173.get krm rfl) (Eq.trans (hf149.get krm rfl) (Eq.trans (hf145.get krm rfl) (Eq.trans (hf144.get krm rfl) (Eq.trans (hf6.get krm rfl) e5.symm)))))))
          have hG9t : (I177 rm 9).toInt = x5_.toInt := congrArg Int32.toInt hG9
          have hG10 : I177 rm 10 = N1 := (Eq.trans (hf177.get krm rfl) (Eq.trans (hf174.get krm rfl) (Eq.trans (hf173.get krm rfl) (Eq.trans (hf149.get krm rfl) (Eq.trans (hf145.get krm rfl) (Eq.trans (hf144.get krm rfl) eN1.symm))))))
          have hG10t : (I177 rm 10).toInt = N1.toInt := congrArg Int32.toInt hG10
          exact r_vret hC hQ hlk hr (by decide) (by decide) dX10_readKnower_113 ⟨_, _, rfl, rfl, ⟨hs177, hF177, hFJ177, (by exact Or.inr ⟨kf6, qf6, by unfold sKnower; rw [pif_f hbg, hsp6, bnd_er], by omega, by omega, by omega⟩), (by exact om177), (by exact oc177)⟩⟩
  · have hbg : 4 ≤ D 0 9 := by omega
    refine r_aload_n hC dX10_readKnower_12 0 rfl ?_
    refine r_iconst hC (v := (1)) dX10_readKnower_13 (by decide) (by decide) (fun x181_ e181 t181 => ?_)
    refine r_aload_n hC dX10_readKnower_14 0 rfl ?_
    refine r_getr hC 4 (ci := 10) rfl u10_in (by decide) mT_4_239 dX10_readKnower_15 ka0 rfl rfl hbr ?_
    refine r_getiN hC 9 (ci := 9) rfl u9_in (by decide) nF_9 dX10_readKnower_18 krm rfl rfl (fun x182_ e182 => ?_)
    have r182 := hs3.rng krm rfl e182
    have f182 : x182_.toInt = (I3 rm 9).toInt := by rw [e182]
    have w182 : x182_ = x1_ := by rw [e182]; exact (Eq.trans (hf3.get krm rfl) e1.symm)
    have wt182 : x182_.toInt = x1_.toInt := by rw [w182]
    have q10 : I3 rm 10 = G10 := (Eq.trans (hf3.get krm rfl) eG10.symm)
    have q10t : (I3 rm 10).toInt = G10.toInt := congrArg Int32.toInt q10
    refine r_callV hC (As := [.int x181_, .int x182_]) (rest := []) (ci := 10) (e_X10_readFresh g (xL X) K len I3 J3 R hs3 a0 ka0 x181_ x182_ rm hbr krm (by omega)) mT_6_23 mT_1_10 mT_6_20 mT_6_22 mP_60 okX10_readFresh ⟨by decide, by decide⟩ rfl (by show kO (K a0) = _; rw [ka0]; rfl) rfl rfl (Nat.le_of_ble_eq_true rfl) ⟨by decide, by decide⟩ dX10_readKnower_21 (aV2 (F := fun st M => P g X 3 24 [(0, .ref a0)] st _ _ M) (M := (K, len, I3, J3, R)) fun I183 J183 h183 => ?_)
    obtain ⟨hs183, hf183, hfj183, k183_0, k183_1, k183_2, k183_3⟩ := h183
    show P g X 3 24 [(0, .ref a0)] [] _ _ (K, len, I183, J183, R)
    have hF183 : Fr K [(10, 9), (10, 10), (11, 8), (11, 9), (11, 10), (11, 11), (11, 12), (11, 13), (80, 999), (81, 999), (83, 999), (84, 999)] I I183 := hF3.trans hf183 rfl rfl
    have hFJ183 : Fr K [(11, 14), (82, 999)] J J183 := hFJ3.trans hfj183 rfl rfl
    have oc183 := oc3.mv qM_big hf183 rfl
    have om183 := om3.tr k183_3
    obtain ⟨N1, eN1⟩ : ∃ z : Int32, z = I183 rm 10 := ⟨_, rfl⟩
    have fN1 : N1.toInt = (I183 rm 10).toInt := by rw [eN1]
    have rN1 := hs183.rng krm rfl eN1
    refine r_aload_n hC dX10_readKnower_24 0 rfl ?_
    refine r_ldcwS hC (i := 58) (by decide) rfl rfl dX10_readKnower_25 ?_
    refine r_callV hC (As := [.ref (g.2.2.1 58)]) (rest := []) (ci := 10) (e_X10_isWord g (xL X) K len I183 J183 R hs183 a0 ka0 58 (by decide) (by omega)) mT_5_223 mT_1_10 mT_5_220 mT_5_222 mP_53 okX10_isWord ⟨by decide, by decide⟩ rfl (by show kO (K a0) = _; rw [ka0]; rfl) rfl rfl (Nat.le_of_ble_eq_true rfl) ⟨by decide, by decide⟩ dX10_readKnower_28 (aI0 (F := fun st M => P g X 3 31 [(0, .ref a0)] st _ _ M) (M := (K, len, I183, J183, R)) fun x184_ h184 => ?_)
    have k184_0 := h184
    clear h184
    show P g X 3 31 [(0, .ref a0)] [.int x184_] _ _ (K, len, I183, J183, R)
    refine r_if_ne hC (tgt := 39) dX10_readKnower_31 (by decide) (fun c185 => ?_) (fun c185 => ?_)
    · exfalso; omega
    refine r_aload_n hC dX10_readKnower_34 0 rfl ?_
    refine r_iconst hC (v := (1)) dX10_readKnower_35 (by decide) (by decide) (fun x186_ e186 t186 => ?_)
    refine r_callV hC (As := [.int x186_]) (rest := []) (ci := 10) (e_X10_wrong g (xL X) K len I183 J183 R hs183 a0 ka0 x186_ (by omega)) mT_5_236 mT_1_10 mT_5_233 mT_5_235 mP_55 okX10_wrong ⟨by decide, by decide⟩ rfl (by show kO (K a0) = _; rw [ka0]; rfl) rfl rfl (Nat.le_of_ble_eq_true rfl) ⟨by decide, by decide⟩ dX10_readKnower_36 (aV1 (F := fun st M => P g X 3 39 [(0, .ref a0)] st _ _ M) (M := (K, len, I183, J183, R)) fun I187 h187 => ?_)
    obtain ⟨hs187, hf187, k187_0, k187_1, k187_2⟩ := h187
    show P g X 3 39 [(0, .ref a0)] [] _ _ (K, len, I187, J183, R)
    have hF187 : Fr K [(10, 9), (10, 10), (11, 8), (11, 9), (11, 10), (11, 11), (11, 12), (11, 13), (80, 999), (81, 999), (83, 999), (84, 999)] I I187 := hF183.trans hf187 rfl rfl
    have oc187 := oc183.mv qM_big hf187 rfl
    have om187 := om183.mv hf187 rfl
    refine r_aload_n hC dX10_readKnower_39 0 rfl ?_
    refine r_callV hC (As := []) (rest := []) (ci := 10) (e_X10_goesOn g (xL X) K len I187 J183 R hs187 a0 ka0 (by omega)) mT_5_199 mT_1_10 mT_5_196 mT_5_198 mP_49 okX10_goesOn ⟨by decide, by decide⟩ rfl (by show kO (K a0) = _; rw [ka0]; rfl) rfl rfl (Nat.le_of_ble_eq_true rfl) ⟨by decide, by decide⟩ dX10_readKnower_40 (aV2 (F := fun st M => P g X 3 43 [(0, .ref a0)] st _ _ M) (M := (K, len, I187, J183, R)) fun I188 J188 h188 => ?_)
    obtain ⟨hs188, hf188, hfj188, k188_0, k188_1, k188_2⟩ := h188
    show P g X 3 43 [(0, .ref a0)] [] _ _ (K, len, I188, J188, R)
    have hF188 : Fr K [(10, 9), (10, 10), (11, 8), (11, 9), (11, 10), (11, 11), (11, 12), (11, 13), (80, 999), (81, 999), (83, 999), (84, 999)] I I188 := hF187.trans hf188 rfl rfl
    have hFJ188 : Fr K [(11, 14), (82, 999)] J J188 := hFJ183.trans hfj188 rfl rfl
    have oc188 := oc187.mv qM_big hf188 rfl
    have om188 := om187.mv hf188 rfl
    refine r_aload_n hC dX10_readKnower_43 0 rfl ?_
    refine r_callV hC (As := []) (rest := []) (ci := 10) (e_X10_isName g (xL X) K len I188 J188 R hs188 a0 ka0 (by omega)) mT_6_27 mT_1_10 mT_6_24 mT_6_26 mP_61 okX10_isName ⟨by decide, by decide⟩ rfl (by show kO (K a0) = _; rw [ka0]; rfl) rfl rfl (Nat.le_of_ble_eq_true rfl) ⟨by decide, by decide⟩ dX10_readKnower_44 (aI0 (F := fun st M => P g X 3 47 [(0, .ref a0)] st _ _ M) (M := (K, len, I188, J188, R)) fun x189_ h189 => ?_)
    have k189_0 := h189
    clear h189
    show P g X 3 47 [(0, .ref a0)] [.int x189_] _ _ (K, len, I188, J188, R)
    refine r_if_ne hC (tgt := 55) dX10_readKnower_47 (by decide) (fun c190 => ?_) (fun c190 => ?_)
    · exfalso; omega
    refine r_aload_n hC dX10_readKnower_50 0 rfl ?_
    refine r_iconst hC (v := (1)) dX10_readKnower_51 (by decide) (by decide) (fun x191_ e191 t191 => ?_)
    refine r_callV hC (As := [.int x191_]) (rest := []) (ci := 10) (e_X10_wrong g (xL X) K len I188 J188 R hs188 a0 ka0 x191_ (by omega)) mT_5_236 mT_1_10 mT_5_233 mT_5_235 mP_55 okX10_wrong ⟨by decide, by decide⟩ rfl (by show kO (K a0) = _; rw [ka0]; rfl) rfl rfl (Nat.le_of_ble_eq_true rfl) ⟨by decide, by decide⟩ dX10_readKnower_52 (aV1 (F := fun st M => P g X 3 55 [(0, .ref a0)] st _ _ M) (M := (K, len, I188, J188, R)) fun I192 h192 => ?_)
    obtain ⟨hs192, hf192, k192_0, k192_1, k192_2⟩ := h192
    show P g X 3 55 [(0, .ref a0)] [] _ _ (K, len, I192, J188, R)
    have hF192 : Fr K [(10, 9), (10, 10), (11, 8), (11, 9), (11, 10), (11, 11), (11, 12), (11, 13), (80, 999), (81, 999), (83, 999), (84, 999)] I I192 := hF188.trans hf192 rfl rfl
    have oc192 := oc188.mv qM_big hf192 rfl
    have om192 := om188.mv hf192 rfl
    refine r_aload_n hC dX10_readKnower_55 0 rfl ?_
    refine r_getr hC 4 (ci := 10) rfl u10_in (by decide) mT_4_239 dX10_readKnower_56 ka0 rfl rfl hbr ?_
    refine r_aload_n hC dX10_readKnower_59 0 rfl ?_
    refine r_getj hC 14 (ci := 10) rfl u10_in (by decide) mT_5_9 dX10_readKnower_60 ka0 rfl rfl (fun y193_ e193 => ?_)
    have fj193 : y193_.toInt = (J188 a0 14).toInt := by rw [e193]
    refine r_callV hC (As := [.long y193_]) (rest := []) (ci := 9) (c_X9_find g (xL X) K len I192 J188 R hs192 rm krm y193_) mT_6_36 mT_1_17 mT_6_33 mT_6_34 mT_6_35 okX9_find ⟨by decide, by decide⟩ rfl (by show kO (K rm) = _; rw [krm]; rfl) rfl rfl (Nat.le_of_ble_eq_true rfl) ⟨by decide, by decide⟩ dX10_readKnower_63 (aI0 (F := fun st M => P g X 3 66 [(0, .ref a0)] st _ _ M) (M := (K, len, I192, J188, R)) fun x194_ h194 => ?_)
    obtain ⟨k194_0, k194_1⟩ := h194
    show P g X 3 66 [(0, .ref a0)] [.int x194_] _ _ (K, len, I192, J188, R)
    refine r_istore_n hC (lv' := [(1, .int x194_), (0, .ref a0)]) dX10_readKnower_66 (by decide) rfl ?_
    refine r_iload_n hC dX10_readKnower_67 0 rfl ?_
    refine r_iconst hC (v := (-1)) dX10_readKnower_68 (by decide) (by decide) (fun x195_ e195 t195 => ?_)
    refine r_icmp_eq hC (tgt := 84) dX10_readKnower_69 (by decide) (fun c196 => ?_) (fun c196 => ?_)
    · refine r_aload_n hC dX10_readKnower_84 1 rfl ?_
      refine r_iconst hC (v := (2)) dX10_readKnower_85 (by decide) (by decide) (fun x197_ e197 t197 => ?_)
      refine r_callV hC (As := [.int x197_]) (rest := []) (ci := 10) (e_X10_wrong g (xL X) K len I192 J188 R hs192 a0 ka0 x197_ (by omega)) mT_5_236 mT_1_10 mT_5_233 mT_5_235 mP_55 okX10_wrong ⟨by decide, by decide⟩ rfl (by show kO (K a0) = _; rw [ka0]; rfl) rfl rfl (Nat.le_of_ble_eq_true rfl) ⟨by decide, by decide⟩ dX10_readKnower_86 (aV1 (F := fun st M => P g X 3 89 [(1, .int x194_), (0, .ref a0)] st _ _ M) (M := (K, len, I192, J188, R)) fun I198 h198 => ?_)
      obtain ⟨hs198, hf198, k198_0, k198_1, k198_2⟩ := h198
      show P g X 3 89 [(1, .int x194_), (0, .ref a0)] [] _ _ (K, len, I198, J188, R)
      have hF198 : Fr K [(10, 9), (10, 10), (11, 8), (11, 9), (11, 10), (11, 11), (11, 12), (11, 13), (80, 999), (81, 999), (83, 999), (84, 999)] I I198 := hF192.trans hf198 rfl rfl
      have oc198 := oc192.mv qM_big hf198 rfl
      have om198 := om192.mv hf198 rfl
      refine r_aload_n hC dX10_readKnower_89 1 rfl ?_
      refine r_callV hC (As := []) (rest := []) (ci := 10) (e_X10_goesOn g (xL X) K len I198 J188 R hs198 a0 ka0 (by omega)) mT_5_199 mT_1_10 mT_5_196 mT_5_198 mP_49 okX10_goesOn ⟨by decide, by decide⟩ rfl (by show kO (K a0) = _; rw [ka0]; rfl) rfl rfl (Nat.le_of_ble_eq_true rfl) ⟨by decide, by decide⟩ dX10_readKnower_90 (aV2 (F := fun st M => P g X 3 93 [(1, .int x194_), (0, .ref a0)] st _ _ M) (M := (K, len, I198, J188, R)) fun I199 J199 h199 => ?_)
      obtain ⟨hs199, hf199, hfj199, k199_0, k199_1, k199_2⟩ := h199
      show P g X 3 93 [(1, .int x194_), (0, .ref a0)] [] _ _ (K, len, I199, J199, R)
      have hF199 : Fr K [(10, 9), (10, 10), (11, 8), (11, 9), (11, 10), (11, 11), (11, 12), (11, 13), (80, 999), (81, 999), (83, 999), (84, 999)] I I199 := hF198.trans hf199 rfl rfl
      have hFJ199 : Fr K [(11, 14), (82, 999)] J J199 := hFJ188.trans hfj199 rfl rfl
      have oc199 := oc198.mv qM_big hf199 rfl
      have om199 := om198.mv hf199 rfl
      refine r_aload_n hC dX10_readKnower_93 1 rfl ?_
      refine r_ldcwS hC (i := 59) (by decide) rfl rfl dX10_readKnower_94 ?_
      refine r_iconst hC (v := (0)) dX10_readKnower_97 (by decide) (by decide) (fun x200_ e200 t200 => ?_)
      refine r_sipush hC (v := (999)) dX10_readKnower_98 (by decide) (by decide) (fun x201_ e201 t201 => ?_)
      refine r_callV hC (As := [.ref (g.2.2.1 59), .int x200_, .int x201_]) (rest := []) (ci := 10) (e_X10_readPart g (xL X) K len I199 J199 R hs199 a0 ka0 59 (by decide) x200_ x201_ (by omega)) mT_6_1 mT_1_10 mT_5_238 mT_6_0 mP_56 okX10_readPart ⟨by decide, by decide⟩ rfl (by show kO (K a0) = _; rw [ka0]; rfl) rfl rfl (Nat.le_of_ble_eq_true rfl) ⟨by decide, by decide⟩ dX10_readKnower_101 (aI2 (F := fun st M => P g X 3 104 [(1, .int x194_), (0, .ref a0)] st _ _ M) (M := (K, len, I199, J199, R)) fun x202_ I202 J202 h202 => ?_)
      obtain ⟨hs202, hf202, hfj202, k202_0, k202_1, k202_2⟩ := h202
      show P g X 3 104 [(1, .int x194_), (0, .ref a0)] [.int x202_] _ _ (K, len, I202, J202, R)
      have hF202 : Fr K [(10, 9), (10, 10), (11, 8), (11, 9), (11, 10), (11, 11), (11, 12), (11, 13), (80, 999), (81, 999), (83, 999), (84, 999)] I I202 := hF199.trans hf202 rfl rfl
      have hFJ202 : Fr K [(11, 14), (82, 999)] J J202 := hFJ199.trans hfj202 rfl rfl
      have oc202 := oc199.mv qM_big hf202 rfl
      have om202 := om199.mv hf202 rfl
      refine r_istore_n hC (lv' := [(2, .int x202_), (1, .int x194_), (0, .ref a0)]) dX10_readKnower_104 (by decide) rfl ?_
      refine r_aload_n hC dX10_readKnower_105 2 rfl ?_
      refine r_geti hC 9 (ci := 10) rfl u10_in (by decide) mT_5_4 dX10_readKnower_106 ka0 rfl rfl (fun x203_ e203 => ?_)
      have f203 : x203_.toInt = (I202 a0 9).toInt := by rw [e203]
      refine r_iconst hC (v := (5)) dX10_readKnower_109 (by decide) (by decide) (fun x204_ e204 t204 => ?_)
      refine r_icmp_ne hC (tgt := 114) dX10_readKnower_110 (by decide) (fun c205 => ?_) (fun c205 => ?_)
      · exfalso; omega
      have hG0 : I202 rm 0 = G0 := (Eq.trans (hf202.get krm rfl) (Eq.trans (hf199.get krm rfl) (Eq.trans (hf198.get krm rfl) (Eq.trans (hf192.get krm rfl) (Eq.trans (hf188.get krm rfl) (Eq.trans (hf187.get krm rfl) (Eq.trans (hf183.get krm rfl) (Eq.trans (hf3.get krm rfl) eG0.symm))))))))
      have hG0t : (I202 rm 0).toInt = G0.toInt := congrArg Int32.toInt hG0
      have hG1 : I202 rm 1 = G1 := (Eq.trans (hf202.get krm rfl) (Eq.trans (hf199.get krm rfl) (Eq.trans (hf198.get krm rfl) (Eq.trans (hf192.get krm rfl) (Eq.trans (hf188.get krm rfl) (Eq.trans (hf187.get krm rfl) (Eq.trans (hf183.get krm rfl) (Eq.trans (hf3.get krm rfl) eG1.symm))))))))
      have hG1t : (I202 rm 1).toInt = G1.toInt := congrArg Int32.toInt hG1
      have hG2 : I202 rm 2 = G2 := (Eq.trans (hf202.get krm rfl) (Eq.trans (hf199.get krm rfl) (Eq.trans (hf198.get krm rfl) (Eq.trans (hf192.get krm rfl) (Eq.trans (hf188.get krm rfl) (Eq.trans (hf187.get krm rfl) (Eq.trans (hf183.get krm rfl) (Eq.trans (hf3.get krm rfl) eG2.symm))))))))
      have hG2t : (I202 rm 2).toInt = G2.toInt := congrArg Int32.toInt hG2
      have hG3 : I202 rm 3 = G3 := (Eq.trans (hf202.get krm rfl) (Eq.trans (hf199.get krm rfl) (Eq.trans (hf198.get krm rfl) (Eq.trans (hf192.get krm rfl) (Eq.trans (hf188.get krm rfl) (Eq.trans (hf187.get krm rfl) (Eq.trans (hf183.get krm rfl) (Eq.trans (hf3.get krm rfl) eG3.symm))))))))
      have hG3t : (I202 rm 3).toInt = G3.toInt := congrArg Int32.toInt hG3
      have hG4 : I202 rm 4 = G4 := (Eq.trans (hf202.get krm rfl) (Eq.trans (hf199.get krm rfl) (Eq.trans (hf198.get krm rfl) (Eq.trans (hf192.get krm rfl) (Eq.trans (hf188.get krm rfl) (Eq.trans (hf187.get krm rfl) (Eq.trans (hf183.get krm rfl) (Eq.trans (hf3.get krm rfl) eG4.symm))))))))
      have hG4t : (I202 rm 4).toInt = G4.toInt := congrArg Int32.toInt hG4
      have hG5 : I202 rm 5 = G5 := (Eq.trans (hf202.get krm rfl) (Eq.trans (hf199.get krm rfl) (Eq.trans (hf198.get krm rfl) (Eq.trans (hf192.get krm rfl) (Eq.trans (hf188.get krm rfl) (Eq.trans (hf187.get krm rfl) (Eq.trans (hf183.get krm rfl) (Eq.trans (hf3.get krm rfl) eG5.symm))))))))
      have hG5t : (I202 rm 5).toInt = G5.toInt := congrArg Int32.toInt hG5
      have hG6 : I202 rm 6 = G6 := (Eq.trans (hf202.get krm rfl) (Eq.trans (hf199.get krm rfl) (Eq.trans (hf198.get krm rfl) (Eq.trans (hf192.get krm rfl) (Eq.trans (hf188.get krm rfl) (Eq.trans (hf187.get krm rfl) (Eq.trans (hf183.get krm rfl) (Eq.trans (hf3.get krm rfl) eG6.symm))))))))
      have hG6t : (I202 rm 6).toInt = G6.toInt := congrArg Int32.toInt hG6
      have hG7 : I202 rm 7 = G7 := (Eq.trans (hf202.get krm rfl) (Eq.trans (hf199.get krm rfl) (Eq.trans (hf198.get krm rfl) (Eq.trans (hf192.get krm rfl) (Eq.trans (hf188.get krm rfl) (Eq.trans (hf187.get krm rfl) (Eq.trans (hf183.get krm rfl) (Eq.trans (hf3.get krm rfl) eG7.symm))))))))
      have hG7t : (I202 rm 7).toInt = G7.toInt := congrArg Int32.toInt hG7
      have hG8 : I202 rm 8 = G8 := (Eq.trans (hf202.get krm rfl) (Eq.trans (hf199.get krm rfl) (Eq.trans (hf198.get krm rfl) (Eq.trans (hf192.get krm rfl) (Eq.trans (hf188.get krm rfl) (Eq.trans (hf187.get krm rfl) (Eq.trans (hf183.get krm rfl) (Eq.trans (hf3.get krm rfl) eG8.symm))))))))
      have hG8t : (I202 rm 8).toInt = G8.toInt := congrArg Int32.toInt hG8
      have hG9 : I202 rm 9 = x182_ := (Eq.trans (hf202.get krm rfl) (Eq.trans (hf199.get krm rfl) (Eq.trans (hf198.get krm rfl) (Eq.trans (hf192.get krm rfl) (Eq.trans (hf188.get krm rfl) (Eq.trans (hf187.get krm rfl) (Eq.trans (hf183.get krm rfl) e182.symm)))))))
      have hG9t : (I202 rm 9).toInt = x182_.toInt := congrArg Int32.toInt hG9
      have hG10 : I202 rm 10 = N1 := (Eq.trans (hf202.get krm rfl) (Eq.trans (hf199.get krm rfl) (Eq.trans (hf198.get krm rfl) (Eq.trans (hf192.get krm rfl) (Eq.trans (hf188.get krm rfl) (Eq.trans (hf187.get krm rfl) eN1.symm))))))
      have hG10t : (I202 rm 10).toInt = N1.toInt := congrArg Int32.toInt hG10
      exact r_vret hC hQ hlk hr (by decide) (by decide) dX10_readKnower_113 ⟨_, _, rfl, rfl, ⟨hs202, hF202, hFJ202, (by exact Or.inr ⟨5, (pl B n p), by unfold sKnower; rw [pif_t hbg], by omega, by omega, by omega⟩), (by exact om202), (by exact oc202)⟩⟩
    · refine r_aload_n hC dX10_readKnower_72 1 rfl ?_
      refine r_getr hC 4 (ci := 10) rfl u10_in (by decide) mT_4_239 dX10_readKnower_73 ka0 rfl rfl hbr ?_
      refine r_getrN hC 26 (ci := 9) rfl u9_in (by decide) nF_26 dX10_readKnower_76 krm rfl rfl hns ?_
      refine r_iload_n hC dX10_readKnower_79 0 rfl ?_
      refine x_iaload hC kns lns (by decide) rfl rfl dX10_readKnower_80 (by omega) (by omega) (fun x206_ e206 => ?_)
      refine r_if_eq hC (tgt := 89) dX10_readKnower_81 (by decide) (fun c207 => ?_) (fun c207 => ?_)
      · refine r_aload_n hC dX10_readKnower_89 1 rfl ?_
        refine r_callV hC (As := []) (rest := []) (ci := 10) (e_X10_goesOn g (xL X) K len I192 J188 R hs192 a0 ka0 (by omega)) mT_5_199 mT_1_10 mT_5_196 mT_5_198 mP_49 okX10_goesOn ⟨by decide, by decide⟩ rfl (by show kO (K a0) = _; rw [ka0]; rfl) rfl rfl (Nat.le_of_ble_eq_true rfl) ⟨by decide, by decide⟩ dX10_readKnower_90 (aV2 (F := fun st M => P g X 3 93 [(1, .int x194_), (0, .ref a0)] st _ _ M) (M := (K, len, I192, J188, R)) fun I208 J208 h208 => ?_)
        obtain ⟨hs208, hf208, hfj208, k208_0, k208_1, k208_2⟩ := h208
        show P g X 3 93 [(1, .int x194_), (0, .ref a0)] [] _ _ (K, len, I208, J208, R)
        have hF208 : Fr K [(10, 9), (10, 10), (11, 8), (11, 9), (11, 10), (11, 11), (11, 12), (11, 13), (80, 999), (81, 999), (83, 999), (84, 999)] I I208 := hF192.trans hf208 rfl rfl
        have hFJ208 : Fr K [(11, 14), (82, 999)] J J208 := hFJ188.trans hfj208 rfl rfl
        have oc208 := oc192.mv qM_big hf208 rfl
        have om208 := om192.mv hf208 rfl
        refine r_aload_n hC dX10_readKnower_93 1 rfl ?_
        refine r_ldcwS hC (i := 59) (by decide) rfl rfl dX10_readKnower_94 ?_
        refine r_iconst hC (v := (0)) dX10_readKnower_97 (by decide) (by decide) (fun x209_ e209 t209 => ?_)
        refine r_sipush hC (v := (999)) dX10_readKnower_98 (by decide) (by decide) (fun x210_ e210 t210 => ?_)
        refine r_callV hC (As := [.ref (g.2.2.1 59), .int x209_, .int x210_]) (rest := []) (ci := 10) (e_X10_readPart g (xL X) K len I208 J208 R hs208 a0 ka0 59 (by decide) x209_ x210_ (by omega)) mT_6_1 mT_1_10 mT_5_238 mT_6_0 mP_56 okX10_readPart ⟨by decide, by decide⟩ rfl (by show kO (K a0) = _; rw [ka0]; rfl) rfl rfl (Nat.le_of_ble_eq_true rfl) ⟨by decide, by decide⟩ dX10_readKnower_101 (aI2 (F := fun st M => P g X 3 104 [(1, .int x194_), (0, .ref a0)] st _ _ M) (M := (K, len, I208, J208, R)) fun x211_ I211 J211 h211 => ?_)
        obtain ⟨hs211, hf211, hfj211, k211_0, k211_1, k211_2⟩ := h211
        show P g X 3 104 [(1, .int x194_), (0, .ref a0)] [.int x211_] _ _ (K, len, I211, J211, R)
        have hF211 : Fr K [(10, 9), (10, 10), (11, 8), (11, 9), (11, 10), (11, 11), (11, 12), (11, 13), (80, 999), (81, 999), (83, 999), (84, 999)] I I211 := hF208.trans hf211 rfl rfl
        have hFJ211 : Fr K [(11, 14), (82, 999)] J J211 := hFJ208.trans hfj211 rfl rfl
        have oc211 := oc208.mv qM_big hf211 rfl
        have om211 := om208.mv hf211 rfl
        refine r_istore_n hC (lv' := [(2, .int x211_), (1, .int x194_), (0, .ref a0)]) dX10_readKnower_104 (by decide) rfl ?_
        refine r_aload_n hC dX10_readKnower_105 2 rfl ?_
        refine r_geti hC 9 (ci := 10) rfl u10_in (by decide) mT_5_4 dX10_readKnower_106 ka0 rfl rfl (fun x212_ e212 => ?_)
        have f212 : x212_.toInt = (I211 a0 9).toInt := by rw [e212]
        refine r_iconst hC (v := (5)) dX10_readKnower_109 (by decide) (by decide) (fun x213_ e213 t213 => ?_)
        refine r_icmp_ne hC (tgt := 114) dX10_readKnower_110 (by decide) (fun c214 => ?_) (fun c214 => ?_)
        · exfalso; omega
        have hG0 : I211 rm 0 = G0 := (Eq.trans (hf211.get krm rfl) (Eq.trans (hf208.get krm rfl) (Eq.trans (hf192.get krm rfl) (Eq.trans (hf188.get krm rfl) (Eq.trans (hf187.get krm rfl) (Eq.trans (hf183.get krm rfl) (Eq.trans (hf3.get krm rfl) eG0.symm)))))))
        have hG0t : (I211 rm 0).toInt = G0.toInt := congrArg Int32.toInt hG0
        have hG1 : I211 rm 1 = G1 := (Eq.trans (hf211.get krm rfl) (Eq.trans (hf208.get krm rfl) (Eq.trans (hf192.get krm rfl) (Eq.trans (hf188.get krm rfl) (Eq.trans (hf187.get krm rfl) (Eq.trans (hf183.get krm rfl) (Eq.trans (hf3.get krm rfl) eG1.symm)))))))
        have hG1t : (I211 rm 1).toInt = G1.toInt := congrArg Int32.toInt hG1
        have hG2 : I211 rm 2 = G2 := (Eq.trans (hf211.get krm rfl) (Eq.trans (hf208.get krm rfl) (Eq.trans (hf192.get krm rfl) (Eq.trans (hf188.get krm rfl) (Eq.trans (hf187.get krm rfl) (Eq.trans (hf183.get krm rfl) (Eq.trans (hf3.get krm rfl) eG2.symm)))))))
        have hG2t : (I211 rm 2).toInt = G2.toInt := congrArg Int32.toInt hG2
        have hG3 : I211 rm 3 = G3 := (Eq.trans (hf211.get krm rfl) (Eq.trans (hf208.get krm rfl) (Eq.trans (hf192.get krm rfl) (Eq.trans (hf188.get krm rfl) (Eq.trans (hf187.get krm rfl) (Eq.trans (hf183.get krm rfl) (Eq.trans (hf3.get krm rfl) eG3.symm)))))))
        have hG3t : (I211 rm 3).toInt = G3.toInt := congrArg Int32.toInt hG3
        have hG4 : I211 rm 4 = G4 := (Eq.trans (hf211.get krm rfl) (Eq.trans (hf208.get krm rfl) (Eq.trans (hf192.get krm rfl) (Eq.trans (hf188.get krm rfl) (Eq.trans (hf187.get krm rfl) (Eq.trans (hf183.get krm rfl) (Eq.trans (hf3.get krm rfl) eG4.symm)))))))
        have hG4t : (I211 rm 4).toInt = G4.toInt := congrArg Int32.toInt hG4
        have hG5 : I211 rm 5 = G5 := (Eq.trans (hf211.get krm rfl) (Eq.trans (hf208.get krm rfl) (Eq.trans (hf192.get krm rfl) (Eq.trans (hf188.get krm rfl) (Eq.trans (hf187.get krm rfl) (Eq.trans (hf183.get krm rfl) (Eq.trans (hf3.get krm rfl) eG5.symm)))))))
        have hG5t : (I211 rm 5).toInt = G5.toInt := congrArg Int32.toInt hG5
        have hG6 : I211 rm 6 = G6 := (Eq.trans (hf211.get krm rfl) (Eq.trans (hf208.get krm rfl) (Eq.trans (hf192.get krm rfl) (Eq.trans (hf188.get krm rfl) (Eq.trans (hf187.get krm rfl) (Eq.trans (hf183.get krm rfl) (Eq.trans (hf3.get krm rfl) eG6.symm)))))))
        have hG6t : (I211 rm 6).toInt = G6.toInt := congrArg Int32.toInt hG6
        have hG7 : I211 rm 7 = G7 := (Eq.trans (hf211.get krm rfl) (Eq.trans (hf208.get krm rfl) (Eq.trans (hf192.get krm rfl) (Eq.trans (hf188.get krm rfl) (Eq.trans (hf187.get krm rfl) (Eq.trans (hf183.get krm rfl) (Eq.trans (hf3.get krm rfl) eG7.symm)))))))
        have hG7t : (I211 rm 7).toInt = G7.toInt := congrArg Int32.toInt hG7
        have hG8 : I211 rm 8 = G8 := (Eq.trans (hf211.get krm rfl) (Eq.trans (hf208.get krm rfl) (Eq.trans (hf192.get krm rfl) (Eq.trans (hf188.get krm rfl) (Eq.trans (hf187.get krm rfl) (Eq.trans (hf183.get krm rfl) (Eq.trans (hf3.get krm rfl) eG8.symm)))))))
        have hG8t : (I211 rm 8).toInt = G8.toInt := congrArg Int32.toInt hG8
        have hG9 : I211 rm 9 = x182_ := (Eq.trans (hf211.get krm rfl) (Eq.trans (hf208.get krm rfl) (Eq.trans (hf192.get krm rfl) (Eq.trans (hf188.get krm rfl) (Eq.trans (hf187.get krm rfl) (Eq.trans (hf183.get krm rfl) e182.symm))))))
        have hG9t : (I211 rm 9).toInt = x182_.toInt := congrArg Int32.toInt hG9
        have hG10 : I211 rm 10 = N1 := (Eq.trans (hf211.get krm rfl) (Eq.trans (hf208.get krm rfl) (Eq.trans (hf192.get krm rfl) (Eq.trans (hf188.get krm rfl) (Eq.trans (hf187.get krm rfl) eN1.symm)))))
        have hG10t : (I211 rm 10).toInt = N1.toInt := congrArg Int32.toInt hG10
        exact r_vret hC hQ hlk hr (by decide) (by decide) dX10_readKnower_113 ⟨_, _, rfl, rfl, ⟨hs211, hF211, hFJ211, (by exact Or.inr ⟨5, (pl B n p), by unfold sKnower; rw [pif_t hbg], by omega, by omega, by omega⟩), (by exact om211), (by exact oc211)⟩⟩
      · refine r_aload_n hC dX10_readKnower_84 1 rfl ?_
        refine r_iconst hC (v := (2)) dX10_readKnower_85 (by decide) (by decide) (fun x215_ e215 t215 => ?_)
        refine r_callV hC (As := [.int x215_]) (rest := []) (ci := 10) (e_X10_wrong g (xL X) K len I192 J188 R hs192 a0 ka0 x215_ (by omega)) mT_5_236 mT_1_10 mT_5_233 mT_5_235 mP_55 okX10_wrong ⟨by decide, by decide⟩ rfl (by show kO (K a0) = _; rw [ka0]; rfl) rfl rfl (Nat.le_of_ble_eq_true rfl) ⟨by decide, by decide⟩ dX10_readKnower_86 (aV1 (F := fun st M => P g X 3 89 [(1, .int x194_), (0, .ref a0)] st _ _ M) (M := (K, len, I192, J188, R)) fun I216 h216 => ?_)
        obtain ⟨hs216, hf216, k216_0, k216_1, k216_2⟩ := h216
        show P g X 3 89 [(1, .int x194_), (0, .ref a0)] [] _ _ (K, len, I216, J188, R)
        have hF216 : Fr K [(10, 9), (10, 10), (11, 8), (11, 9), (11, 10), (11, 11), (11, 12), (11, 13), (80, 999), (81, 999), (83, 999), (84, 999)] I I216 := hF192.trans hf216 rfl rfl
        have oc216 := oc192.mv qM_big hf216 rfl
        have om216 := om192.mv hf216 rfl
        refine r_aload_n hC dX10_readKnower_89 1 rfl ?_
        refine r_callV hC (As := []) (rest := []) (ci := 10) (e_X10_goesOn g (xL X) K len I216 J188 R hs216 a0 ka0 (by omega)) mT_5_199 mT_1_10 mT_5_196 mT_5_198 mP_49 okX10_goesOn ⟨by decide, by decide⟩ rfl (by show kO (K a0) = _; rw [ka0]; rfl) rfl rfl (Nat.le_of_ble_eq_true rfl) ⟨by decide, by decide⟩ dX10_readKnower_90 (aV2 (F := fun st M => P g X 3 93 [(1, .int x194_), (0, .ref a0)] st _ _ M) (M := (K, len, I216, J188, R)) fun I217 J217 h217 => ?_)
        obtain ⟨hs217, hf217, hfj217, k217_0, k217_1, k217_2⟩ := h217
        show P g X 3 93 [(1, .int x194_), (0, .ref a0)] [] _ _ (K, len, I217, J217, R)
        have hF217 : Fr K [(10, 9), (10, 10), (11, 8), (11, 9), (11, 10), (11, 11), (11, 12), (11, 13), (80, 999), (81, 999), (83, 999), (84, 999)] I I217 := hF216.trans hf217 rfl rfl
        have hFJ217 : Fr K [(11, 14), (82, 999)] J J217 := hFJ188.trans hfj217 rfl rfl
        have oc217 := oc216.mv qM_big hf217 rfl
        have om217 := om216.mv hf217 rfl
        refine r_aload_n hC dX10_readKnower_93 1 rfl ?_
        refine r_ldcwS hC (i := 59) (by decide) rfl rfl dX10_readKnower_94 ?_
        refine r_iconst hC (v := (0)) dX10_readKnower_97 (by decide) (by decide) (fun x218_ e218 t218 => ?_)
        refine r_sipush hC (v := (999)) dX10_readKnower_98 (by decide) (by decide) (fun x219_ e219 t219 => ?_)
        refine r_callV hC (As := [.ref (g.2.2.1 59), .int x218_, .int x219_]) (rest := []) (ci := 10) (e_X10_readPart g (xL X) K len I217 J217 R hs217 a0 ka0 59 (by decide) x218_ x219_ (by omega)) mT_6_1 mT_1_10 mT_5_238 mT_6_0 mP_56 okX10_readPart ⟨by decide, by decide⟩ rfl (by show kO (K a0) = _; rw [ka0]; rfl) rfl rfl (Nat.le_of_ble_eq_true rfl) ⟨by decide, by decide⟩ dX10_readKnower_101 (aI2 (F := fun st M => P g X 3 104 [(1, .int x194_), (0, .ref a0)] st _ _ M) (M := (K, len, I217, J217, R)) fun x220_ I220 J220 h220 => ?_)
        obtain ⟨hs220, hf220, hfj220, k220_0, k220_1, k220_2⟩ := h220
        show P g X 3 104 [(1, .int x194_), (0, .ref a0)] [.int x220_] _ _ (K, len, I220, J220, R)
        have hF220 : Fr K [(10, 9), (10, 10), (11, 8), (11, 9), (11, 10), (11, 11), (11, 12), (11, 13), (80, 999), (81, 999), (83, 999), (84, 999)] I I220 := hF217.trans hf220 rfl rfl
        have hFJ220 : Fr K [(11, 14), (82, 999)] J J220 := hFJ217.trans hfj220 rfl rfl
        have oc220 := oc217.mv qM_big hf220 rfl
        have om220 := om217.mv hf220 rfl
        refine r_istore_n hC (lv' := [(2, .int x220_), (1, .int x194_), (0, .ref a0)]) dX10_readKnower_104 (by decide) rfl ?_
        refine r_aload_n hC dX10_readKnower_105 2 rfl ?_
        refine r_geti hC 9 (ci := 10) rfl u10_in (by decide) mT_5_4 dX10_readKnower_106 ka0 rfl rfl (fun x221_ e221 => ?_)
        have f221 : x221_.toInt = (I220 a0 9).toInt := by rw [e221]
        refine r_iconst hC (v := (5)) dX10_readKnower_109 (by decide) (by decide) (fun x222_ e222 t222 => ?_)
        refine r_icmp_ne hC (tgt := 114) dX10_readKnower_110 (by decide) (fun c223 => ?_) (fun c223 => ?_)
        · exfalso; omega
        have hG0 : I220 rm 0 = G0 := (Eq.trans (hf220.get krm rfl) (Eq.trans (hf217.get krm rfl) (Eq.trans (hf216.get krm rfl) (Eq.trans (hf192.get krm rfl) (Eq.trans (hf188.get krm rfl) (Eq.trans (hf187.get krm rfl) (Eq.trans (hf183.get krm rfl) (Eq.trans (hf3.get krm rfl) eG0.symm))))))))
        have hG0t : (I220 rm 0).toInt = G0.toInt := congrArg Int32.toInt hG0
        have hG1 : I220 rm 1 = G1 := (Eq.trans (hf220.get krm rfl) (Eq.trans (hf217.get krm rfl) (Eq.trans (hf216.get krm rfl) (Eq.trans (hf192.get krm rfl) (Eq.trans (hf188.get krm rfl) (Eq.trans (hf187.get krm rfl) (Eq.trans (hf183.get krm rfl) (Eq.trans (hf3.get krm rfl) eG1.symm))))))))
        have hG1t : (I220 rm 1).toInt = G1.toInt := congrArg Int32.toInt hG1
        have hG2 : I220 rm 2 = G2 := (Eq.trans (hf220.get krm rfl) (Eq.trans (hf217.get krm rfl) (Eq.trans (hf216.get krm rfl) (Eq.trans (hf192.get krm rfl) (Eq.trans (hf188.get krm rfl) (Eq.trans (hf187.get krm rfl) (Eq.trans (hf183.get krm rfl) (Eq.trans (hf3.get krm rfl) eG2.symm))))))))
        have hG2t : (I220 rm 2).toInt = G2.toInt := congrArg Int32.toInt hG2
        have hG3 : I220 rm 3 = G3 := (Eq.trans (hf220.get krm rfl) (Eq.trans (hf217.get krm rfl) (Eq.trans (hf216.get krm rfl) (Eq.trans (hf192.get krm rfl) (Eq.trans (hf188.get krm rfl) (Eq.trans (hf187.get krm rfl) (Eq.trans (hf183.get krm rfl) (Eq.trans (hf3.get krm rfl) eG3.symm))))))))
        have hG3t : (I220 rm 3).toInt = G3.toInt := congrArg Int32.toInt hG3
        have hG4 : I220 rm 4 = G4 := (Eq.trans (hf220.get krm rfl) (Eq.trans (hf217.get krm rfl) (Eq.trans (hf216.get krm rfl) (Eq.trans (hf192.get krm rfl) (Eq.trans (hf188.get krm rfl) (Eq.trans (hf187.get krm rfl) (Eq.trans (hf183.get krm rfl) (Eq.trans (hf3.get krm rfl) eG4.symm))))))))
        have hG4t : (I220 rm 4).toInt = G4.toInt := congrArg Int32.toInt hG4
        have hG5 : I220 rm 5 = G5 := (Eq.trans (hf220.get krm rfl) (Eq.trans (hf217.get krm rfl) (Eq.trans (hf216.get krm rfl) (Eq.trans (hf192.get krm rfl) (Eq.trans (hf188.get krm rfl) (Eq.trans (hf187.get krm rfl) (Eq.trans (hf183.get krm rfl) (Eq.trans (hf3.get krm rfl) eG5.symm))))))))
        have hG5t : (I220 rm 5).toInt = G5.toInt := congrArg Int32.toInt hG5
        have hG6 : I220 rm 6 = G6 := (Eq.trans (hf220.get krm rfl) (Eq.trans (hf217.get krm rfl) (Eq.trans (hf216.get krm rfl) (Eq.trans (hf192.get krm rfl) (Eq.trans (hf188.get krm rfl) (Eq.trans (hf187.get krm rfl) (Eq.trans (hf183.get krm rfl) (Eq.trans (hf3.get krm rfl) eG6.symm))))))))
        have hG6t : (I220 rm 6).toInt = G6.toInt := congrArg Int32.toInt hG6
        have hG7 : I220 rm 7 = G7 := (Eq.trans (hf220.get krm rfl) (Eq.trans (hf217.get krm rfl) (Eq.trans (hf216.get krm rfl) (Eq.trans (hf192.get krm rfl) (Eq.trans (hf188.get krm rfl) (Eq.trans (hf187.get krm rfl) (Eq.trans (hf183.get krm rfl) (Eq.trans (hf3.get krm rfl) eG7.symm))))))))
        have hG7t : (I220 rm 7).toInt = G7.toInt := congrArg Int32.toInt hG7
        have hG8 : I220 rm 8 = G8 := (Eq.trans (hf220.get krm rfl) (Eq.trans (hf217.get krm rfl) (Eq.trans (hf216.get krm rfl) (Eq.trans (hf192.get krm rfl) (Eq.trans (hf188.get krm rfl) (Eq.trans (hf187.get krm rfl) (Eq.trans (hf183.get krm rfl) (Eq.trans (hf3.get krm rfl) eG8.symm))))))))
        have hG8t : (I220 rm 8).toInt = G8.toInt := congrArg Int32.toInt hG8
        have hG9 : I220 rm 9 = x182_ := (Eq.trans (hf220.get krm rfl) (Eq.trans (hf217.get krm rfl) (Eq.trans (hf216.get krm rfl) (Eq.trans (hf192.get krm rfl) (Eq.trans (hf188.get krm rfl) (Eq.trans (hf187.get krm rfl) (Eq.trans (hf183.get krm rfl) e182.symm)))))))
        have hG9t : (I220 rm 9).toInt = x182_.toInt := congrArg Int32.toInt hG9
        have hG10 : I220 rm 10 = N1 := (Eq.trans (hf220.get krm rfl) (Eq.trans (hf217.get krm rfl) (Eq.trans (hf216.get krm rfl) (Eq.trans (hf192.get krm rfl) (Eq.trans (hf188.get krm rfl) (Eq.trans (hf187.get krm rfl) eN1.symm))))))
        have hG10t : (I220 rm 10).toInt = N1.toInt := congrArg Int32.toInt hG10
        exact r_vret hC hQ hlk hr (by decide) (by decide) dX10_readKnower_113 ⟨_, _, rfl, rfl, ⟨hs220, hF220, hFJ220, (by exact Or.inr ⟨5, (pl B n p), by unfold sKnower; rw [pif_t hbg], by omega, by omega, by omega⟩), (by exact om220), (by exact oc220)⟩⟩

