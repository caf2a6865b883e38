set_option maxHeartbeats 4000000 in
set_option maxRecDepth 100000 in
theorem f_X10_readKnower (g : GG) (l : Launch) (K len : Nat → Nat) (I : Nat → Nat → Int32) (J : Nat → Nat → Int64) (R : Nat → Nat → Option Nat) (hs : Sf K len I R) (a0 : Nat) (ka0 : K a0 = 11) (rm : Nat) (hbr : R a0 4 = some rm) (krm : K rm = 10) (mt : Nat) (hmt : R a0 5 = some mt) (kmt : K mt = 49) (nmt : len mt = 900) (B : Nat → Int) (n : Nat) (hB : BT B n mt I) (hBr : ∀ j : Nat, j < n → -128 ≤ B j ∧ B j ≤ 127) (hn : n ≤ 900) (p : Nat) (hp : p ≤ n) (tkm : TkM B n a0 p I J) (nr : Nat) (hnr : R rm 25 = some nr) (knr : K nr = 82) (lnr : len nr = 19) (ns : Nat) (hns : R rm 26 = some ns) (kns : K ns = 83) (lns : len ns = 19) (D : DD) (hD : DI D) (sm : SM D rm I) (nm : NmM D nr J) (pg : PgI D ns I) (p0 : kd B n p = 1) : Ct g l yX10_readKnower cX10_readKnower 3 (Option.none : Option Jvm.ClassFile.FieldType) rmX10_readKnower [.ref a0] (K, len, I, J, R) (pV2 (K, len, I, J, R) (fun I' J' => Sf K len I' R ∧ Fr K [(10, 9), (10, 10), (11, 8), (11, 9), (11, 10), (11, 11), (11, 12), (11, 13), (80, 999), (81, 999), (83, 999), (84, 999)] I I' ∧ Fr K [(11, 14), (82, 999)] J J' ∧ ((∃ (D' : DD) (p' : Nat), sKnower B n p D = .ok (D', p') ∧ p' ≤ n ∧ TkM B n a0 p' I' J' ∧ RpM D' rm nr ns I' J' ∧ I' a0 12 = I a0 12) ∨ (∃ (kf : Int) (qf : Nat), sKnower B n p D = .error (kf, qf) ∧ (I' a0 9).toInt = 5 ∧ (I' a0 12).toInt = kf ∧ (I' a0 13).toInt = qf)) ∧ (OM K rm I I'))) := by
  refine Ct_intro (by decide +kernel) (Nat.le_of_ble_eq_true rfl) (fun X hC hL hKK hNm hr hlk hQ => ?_)
  subst hL
  have hC : Cx g X cX10_readKnower "HillTapModel" 3 rmX10_readKnower := hC
  show P g X 3 0 [(0, .ref a0)] [] 0 0 (K, len, I, J, R)
  have hF : Fr K [(10, 9), (10, 10), (11, 8), (11, 9), (11, 10), (11, 11), (11, 12), (11, 13), (80, 999), (81, 999), (83, 999), (84, 999)] I I := Fr.refl
  have hFJ : Fr K [(11, 14), (82, 999)] J J := Fr.refl
  have ek1 := tkm.e1
  have ek2 := tkm.e2
  have ek3 := tkm.e3
  have ek4 := tkm.e4
  have ek10 := tkm.2.1
  have ek11 := tkm.2.2.2.2.2
  obtain ⟨hD0, ⟨hD1, hD2⟩, ⟨hD3, hD4⟩, ⟨hD5, hD6⟩, ⟨hD7, hD8⟩, ⟨hD9, hD10⟩, hD11, hD12⟩ := id hD
  obtain ⟨sm0, sm3, sm4, sm5, sm6, sm7, sm8, sm9, sm10⟩ := id sm
  obtain ⟨G0, eG0⟩ : ∃ z : Int32, z = I rm 0 := ⟨_, rfl⟩
  have fG0 : G0.toInt = (I rm 0).toInt := by rw [eG0]
  obtain ⟨G1, eG1⟩ : ∃ z : Int32, z = I rm 1 := ⟨_, rfl⟩
  have fG1 : G1.toInt = (I rm 1).toInt := by rw [eG1]
  obtain ⟨G2, eG2⟩ : ∃ z : Int32, z = I rm 2 := ⟨_, rfl⟩
  have fG2 : G2.toInt = (I rm 2).toInt := by rw [eG2]
  obtain ⟨G3, eG3⟩ : ∃ z : Int32, z = I rm 3 := ⟨_, rfl⟩
  have fG3 : G3.toInt = (I rm 3).toInt := by rw [eG3]
  have rG3 := hs.rng krm rfl eG3
  obtain ⟨G4, eG4⟩ : ∃ z : Int32, z = I rm 4 := ⟨_, rfl⟩
  have fG4 : G4.toInt = (I rm 4).toInt := by rw [eG4]
  have rG4 := hs.rng krm rfl eG4
  obtain ⟨G5, eG5⟩ : ∃ z : Int32, z = I rm 5 := ⟨_, rfl⟩
  have fG5 : G5.toInt = (I rm 5).toInt := by rw [eG5]
  have rG5 := hs.rng krm rfl eG5
  obtain ⟨G6, eG6⟩ : ∃ z : Int32, z = I rm 6 := ⟨_, rfl⟩
  have fG6 : G6.toInt = (I rm 6).toInt := by rw [eG6]
  have rG6 := hs.rng krm rfl eG6
  obtain ⟨G7, eG7⟩ : ∃ z : Int32, z = I rm 7 := ⟨_, rfl⟩
  have fG7 : G7.toInt = (I rm 7).toInt := by rw [eG7]
  have rG7 := hs.rng krm rfl eG7
  obtain ⟨G8, eG8⟩ : ∃ z : Int32, z = I rm 8 := ⟨_, rfl⟩
  have fG8 : G8.toInt = (I rm 8).toInt := by rw [eG8]
  have rG8 := hs.rng krm rfl eG8
  obtain ⟨G9, eG9⟩ : ∃ z : Int32, z = I rm 9 := ⟨_, rfl⟩
  have fG9 : G9.toInt = (I rm 9).toInt := by rw [eG9]
  have rG9 := hs.rng krm rfl eG9
  obtain ⟨G10, eG10⟩ : ∃ z : Int32, z = I rm 10 := ⟨_, rfl⟩
  have fG10 : G10.toInt = (I rm 10).toInt := by rw [eG10]
  have rG10 := hs.rng krm rfl eG10
  have om : OM K rm I I := OM.rf
  refine r_aload_n hC dX10_readKnower_0 0 rfl ?_
  refine r_aload_n hC dX10_readKnower_1 0 rfl ?_
  refine r_getr hC 4 (ci := 10) rfl u10_in (by decide) mT_4_239 dX10_readKnower_2 ka0 rfl rfl hbr ?_
  refine r_getiN hC 9 (ci := 9) rfl u9_in (by decide) nF_9 dX10_readKnower_5 krm rfl rfl (fun x1_ e1 => ?_)
  have r1 := hs.rng krm rfl e1
  have f1 : x1_.toInt = (I rm 9).toInt := by rw [e1]
  have w1 : x1_ = G9 := by rw [e1]; exact eG9.symm
  have wt1 : x1_.toInt = G9.toInt := by rw [w1]
  refine r_iconst hC (v := (4)) dX10_readKnower_8 (by decide) (by decide) (fun x2_ e2 t2 => ?_)
  refine r_callV hC (As := [.int x1_, .int x2_]) (rest := []) (ci := 10) (f_X10_begins g (xL X) K len I J R hs a0 ka0 x1_ x2_ mt hmt kmt nmt B n (hB.mv9 hF kmt (fun _ => rfl)) hBr hn p hp tkm (by omega)) mT_6_19 mT_1_10 mT_6_16 mT_6_18 mP_59 okX10_begins ⟨by decide, by decide⟩ rfl (by show kO (K a0) = _; rw [ka0]; rfl) rfl rfl (Nat.le_of_ble_eq_true rfl) ⟨by decide, by decide⟩ dX10_readKnower_9 (aV2 (F := fun st M => P g X 3 12 [(0, .ref a0)] st _ _ M) (M := (K, len, I, J, R)) fun I3 J3 h3 => ?_)
  obtain ⟨hs3, hf3, hfj3, k3_0⟩ := h3
  show P g X 3 12 [(0, .ref a0)] [] _ _ (K, len, I3, J3, R)
  have hF3 : Fr K [(10, 9), (10, 10), (11, 8), (11, 9), (11, 10), (11, 11), (11, 12), (11, 13), (80, 999), (81, 999), (83, 999), (84, 999)] I I3 := hF.trans hf3 rfl rfl
  have hFJ3 : Fr K [(11, 14), (82, 999)] J J3 := hFJ.trans hfj3 rfl rfl
  have pg3 := pg.mv hf3 kns (fun _ => rfl)
  have nm3 := nm.mv hfj3 knr (fun _ => rfl)
  have om3 := om.mv hf3 rfl
  rcases k3_0 with ⟨hr3, tk3, fl3⟩ | ⟨hr3, hf03, hf13, hf23⟩
  · have fq3 : I3 a0 12 = I a0 12 := fl3.trans rfl
    refine r_aload_n hC dX10_readKnower_12 0 rfl ?_
    refine r_iconst hC (v := (1)) dX10_readKnower_13 (by decide) (by decide) (fun x4_ e4 t4 => ?_)
    refine r_aload_n hC dX10_readKnower_14 0 rfl ?_
    refine r_getr hC 4 (ci := 10) rfl u10_in (by decide) mT_4_239 dX10_readKnower_15 ka0 rfl rfl hbr ?_
    refine r_getiN hC 9 (ci := 9) rfl u9_in (by decide) nF_9 dX10_readKnower_18 krm rfl rfl (fun x5_ e5 => ?_)
    have r5 := hs3.rng krm rfl e5
    have f5 : x5_.toInt = (I3 rm 9).toInt := by rw [e5]
    have w5 : x5_ = x1_ := by rw [e5]; exact (Eq.trans (hf3.get krm rfl) e1.symm)
    have wt5 : x5_.toInt = x1_.toInt := by rw [w5]
    have q10 : I3 rm 10 = G10 := (Eq.trans (hf3.get krm rfl) eG10.symm)
    have q10t : (I3 rm 10).toInt = G10.toInt := congrArg Int32.toInt q10
    refine r_callV hC (As := [.int x4_, .int x5_]) (rest := []) (ci := 10) (f_X10_readFresh g (xL X) K len I3 J3 R hs3 a0 ka0 x4_ x5_ rm hbr krm mt hmt kmt nmt B n (hB.mv9 hF3 kmt (fun _ => rfl)) hBr hn (nx B n p) (nx_le hp).2 tk3 nr hnr knr lnr ns hns kns lns D hD (by omega) nm3 (by omega)) mT_6_23 mT_1_10 mT_6_20 mT_6_22 mP_60 okX10_readFresh ⟨by decide, by decide⟩ rfl (by show kO (K a0) = _; rw [ka0]; rfl) rfl rfl (Nat.le_of_ble_eq_true rfl) ⟨by decide, by decide⟩ dX10_readKnower_21 (aV2 (F := fun st M => P g X 3 24 [(0, .ref a0)] st _ _ M) (M := (K, len, I3, J3, R)) fun I6 J6 h6 => ?_)
    obtain ⟨hs6, hf6, hfj6, k6_0, k6_1⟩ := h6
    show P g X 3 24 [(0, .ref a0)] [] _ _ (K, len, I6, J6, R)
    have hF6 : Fr K [(10, 9), (10, 10), (11, 8), (11, 9), (11, 10), (11, 11), (11, 12), (11, 13), (80, 999), (81, 999), (83, 999), (84, 999)] I I6 := hF3.trans hf6 rfl rfl
    have hFJ6 : Fr K [(11, 14), (82, 999)] J J6 := hFJ3.trans hfj6 rfl rfl
    have om6 := om3.tr k6_1
    rcases k6_0 with ⟨hsp6, tk6, nmF6, hten6, od6, nw6, fl6⟩ | ⟨kf6, qf6, hsp6, hf06, hf16, hf26⟩
    · have fq6 : I6 a0 12 = I a0 12 := fl6.trans fq3
      have pgs6 := PgI.sm (pg3) od6
      have pgf6 := PgI.other (v := (vl B n (nx B n p))) pgs6 (by omega) (sFresh_new hsp6) nw6 (by omega)
      have G10_6 : (I6 rm 10).toInt = D 0 10 + 1 := hten6
      obtain ⟨N1, eN1⟩ : ∃ z : Int32, z = I6 rm 10 := ⟨_, rfl⟩
      have fN1 : N1.toInt = (I6 rm 10).toInt := by rw [eN1]
      have rN1 := hs6.rng krm rfl eN1
      refine r_aload_n hC dX10_readKnower_24 0 rfl ?_
      refine r_ldcwS hC (i := 58) (by decide) rfl rfl dX10_readKnower_25 ?_
      refine r_callV hC (As := [.ref (g.2.2.1 58)]) (rest := []) (ci := 10) (f_X10_isWord g (xL X) K len I6 J6 R hs6 a0 ka0 58 (by decide) B n (nx B n (nx B n p)) (nx_le (nx_le hp).2).2 tk6 (by first | assumption | decide)) mT_5_223 mT_1_10 mT_5_220 mT_5_222 mP_53 okX10_isWord ⟨by decide, by decide⟩ rfl (by show kO (K a0) = _; rw [ka0]; rfl) rfl rfl (Nat.le_of_ble_eq_true rfl) ⟨by decide, by decide⟩ dX10_readKnower_28 (aI0 (F := fun st M => P g X 3 31 [(0, .ref a0)] st _ _ M) (M := (K, len, I6, J6, R)) fun x7_ h7 => ?_)
      have k7_0 := h7
      show P g X 3 31 [(0, .ref a0)] [.int x7_] _ _ (K, len, I6, J6, R)
      rcases k7_0 with ⟨hr7, hw7⟩ | ⟨hr7, hw7⟩
      · refine r_if_ne hC (tgt := 39) dX10_readKnower_31 (by decide) (fun c8 => ?_) (fun c8 => ?_)
        rotate_left
        · exfalso; omega
        refine r_aload_n hC dX10_readKnower_39 0 rfl ?_
        refine r_callV hC (As := []) (rest := []) (ci := 10) (f_X10_goesOn g (xL X) K len I6 J6 R hs6 a0 ka0 mt hmt kmt nmt B n (hB.mv9 hF6 kmt (fun _ => rfl)) hBr hn (nx B n (nx B n (nx B n p))) (nx_le (nx_le (nx_le hp).2).2).2 (tk6.e5) (tk6.2.2.1 (by first | omega | (rw [hw7.1]; decide))) (tk6.2.2.2.1)) mT_5_199 mT_1_10 mT_5_196 mT_5_198 mP_49 okX10_goesOn ⟨by decide, by decide⟩ rfl (by show kO (K a0) = _; rw [ka0]; rfl) rfl rfl (Nat.le_of_ble_eq_true rfl) ⟨by decide, by decide⟩ dX10_readKnower_40 (aV2 (F := fun st M => P g X 3 43 [(0, .ref a0)] st _ _ M) (M := (K, len, I6, J6, R)) fun I9 J9 h9 => ?_)
        obtain ⟨hs9, hf9, hfj9, k9_0⟩ := h9
        show P g X 3 43 [(0, .ref a0)] [] _ _ (K, len, I9, J9, R)
        have hF9 : Fr K [(10, 9), (10, 10), (11, 8), (11, 9), (11, 10), (11, 11), (11, 12), (11, 13), (80, 999), (81, 999), (83, 999), (84, 999)] I I9 := hF6.trans hf9 rfl rfl
        have hFJ9 : Fr K [(11, 14), (82, 999)] J J9 := hFJ6.trans hfj9 rfl rfl
        have fp9 : I9 a0 12 = I a0 12 := (hf9.get ka0 rfl).trans fq6
        have pg9 := pgf6.mv hf9 kns (fun _ => rfl)
        have nm9 := nmF6.mv hfj9 knr (fun _ => rfl)
        have om9 := om6.mv hf9 rfl
        refine r_aload_n hC dX10_readKnower_43 0 rfl ?_
        refine r_callV hC (As := []) (rest := []) (ci := 10) (f_X10_isName g (xL X) K len I9 J9 R hs9 a0 ka0 B n (nx B n (nx B n (nx B n p))) (nx_le (nx_le (nx_le hp).2).2).2 k9_0) mT_6_27 mT_1_10 mT_6_24 mT_6_26 mP_61 okX10_isName ⟨by decide, by decide⟩ rfl (by show kO (K a0) = _; rw [ka0]; rfl) rfl rfl (Nat.le_of_ble_eq_true rfl) ⟨by decide, by decide⟩ dX10_readKnower_44 (aI0 (F := fun st M => P g X 3 47 [(0, .ref a0)] st _ _ M) (M := (K, len, I9, J9, R)) fun x10_ h10 => ?_)
        have k10_0 := h10
        show P g X 3 47 [(0, .ref a0)] [.int x10_] _ _ (K, len, I9, J9, R)
        rcases k10_0 with ⟨hr10, hw10⟩ | ⟨hr10, hw10⟩
        · refine r_if_ne hC (tgt := 55) dX10_readKnower_47 (by decide) (fun c11 => ?_) (fun c11 => ?_)
          rotate_left
          · exfalso; omega
          refine r_aload_n hC dX10_readKnower_55 0 rfl ?_
          refine r_getr hC 4 (ci := 10) rfl u10_in (by decide) mT_4_239 dX10_readKnower_56 ka0 rfl rfl hbr ?_
          refine r_aload_n hC dX10_readKnower_59 0 rfl ?_
          refine r_getj hC 14 (ci := 10) rfl u10_in (by decide) mT_5_9 dX10_readKnower_60 ka0 rfl rfl (fun y12_ e12 => ?_)
          have fj12 : y12_.toInt = (J9 a0 14).toInt := by rw [e12]
          have hvk : y12_.toInt = vl B n (nx B n (nx B n (nx B n p))) := fj12.trans (k9_0.2.2.2.2.1 hw10.1)
          have q11 : I9 rm 10 = N1 := (Eq.trans (hf9.get krm rfl) eN1.symm)
          have q11t : (I9 rm 10).toInt = N1.toInt := congrArg Int32.toInt q11
          have F10 : (adN D (vl B n (nx B n p))) 0 10 = D 0 10 + 1 := adN_0
          refine r_callV hC (As := [.long y12_]) (rest := []) (ci := 9) (f_X9_find g (xL X) K len I9 J9 R hs9 rm krm y12_ nr hnr knr lnr (adN D (vl B n (nx B n p))) (fun j h9 => nm9 j (by omega))) mT_6_36 mT_1_17 mT_6_33 mT_6_34 mT_6_35 okX9_find ⟨by decide, by decide⟩ rfl (by show kO (K rm) = _; rw [krm]; rfl) rfl rfl (Nat.le_of_ble_eq_true rfl) ⟨by decide, by decide⟩ dX10_readKnower_63 (aI0 (F := fun st M => P g X 3 66 [(0, .ref a0)] st _ _ M) (M := (K, len, I9, J9, R)) fun x13_ h13 => ?_)
          have k13_0 := h13
          show P g X 3 66 [(0, .ref a0)] [.int x13_] _ _ (K, len, I9, J9, R)
          rcases k13_0 with ⟨hr13, hn13⟩ | ⟨hr13, hq13, hn13⟩
          · refine r_istore_n hC (lv' := [(1, .int x13_), (0, .ref a0)]) dX10_readKnower_66 (by decide) rfl ?_
            refine r_iload_n hC dX10_readKnower_67 0 rfl ?_
            refine r_iconst hC (v := (-1)) dX10_readKnower_68 (by decide) (by decide) (fun x14_ e14 t14 => ?_)
            refine r_icmp_eq hC (tgt := 84) dX10_readKnower_69 (by decide) (fun c15 => ?_) (fun c15 => ?_)
            rotate_left
            · exfalso; omega
            refine r_aload_n hC dX10_readKnower_84 1 rfl ?_
            refine r_iconst hC (v := (2)) dX10_readKnower_85 (by decide) (by decide) (fun x16_ e16 t16 => ?_)
            refine r_callV hC (As := [.int x16_]) (rest := []) (ci := 10) (f_X10_wrong g (xL X) K len I9 J9 R hs9 a0 ka0 x16_ (k9_0.e5)) mT_5_236 mT_1_10 mT_5_233 mT_5_235 mP_55 okX10_wrong ⟨by decide, by decide⟩ rfl (by show kO (K a0) = _; rw [ka0]; rfl) rfl rfl (Nat.le_of_ble_eq_true rfl) ⟨by decide, by decide⟩ dX10_readKnower_86 (aV1 (F := fun st M => P g X 3 89 [(1, .int x13_), (0, .ref a0)] st _ _ M) (M := (K, len, I9, J9, R)) fun I17 h17 => ?_)
            obtain ⟨hs17, hf17, k17_0, k17_1, k17_2⟩ := h17
            show P g X 3 89 [(1, .int x13_), (0, .ref a0)] [] _ _ (K, len, I17, J9, R)
            have hF17 : Fr K [(10, 9), (10, 10), (11, 8), (11, 9), (11, 10), (11, 11), (11, 12), (11, 13), (80, 999), (81, 999), (83, 999), (84, 999)] I I17 := hF9.trans hf17 rfl rfl
            have pg17 := pg9.mv hf17 kns (fun _ => rfl)
            have om17 := om9.mv hf17 rfl
            have hwp17 := k9_0.2.1
            refine r_aload_n hC dX10_readKnower_89 1 rfl ?_
            refine r_callV hC (As := []) (rest := []) (ci := 10) (e_X10_goesOn g (xL X) K len I17 J9 R hs17 a0 ka0 (by omega)) mT_5_199 mT_1_10 mT_5_196 mT_5_198 mP_49 okX10_goesOn ⟨by decide, by decide⟩ rfl (by show kO (K a0) = _; rw [ka0]; rfl) rfl rfl (Nat.le_of_ble_eq_true rfl) ⟨by decide, by decide⟩ dX10_readKnower_90 (aV2 (F := fun st M => P g X 3 93 [(1, .int x13_), (0, .ref a0)] st _ _ M) (M := (K, len, I17, J9, R)) fun I18 J18 h18 => ?_)
            obtain ⟨hs18, hf18, hfj18, k18_0, k18_1, k18_2⟩ := h18
            show P g X 3 93 [(1, .int x13_), (0, .ref a0)] [] _ _ (K, len, I18, J18, R)
            have hF18 : Fr K [(10, 9), (10, 10), (11, 8), (11, 9), (11, 10), (11, 11), (11, 12), (11, 13), (80, 999), (81, 999), (83, 999), (84, 999)] I I18 := hF17.trans hf18 rfl rfl
            have hFJ18 : Fr K [(11, 14), (82, 999)] J J18 := hFJ9.trans hfj18 rfl rfl
            have om18 := om17.mv hf18 rfl
            refine r_aload_n hC dX10_readKnower_93 1 rfl ?_
            refine r_ldcwS hC (i := 59) (by decide) rfl rfl dX10_readKnower_94 ?_
            refine r_iconst hC (v := (0)) dX10_readKnower_97 (by decide) (by decide) (fun x19_ e19 t19 => ?_)
            refine r_sipush hC (v := (999)) dX10_readKnower_98 (by decide) (by decide) (fun x20_ e20 t20 => ?_)
            refine r_callV hC (As := [.ref (g.2.2.1 59), .int x19_, .int x20_]) (rest := []) (ci := 10) (e_X10_readPart g (xL X) K len I18 J18 R hs18 a0 ka0 59 (by decide) x19_ x20_ (by omega)) mT_6_1 mT_1_10 mT_5_238 mT_6_0 mP_56 okX10_readPart ⟨by decide, by decide⟩ rfl (by show kO (K a0) = _; rw [ka0]; rfl) rfl rfl (Nat.le_of_ble_eq_true rfl) ⟨by decide, by decide⟩ dX10_readKnower_101 (aI2 (F := fun st M => P g X 3 104 [(1, .int x13_), (0, .ref a0)] st _ _ M) (M := (K, len, I18, J18, R)) fun x21_ I21 J21 h21 => ?_)
            obtain ⟨hs21, hf21, hfj21, k21_0, k21_1, k21_2⟩ := h21
            show P g X 3 104 [(1, .int x13_), (0, .ref a0)] [.int x21_] _ _ (K, len, I21, J21, R)
            have hF21 : Fr K [(10, 9), (10, 10), (11, 8), (11, 9), (11, 10), (11, 11), (11, 12), (11, 13), (80, 999), (81, 999), (83, 999), (84, 999)] I I21 := hF18.trans hf21 rfl rfl
            have hFJ21 : Fr K [(11, 14), (82, 999)] J J21 := hFJ18.trans hfj21 rfl rfl
            have om21 := om18.mv hf21 rfl
            refine r_istore_n hC (lv' := [(2, .int x21_), (1, .int x13_), (0, .ref a0)]) dX10_readKnower_104 (by decide) rfl ?_
            refine r_aload_n hC dX10_readKnower_105 2 rfl ?_
            refine r_geti hC 9 (ci := 10) rfl u10_in (by decide) mT_5_4 dX10_readKnower_106 ka0 rfl rfl (fun x22_ e22 => ?_)
            have f22 : x22_.toInt = (I21 a0 9).toInt := by rw [e22]
            refine r_iconst hC (v := (5)) dX10_readKnower_109 (by decide) (by decide) (fun x23_ e23 t23 => ?_)
            refine r_icmp_ne hC (tgt := 114) dX10_readKnower_110 (by decide) (fun c24 => ?_) (fun c24 => ?_)
            · exfalso; omega
            have hG0 : I21 rm 0 = G0 := (Eq.trans (hf21.get krm rfl) (Eq.trans (hf18.get krm rfl) (Eq.trans (hf17.get krm rfl) (Eq.trans (hf9.get krm rfl) (Eq.trans (hf6.get krm rfl) (Eq.trans (hf3.get krm rfl) eG0.symm))))))
            have hG0t : (I21 rm 0).toInt = G0.toInt := congrArg Int32.toInt hG0
            have hG1 : I21 rm 1 = G1 := (Eq.trans (hf21.get krm rfl) (Eq.trans (hf18.get krm rfl) (Eq.trans (hf17.get krm rfl) (Eq.trans (hf9.get krm rfl) (Eq.trans (hf6.get krm rfl) (Eq.trans (hf3.get krm rfl) eG1.symm))))))
            have hG1t : (I21 rm 1).toInt = G1.toInt := congrArg Int32.toInt hG1
            have hG2 : I21 rm 2 = G2 := (Eq.trans (hf21.get krm rfl) (Eq.trans (hf18.get krm rfl) (Eq.trans (hf17.get krm rfl) (Eq.trans (hf9.get krm rfl) (Eq.trans (hf6.get krm rfl) (Eq.trans (hf3.get krm rfl) eG2.symm))))))
            have hG2t : (I21 rm 2).toInt = G2.toInt := congrArg Int32.toInt hG2
            have hG3 : I21 rm 3 = G3 := (Eq.trans (hf21.get krm rfl) (Eq.trans (hf18.get krm rfl) (Eq.trans (hf17.get krm rfl) (Eq.trans (hf9.get krm rfl) (Eq.trans (hf6.get krm rfl) (Eq.trans (hf3.get krm rfl) eG3.symm))))))
            have hG3t : (I21 rm 3).toInt = G3.toInt := congrArg Int32.toInt hG3
            have hG4 : I21 rm 4 = G4 := (Eq.trans (hf21.get krm rfl) (Eq.trans (hf18.get krm rfl) (Eq.trans (hf17.get krm rfl) (Eq.trans (hf9.get krm rfl) (Eq.trans (hf6.get krm rfl) (Eq.trans (hf3.get krm rfl) eG4.symm))))))
            have hG4t : (I21 rm 4).toInt = G4.toInt := congrArg Int32.toInt hG4
            have hG5 : I21 rm 5 = G5 := (Eq.trans (hf21.get krm rfl) (Eq.trans (hf18.get krm rfl) (Eq.trans (hf17.get krm rfl) (Eq.trans (hf9.get krm rfl) (Eq.trans (hf6.get krm rfl) (Eq.trans (hf3.get krm rfl) eG5.symm))))))
            have hG5t : (I21 rm 5).toInt = G5.toInt := congrArg Int32.toInt hG5
            have hG6 : I21 rm 6 = G6 := (Eq.trans (hf21.get krm rfl) (Eq.trans (hf18.get krm rfl) (Eq.trans (hf17.get krm rfl) (Eq.trans (hf9.get krm rfl) (Eq.trans (hf6.get krm rfl) (Eq.trans (hf3.get krm rfl) eG6.symm))))))
            have hG6t : (I21 rm 6).toInt = G6.toInt := congrArg Int32.toInt hG6
            have hG7 : I21 rm 7 = G7 := (Eq.trans (hf21.get krm rfl) (Eq.trans (hf18.get krm rfl) (Eq.trans (hf17.get krm rfl) (Eq.trans (hf9.get krm rfl) (Eq.trans (hf6.get krm rfl) (Eq.trans (hf3.get krm rfl) eG7.symm))))))
            have hG7t : (I21 rm 7).toInt = G7.toInt := congrArg Int32.toInt hG7
            have hG8 : I21 rm 8 = G8 := (Eq.trans (hf21.get krm rfl) (Eq.trans (hf18.get krm rfl) (Eq.trans (hf17.get krm rfl) (Eq.trans (hf9.get krm rfl) (Eq.trans (hf6.get krm rfl) (Eq.trans (hf3.get krm rfl) eG8.symm))))))
            have hG8t : (I21 rm 8).toInt = G8.toInt := congrArg Int32.toInt hG8
            have hG9 : I21 rm 9 = x5_ := (Eq.trans (hf21.get krm rfl) (Eq.trans (hf18.get krm rfl) (Eq.trans (hf17.get krm rfl) (Eq.trans (hf9.get krm rfl) (Eq.trans (hf6.get krm rfl) e5.symm)))))
            have hG9t : (I21 rm 9).toInt = x5_.toInt := congrArg Int32.toInt hG9
            have hG10 : I21 rm 10 = N1 := (Eq.trans (hf21.get krm rfl) (Eq.trans (hf18.get krm rfl) (Eq.trans (hf17.get krm rfl) (Eq.trans (hf9.get krm rfl) eN1.symm))))
            have hG10t : (I21 rm 10).toInt = N1.toInt := congrArg Int32.toInt hG10
            exact r_vret hC hQ hlk hr (by decide) (by decide) dX10_readKnower_113 ⟨_, _, rfl, rfl, ⟨hs21, hF21, hFJ21, (by first | exact Or.inl ⟨(upD (adN D (vl B n (nx B n p))) 0 9 ((adN D (vl B n (nx B n p))) 0 9 + 1)), _, by unfold sKnower; rw [pif_f (show ¬ 4 ≤ D 0 9 by omega), hsp6, bnd_ok, pif_t (show isW B n (nx B n (nx B n p)) 27 from hw7), pif_t hw10, pif_f (c := ∃ j : Nat, (j : Int) < (adN D (vl B n (nx B n p))) 0 5 ∧ (adN D (vl B n (nx B n p))) 23 j = vl B n (nx B n (nx B n (nx B n p)))) (pk_no pg9 (fun j h9 => by have h8 := hn13 j (by omega); omega))], (nx_le (nx_le (nx_le hp).2).2).2, k9_0, ⟨by unfold SM; simp [upD, adN]; omega, nm9.cg (by simp [upD]) (by intro j; simp [upD]), pg17.cg (by simp [upD]) (by intro j; simp [upD]) (by simp [upD]) (by intro j; simp [upD])⟩, fp9⟩ | exact Or.inr ⟨2, (pl B n (nx B n (nx B n (nx B n p)))), by unfold sKnower; rw [pif_f (show ¬ 4 ≤ D 0 9 by omega), hsp6, bnd_ok, pif_t (show isW B n (nx B n (nx B n p)) 27 from hw7), pif_t hw10, pif_f (c := ∃ j : Nat, (j : Int) < (adN D (vl B n (nx B n p))) 0 5 ∧ (adN D (vl B n (nx B n p))) 23 j = vl B n (nx B n (nx B n (nx B n p)))) (pk_no pg9 (fun j h9 => by have h8 := hn13 j (by omega); omega))], by omega, by omega, by omega⟩), (by exact om21)⟩⟩
          · refine r_istore_n hC (lv' := [(1, .int x13_), (0, .ref a0)]) dX10_readKnower_66 (by decide) rfl ?_
            refine r_iload_n hC dX10_readKnower_67 0 rfl ?_
            refine r_iconst hC (v := (-1)) dX10_readKnower_68 (by decide) (by decide) (fun x25_ e25 t25 => ?_)
            refine r_icmp_eq hC (tgt := 84) dX10_readKnower_69 (by decide) (fun c26 => ?_) (fun c26 => ?_)
            · refine r_aload_n hC dX10_readKnower_84 1 rfl ?_
              refine r_iconst hC (v := (2)) dX10_readKnower_85 (by decide) (by decide) (fun x27_ e27 t27 => ?_)
              refine r_callV hC (As := [.int x27_]) (rest := []) (ci := 10) (f_X10_wrong g (xL X) K len I9 J9 R hs9 a0 ka0 x27_ (k9_0.e5)) mT_5_236 mT_1_10 mT_5_233 mT_5_235 mP_55 okX10_wrong ⟨by decide, by decide⟩ rfl (by show kO (K a0) = _; rw [ka0]; rfl) rfl rfl (Nat.le_of_ble_eq_true rfl) ⟨by decide, by decide⟩ dX10_readKnower_86 (aV1 (F := fun st M => P g X 3 89 [(1, .int x13_), (0, .ref a0)] st _ _ M) (M := (K, len, I9, J9, R)) fun I28 h28 => ?_)
              obtain ⟨hs28, hf28, k28_0, k28_1, k28_2⟩ := h28
              show P g X 3 89 [(1, .int x13_), (0, .ref a0)] [] _ _ (K, len, I28, J9, R)
              have hF28 : Fr K [(10, 9), (10, 10), (11, 8), (11, 9), (11, 10), (11, 11), (11, 12), (11, 13), (80, 999), (81, 999), (83, 999), (84, 999)] I I28 := hF9.trans hf28 rfl rfl
              have pg28 := pg9.mv hf28 kns (fun _ => rfl)
              have om28 := om9.mv hf28 rfl
              have hwp28 := k9_0.2.1
              refine r_aload_n hC dX10_readKnower_89 1 rfl ?_
              refine r_callV hC (As := []) (rest := []) (ci := 10) (e_X10_goesOn g (xL X) K len I28 J9 R hs28 a0 ka0 (by omega)) mT_5_199 mT_1_10 mT_5_196 mT_5_198 mP_49 okX10_goesOn ⟨by decide, by decide⟩ rfl (by show kO (K a0) = _; rw [ka0]; rfl) rfl rfl (Nat.le_of_ble_eq_true rfl) ⟨by decide, by decide⟩ dX10_readKnower_90 (aV2 (F := fun st M => P g X 3 93 [(1, .int x13_), (0, .ref a0)] st _ _ M) (M := (K, len, I28, J9, R)) fun I29 J29 h29 => ?_)
              obtain ⟨hs29, hf29, hfj29, k29_0, k29_1, k29_2⟩ := h29
              show P g X 3 93 [(1, .int x13_), (0, .ref a0)] [] _ _ (K, len, I29, J29, R)
              have hF29 : Fr K [(10, 9), (10, 10), (11, 8), (11, 9), (11, 10), (11, 11), (11, 12), (11, 13), (80, 999), (81, 999), (83, 999), (84, 999)] I I29 := hF28.trans hf29 rfl rfl
              have hFJ29 : Fr K [(11, 14), (82, 999)] J J29 := hFJ9.trans hfj29 rfl rfl
              have om29 := om28.mv hf29 rfl
              refine r_aload_n hC dX10_readKnower_93 1 rfl ?_
              refine r_ldcwS hC (i := 59) (by decide) rfl rfl dX10_readKnower_94 ?_
              refine r_iconst hC (v := (0)) dX10_readKnower_97 (by decide) (by decide) (fun x30_ e30 t30 => ?_)
              refine r_sipush hC (v := (999)) dX10_readKnower_98 (by decide) (by decide) (fun x31_ e31 t31 => ?_)
              refine r_callV hC (As := [.ref (g.2.2.1 59), .int x30_, .int x31_]) (rest := []) (ci := 10) (e_X10_readPart g (xL X) K len I29 J29 R hs29 a0 ka0 59 (by decide) x30_ x31_ (by omega)) mT_6_1 mT_1_10 mT_5_238 mT_6_0 mP_56 okX10_readPart ⟨by decide, by decide⟩ rfl (by show kO (K a0) = _; rw [ka0]; rfl) rfl rfl (Nat.le_of_ble_eq_true rfl) ⟨by decide, by decide⟩ dX10_readKnower_101 (aI2 (F := fun st M => P g X 3 104 [(1, .int x13_), (0, .ref a0)] st _ _ M) (M := (K, len, I29, J29, R)) fun x32_ I32 J32 h32 => ?_)
              obtain ⟨hs32, hf32, hfj32, k32_0, k32_1, k32_2⟩ := h32
              show P g X 3 104 [(1, .int x13_), (0, .ref a0)] [.int x32_] _ _ (K, len, I32, J32, R)
              have hF32 : Fr K [(10, 9), (10, 10), (11, 8), (11, 9), (11, 10), (11, 11), (11, 12), (11, 13), (80, 999), (81, 999), (83, 999), (84, 999)] I I32 := hF29.trans hf32 rfl rfl
              have hFJ32 : Fr K [(11, 14), (82, 999)] J J32 := hFJ29.trans hfj32 rfl rfl
              have om32 := om29.mv hf32 rfl
              refine r_istore_n hC (lv' := [(2, .int x32_), (1, .int x13_), (0, .ref a0)]) dX10_readKnower_104 (by decide) rfl ?_
              refine r_aload_n hC dX10_readKnower_105 2 rfl ?_
              refine r_geti hC 9 (ci := 10) rfl u10_in (by decide) mT_5_4 dX10_readKnower_106 ka0 rfl rfl (fun x33_ e33 => ?_)
              have f33 : x33_.toInt = (I32 a0 9).toInt := by rw [e33]
              refine r_iconst hC (v := (5)) dX10_readKnower_109 (by decide) (by decide) (fun x34_ e34 t34 => ?_)
              refine r_icmp_ne hC (tgt := 114) dX10_readKnower_110 (by decide) (fun c35 => ?_) (fun c35 => ?_)
              · exfalso; omega
              have hG0 : I32 rm 0 = G0 := (Eq.trans (hf32.get krm rfl) (Eq.trans (hf29.get krm rfl) (Eq.trans (hf28.get krm rfl) (Eq.trans (hf9.get krm rfl) (Eq.trans (hf6.get krm rfl) (Eq.trans (hf3.get krm rfl) eG0.symm))))))
              have hG0t : (I32 rm 0).toInt = G0.toInt := congrArg Int32.toInt hG0
              have hG1 : I32 rm 1 = G1 := (Eq.trans (hf32.get krm rfl) (Eq.trans (hf29.get krm rfl) (Eq.trans (hf28.get krm rfl) (Eq.trans (hf9.get krm rfl) (Eq.trans (hf6.get krm rfl) (Eq.trans (hf3.get krm rfl) eG1.symm))))))
              have hG1t : (I32 rm 1).toInt = G1.toInt := congrArg Int32.toInt hG1
              have hG2 : I32 rm 2 = G2 := (Eq.trans (hf32.get krm rfl) (Eq.trans (hf29.get krm rfl) (Eq.trans (hf28.get krm rfl) (Eq.trans (hf9.get krm rfl) (Eq.trans (hf6.get krm rfl) (Eq.trans (hf3.get krm rfl) eG2.symm))))))
              have hG2t : (I32 rm 2).toInt = G2.toInt := congrArg Int32.toInt hG2
              have hG3 : I32 rm 3 = G3 := (Eq.trans (hf32.get krm rfl) (Eq.trans (hf29.get krm rfl) (Eq.trans (hf28.get krm rfl) (Eq.trans (hf9.get krm rfl) (Eq.trans (hf6.get krm rfl) (Eq.trans (hf3.get krm rfl) eG3.symm))))))
              have hG3t : (I32 rm 3).toInt = G3.toInt := congrArg Int32.toInt hG3
              have hG4 : I32 rm 4 = G4 := (Eq.trans (hf32.get krm rfl) (Eq.trans (hf29.get krm rfl) (Eq.trans (hf28.get krm rfl) (Eq.trans (hf9.get krm rfl) (Eq.trans (hf6.get krm rfl) (Eq.trans (hf3.get krm rfl) eG4.symm))))))
              have hG4t : (I32 rm 4).toInt = G4.toInt := congrArg Int32.toInt hG4
              have hG5 : I32 rm 5 = G5 := (Eq.trans (hf32.get krm rfl) (Eq.trans (hf29.get krm rfl) (Eq.trans (hf28.get krm rfl) (Eq.trans (hf9.get krm rfl) (Eq.trans (hf6.get krm rfl) (Eq.trans (hf3.get krm rfl) eG5.symm))))))
              have hG5t : (I32 rm 5).toInt = G5.toInt := congrArg Int32.toInt hG5
              have hG6 : I32 rm 6 = G6 := (Eq.trans (hf32.get krm rfl) (Eq.trans (hf29.get krm rfl) (Eq.trans (hf28.get krm rfl) (Eq.trans (hf9.get krm rfl) (Eq.trans (hf6.get krm rfl) (Eq.trans (hf3.get krm rfl) eG6.symm))))))
              have hG6t : (I32 rm 6).toInt = G6.toInt := congrArg Int32.toInt hG6
              have hG7 : I32 rm 7 = G7 := (Eq.trans (hf32.get krm rfl) (Eq.trans (hf29.get krm rfl) (Eq.trans (hf28.get krm rfl) (Eq.trans (hf9.get krm rfl) (Eq.trans (hf6.get krm rfl) (Eq.trans (hf3.get krm rfl) eG7.symm))))))
              have hG7t : (I32 rm 7).toInt = G7.toInt := congrArg Int32.toInt hG7
              have hG8 : I32 rm 8 = G8 := (Eq.trans (hf32.get krm rfl) (Eq.trans (hf29.get krm rfl) (Eq.trans (hf28.get krm rfl) (Eq.trans (hf9.get krm rfl) (Eq.trans (hf6.get krm rfl) (Eq.trans (hf3.get krm rfl) eG8.symm))))))
              have hG8t : (I32 rm 8).toInt = G8.toInt := congrArg Int32.toInt hG8
              have hG9 : I32 rm 9 = x5_ := (Eq.trans (hf32.get krm rfl) (Eq.trans (hf29.get krm rfl) (Eq.trans (hf28.get krm rfl) (Eq.trans (hf9.get krm rfl) (Eq.trans (hf6.get krm rfl) e5.symm)))))
              have hG9t : (I32 rm 9).toInt = x5_.toInt := congrArg Int32.toInt hG9
              have hG10 : I32 rm 10 = N1 := (Eq.trans (hf32.get krm rfl) (Eq.trans (hf29.get krm rfl) (Eq.trans (hf28.get krm rfl) (Eq.trans (hf9.get krm rfl) eN1.symm))))
              have hG10t : (I32 rm 10).toInt = N1.toInt := congrArg Int32.toInt hG10
              exact r_vret hC hQ hlk hr (by decide) (by decide) dX10_readKnower_113 ⟨_, _, rfl, rfl, ⟨hs32, hF32, hFJ32, (by first | exact Or.inl ⟨(upD (adN D (vl B n (nx B n p))) 0 9 ((adN D (vl B n (nx B n p))) 0 9 + 1)), _, by unfold sKnower; rw [pif_f (show ¬ 4 ≤ D 0 9 by omega), hsp6, bnd_ok, pif_t (show isW B n (nx B n (nx B n p)) 27 from hw7), pif_t hw10, pif_f (c := ∃ j : Nat, (j : Int) < (adN D (vl B n (nx B n p))) 0 5 ∧ (adN D (vl B n (nx B n p))) 23 j = vl B n (nx B n (nx B n (nx B n p)))) (fun h9 => by have h8 := (pk_iff pg9 (by omega) (hn13.trans hvk)).mpr h9; omega)], (nx_le (nx_le (nx_le hp).2).2).2, k9_0, ⟨by unfold SM; simp [upD, adN]; omega, nm9.cg (by simp [upD]) (by intro j; simp [upD]), pg28.cg (by simp [upD]) (by intro j; simp [upD]) (by simp [upD]) (by intro j; simp [upD])⟩, fp9⟩ | exact Or.inr ⟨2, (pl B n (nx B n (nx B n (nx B n p)))), by unfold sKnower; rw [pif_f (show ¬ 4 ≤ D 0 9 by omega), hsp6, bnd_ok, pif_t (show isW B n (nx B n (nx B n p)) 27 from hw7), pif_t hw10, pif_f (c := ∃ j : Nat, (j : Int) < (adN D (vl B n (nx B n p))) 0 5 ∧ (adN D (vl B n (nx B n p))) 23 j = vl B n (nx B n (nx B n (nx B n p)))) (fun h9 => by have h8 := (pk_iff pg9 (by omega) (hn13.trans hvk)).mpr h9; omega)], by omega, by omega, by omega⟩), (by exact om32)⟩⟩
            · refine r_aload_n hC dX10_readKnower_72 1 rfl ?_
              refine r_getr hC 4 (ci := 10) rfl u10_in (by decide) mT_4_239 dX10_readKnower_73 ka0 rfl rfl hbr ?_
              refine r_getrN hC 26 (ci := 9) rfl u9_in (by decide) nF_26 dX10_readKnower_76 krm rfl rfl hns ?_
              refine r_iload_n hC dX10_readKnower_79 0 rfl ?_
              refine x_iaload hC kns lns (by decide) rfl rfl dX10_readKnower_80 (by omega) (by omega) (fun x36_ e36 => ?_)
              have hnsx : x36_.toInt = (I9 ns x13_.toInt.toNat).toInt := by have h9 := clampI (i := x13_) (by omega); rw [e36, show x13_.toNatClampNeg = x13_.toInt.toNat by omega]
              refine r_if_eq hC (tgt := 89) dX10_readKnower_81 (by decide) (fun c37 => ?_) (fun c37 => ?_)
              · refine r_aload_n hC dX10_readKnower_89 1 rfl ?_
                refine r_callV hC (As := []) (rest := []) (ci := 10) (f_X10_goesOn g (xL X) K len I9 J9 R hs9 a0 ka0 mt hmt kmt nmt B n (hB.mv9 hF9 kmt (fun _ => rfl)) hBr hn (nx B n (nx B n (nx B n (nx B n p)))) (nx_le (nx_le (nx_le (nx_le hp).2).2).2).2 (k9_0.e5) (k9_0.2.2.1 (by first | omega | (rw [hw10.1]; decide))) (k9_0.2.2.2.1)) mT_5_199 mT_1_10 mT_5_196 mT_5_198 mP_49 okX10_goesOn ⟨by decide, by decide⟩ rfl (by show kO (K a0) = _; rw [ka0]; rfl) rfl rfl (Nat.le_of_ble_eq_true rfl) ⟨by decide, by decide⟩ dX10_readKnower_90 (aV2 (F := fun st M => P g X 3 93 [(1, .int x13_), (0, .ref a0)] st _ _ M) (M := (K, len, I9, J9, R)) fun I38 J38 h38 => ?_)
                obtain ⟨hs38, hf38, hfj38, k38_0⟩ := h38
                show P g X 3 93 [(1, .int x13_), (0, .ref a0)] [] _ _ (K, len, I38, J38, R)
                have hF38 : Fr K [(10, 9), (10, 10), (11, 8), (11, 9), (11, 10), (11, 11), (11, 12), (11, 13), (80, 999), (81, 999), (83, 999), (84, 999)] I I38 := hF9.trans hf38 rfl rfl
                have hFJ38 : Fr K [(11, 14), (82, 999)] J J38 := hFJ9.trans hfj38 rfl rfl
                have fp38 : I38 a0 12 = I a0 12 := (hf38.get ka0 rfl).trans fp9
                have pg38 := pg9.mv hf38 kns (fun _ => rfl)
                have nm38 := nm9.mv hfj38 knr (fun _ => rfl)
                have om38 := om9.mv hf38 rfl
                refine r_aload_n hC dX10_readKnower_93 1 rfl ?_
                refine r_ldcwS hC (i := 59) (by decide) rfl rfl dX10_readKnower_94 ?_
                refine r_iconst hC (v := (0)) dX10_readKnower_97 (by decide) (by decide) (fun x39_ e39 t39 => ?_)
                refine r_sipush hC (v := (999)) dX10_readKnower_98 (by decide) (by decide) (fun x40_ e40 t40 => ?_)
                refine r_callV hC (As := [.ref (g.2.2.1 59), .int x39_, .int x40_]) (rest := []) (ci := 10) (f_X10_readPart g (xL X) K len I38 J38 R hs38 a0 ka0 59 (by decide) x39_ x40_ mt hmt kmt nmt B n (hB.mv9 hF38 kmt (fun _ => rfl)) hBr hn (nx B n (nx B n (nx B n (nx B n p)))) (nx_le (nx_le (nx_le (nx_le hp).2).2).2).2 k38_0 (by first | assumption | decide)) mT_6_1 mT_1_10 mT_5_238 mT_6_0 mP_56 okX10_readPart ⟨by decide, by decide⟩ rfl (by show kO (K a0) = _; rw [ka0]; rfl) rfl rfl (Nat.le_of_ble_eq_true rfl) ⟨by decide, by decide⟩ dX10_readKnower_101 (aI2 (F := fun st M => P g X 3 104 [(1, .int x13_), (0, .ref a0)] st _ _ M) (M := (K, len, I38, J38, R)) fun x41_ I41 J41 h41 => ?_)
                obtain ⟨hs41, hf41, hfj41, k41_0⟩ := h41
                show P g X 3 104 [(1, .int x13_), (0, .ref a0)] [.int x41_] _ _ (K, len, I41, J41, R)
                have hF41 : Fr K [(10, 9), (10, 10), (11, 8), (11, 9), (11, 10), (11, 11), (11, 12), (11, 13), (80, 999), (81, 999), (83, 999), (84, 999)] I I41 := hF38.trans hf41 rfl rfl
                have hFJ41 : Fr K [(11, 14), (82, 999)] J J41 := hFJ38.trans hfj41 rfl rfl
                have pg41 := pg38.mv hf41 kns (fun _ => rfl)
                have nm41 := nm38.mv hfj41 knr (fun _ => rfl)
                have om41 := om38.mv hf41 rfl
                rcases k41_0 with ⟨v41, p41, hsp41, hp41, tk41, hv41, fl41⟩ | ⟨kf41, qf41, hsp41, hf041, hf141, hf241⟩
                · have fq41 : I41 a0 12 = I a0 12 := fl41.trans fp38
                  rw [show x39_.toInt = 0 by omega, show x40_.toInt = 999 by omega] at hsp41
                  have rg41 := (sNum_go (nx_le (nx_le (nx_le (nx_le hp).2).2).2).2 hsp41).2
                  refine r_istore_n hC (lv' := [(2, .int x41_), (1, .int x13_), (0, .ref a0)]) dX10_readKnower_104 (by decide) rfl ?_
                  refine r_aload_n hC dX10_readKnower_105 2 rfl ?_
                  have n5_106 := tk41.e5
                  refine r_geti hC 9 (ci := 10) rfl u10_in (by decide) mT_5_4 dX10_readKnower_106 ka0 rfl rfl (fun x42_ e42 => ?_)
                  have f42 : x42_.toInt = (I41 a0 9).toInt := by rw [e42]
                  refine r_iconst hC (v := (5)) dX10_readKnower_109 (by decide) (by decide) (fun x43_ e43 t43 => ?_)
                  refine r_icmp_ne hC (tgt := 114) dX10_readKnower_110 (by decide) (fun c44 => ?_) (fun c44 => ?_)
                  rotate_left
                  · exfalso; omega
                  refine r_aload_n hC dX10_readKnower_114 2 rfl ?_
                  refine r_getr hC 4 (ci := 10) rfl u10_in (by decide) mT_4_239 dX10_readKnower_115 ka0 rfl rfl hbr ?_
                  obtain ⟨a45_, hb45, hk45, hn45⟩ := hs41.row krm 23 80 4 (by decide) (by decide)
                  refine r_getrN hC 23 (ci := 9) rfl u9_in (by decide) nF_23 dX10_readKnower_118 krm rfl rfl hb45 ?_
                  refine r_aload_n hC dX10_readKnower_121 2 rfl ?_
                  refine r_getr hC 4 (ci := 10) rfl u10_in (by decide) mT_4_239 dX10_readKnower_122 ka0 rfl rfl hbr ?_
                  refine r_getiN hC 9 (ci := 9) rfl u9_in (by decide) nF_9 dX10_readKnower_125 krm rfl rfl (fun x46_ e46 => ?_)
                  have r46 := hs41.rng krm rfl e46
                  have f46 : x46_.toInt = (I41 rm 9).toInt := by rw [e46]
                  have w46 : x46_ = x5_ := by rw [e46]; exact (Eq.trans (hf41.get krm rfl) (Eq.trans (hf38.get krm rfl) (Eq.trans (hf9.get krm rfl) (Eq.trans (hf6.get krm rfl) e5.symm))))
                  have wt46 : x46_.toInt = x5_.toInt := by rw [w46]
                  refine r_aload_n hC dX10_readKnower_128 2 rfl ?_
                  refine r_getr hC 4 (ci := 10) rfl u10_in (by decide) mT_4_239 dX10_readKnower_129 ka0 rfl rfl hbr ?_
                  obtain ⟨a47_, hb47, hk47, hn47⟩ := hs41.row krm 27 84 19 (by decide) (by decide)
                  refine r_getrN hC 27 (ci := 9) rfl u9_in (by decide) nF_27 dX10_readKnower_132 krm rfl rfl hb47 ?_
                  refine r_iload_n hC dX10_readKnower_135 1 rfl ?_
                  refine x_iaload hC hk47 hn47 (by decide) rfl rfl dX10_readKnower_136 (by omega) (by omega) (fun x48_ e48 => ?_)
                  refine x_iastore hC hk45 hn45 (by decide) rfl rfl dX10_readKnower_137 (by omega) (by omega) (fun I49 eI49 => ?_)
                  have hs49 := hs41.put0 eI49 hk45 (rng_arr (by decide) _) rfl (xF_arr (by decide) _) (by decide)
                  have hF49 := hF41.put eI49 hk45 (inS_arr rfl _)
                  have tkp49 := tk41.put eI49 hk45 ka0 (by decide)
                  have fp49 : I49 a0 12 = I a0 12 := (up2_kk eI49 hk45 ka0 (by decide)).trans fq41
                  have pg49 := pg41.put eI49 hk45 kns (by decide)
                  have om49 := om41.put eI49 hk45 (by first | exact Or.inr rfl | exact Or.inl (by decide) | exact Or.inl (by omega))
                  refine r_aload_n hC dX10_readKnower_138 2 rfl ?_
                  refine r_getr hC 4 (ci := 10) rfl u10_in (by decide) mT_4_239 dX10_readKnower_139 ka0 rfl rfl hbr ?_
                  obtain ⟨a50_, hb50, hk50, hn50⟩ := hs49.row krm 24 81 4 (by decide) (by decide)
                  refine r_getrN hC 24 (ci := 9) rfl u9_in (by decide) nF_24 dX10_readKnower_142 krm rfl rfl hb50 ?_
                  refine r_aload_n hC dX10_readKnower_145 2 rfl ?_
                  refine r_getr hC 4 (ci := 10) rfl u10_in (by decide) mT_4_239 dX10_readKnower_146 ka0 rfl rfl hbr ?_
                  refine r_getiN hC 9 (ci := 9) rfl u9_in (by decide) nF_9 dX10_readKnower_149 krm rfl rfl (fun x51_ e51 => ?_)
                  have r51 := hs49.rng krm rfl e51
                  have f51 : x51_.toInt = (I49 rm 9).toInt := by rw [e51]
                  have w51 : x51_ = x46_ := by rw [e51]; exact (Eq.trans (up2_kk eI49 hk45 krm (by decide)) e46.symm)
                  have wt51 : x51_.toInt = x46_.toInt := by rw [w51]
                  refine r_iload_n hC dX10_readKnower_152 0 rfl ?_
                  refine x_iastore hC hk50 hn50 (by decide) rfl rfl dX10_readKnower_153 (by omega) (by omega) (fun I52 eI52 => ?_)
                  have hs52 := hs49.put0 eI52 hk50 (rng_arr (by decide) _) rfl (xF_arr (by decide) _) (by decide)
                  have hF52 := hF49.put eI52 hk50 (inS_arr rfl _)
                  have tkp52 := tkp49.put eI52 hk50 ka0 (by decide)
                  have fp52 : I52 a0 12 = I a0 12 := (up2_kk eI52 hk50 ka0 (by decide)).trans fp49
                  have pg52 := pg49.put eI52 hk50 kns (by decide)
                  have om52 := om49.put eI52 hk50 (by first | exact Or.inr rfl | exact Or.inl (by decide) | exact Or.inl (by omega))
                  refine r_aload_n hC dX10_readKnower_154 2 rfl ?_
                  refine r_getr hC 4 (ci := 10) rfl u10_in (by decide) mT_4_239 dX10_readKnower_155 ka0 rfl rfl hbr ?_
                  refine r_dup hC dX10_readKnower_158 rfl ?_
                  refine r_getiN hC 9 (ci := 9) rfl u9_in (by decide) nF_9 dX10_readKnower_159 krm rfl rfl (fun x53_ e53 => ?_)
                  have r53 := hs52.rng krm rfl e53
                  have f53 : x53_.toInt = (I52 rm 9).toInt := by rw [e53]
                  have w53 : x53_ = x51_ := by rw [e53]; exact (Eq.trans (up2_kk eI52 hk50 krm (by decide)) e51.symm)
                  have wt53 : x53_.toInt = x51_.toInt := by rw [w53]
                  refine r_iconst hC (v := (1)) dX10_readKnower_162 (by decide) (by decide) (fun x54_ e54 t54 => ?_)
                  refine r_iadd hC dX10_readKnower_163 (fun x55_ e55 => ?_)
                  try have t55 : x55_.toInt = x53_.toInt + x54_.toInt := by rw [e55]; exact ti_add (by omega) (by omega)
                  refine r_putiN hC 9 (ci := 9) rfl u9_in tyX9_ok nmX9 (by decide) nF_9 rfl rfl rfl dX10_readKnower_164 krm rfl rfl (fun I56 eI56 => ?_)
                  have hs56 := hs52.put1 eI56 krm rfl (by omega) (by omega) rfl rfl (by decide)
                  have hF56 := hF52.put eI56 krm rfl
                  have tkp56 := tkp52.put eI56 krm ka0 (by decide)
                  have fp56 : I56 a0 12 = I a0 12 := (up2_kk eI56 krm ka0 (by decide)).trans fp52
                  have pg56 := pg52.put eI56 krm kns (by decide)
                  have om56 := om52.put eI56 krm (by first | exact Or.inr rfl | exact Or.inl (by decide) | exact Or.inl (by omega))
                  have hG0 : I56 rm 0 = G0 := (Eq.trans (up2_at (Or.inr (by decide)) eI56) (Eq.trans (up2_kk eI52 hk50 krm (by decide)) (Eq.trans (up2_kk eI49 hk45 krm (by decide)) (Eq.trans (hf41.get krm rfl) (Eq.trans (hf38.get krm rfl) (Eq.trans (hf9.get krm rfl) (Eq.trans (hf6.get krm rfl) (Eq.trans (hf3.get krm rfl) eG0.symm))))))))
                  have hG0t : (I56 rm 0).toInt = G0.toInt := congrArg Int32.toInt hG0
                  have hG1 : I56 rm 1 = G1 := (Eq.trans (up2_at (Or.inr (by decide)) eI56) (Eq.trans (up2_kk eI52 hk50 krm (by decide)) (Eq.trans (up2_kk eI49 hk45 krm (by decide)) (Eq.trans (hf41.get krm rfl) (Eq.trans (hf38.get krm rfl) (Eq.trans (hf9.get krm rfl) (Eq.trans (hf6.get krm rfl) (Eq.trans (hf3.get krm rfl) eG1.symm))))))))
                  have hG1t : (I56 rm 1).toInt = G1.toInt := congrArg Int32.toInt hG1
                  have hG2 : I56 rm 2 = G2 := (Eq.trans (up2_at (Or.inr (by decide)) eI56) (Eq.trans (up2_kk eI52 hk50 krm (by decide)) (Eq.trans (up2_kk eI49 hk45 krm (by decide)) (Eq.trans (hf41.get krm rfl) (Eq.trans (hf38.get krm rfl) (Eq.trans (hf9.get krm rfl) (Eq.trans (hf6.get krm rfl) (Eq.trans (hf3.get krm rfl) eG2.symm))))))))
                  have hG2t : (I56 rm 2).toInt = G2.toInt := congrArg Int32.toInt hG2
                  have hG3 : I56 rm 3 = G3 := (Eq.trans (up2_at (Or.inr (by decide)) eI56) (Eq.trans (up2_kk eI52 hk50 krm (by decide)) (Eq.trans (up2_kk eI49 hk45 krm (by decide)) (Eq.trans (hf41.get krm rfl) (Eq.trans (hf38.get krm rfl) (Eq.trans (hf9.get krm rfl) (Eq.trans (hf6.get krm rfl) (Eq.trans (hf3.get krm rfl) eG3.symm))))))))
                  have hG3t : (I56 rm 3).toInt = G3.toInt := congrArg Int32.toInt hG3
                  have hG4 : I56 rm 4 = G4 := (Eq.trans (up2_at (Or.inr (by decide)) eI56) (Eq.trans (up2_kk eI52 hk50 krm (by decide)) (Eq.trans (up2_kk eI49 hk45 krm (by decide)) (Eq.trans (hf41.get krm rfl) (Eq.trans (hf38.get krm rfl) (Eq.trans (hf9.get krm rfl) (Eq.trans (hf6.get krm rfl) (Eq.trans (hf3.get krm rfl) eG4.symm))))))))
                  have hG4t : (I56 rm 4).toInt = G4.toInt := congrArg Int32.toInt hG4
                  have hG5 : I56 rm 5 = G5 := (Eq.trans (up2_at (Or.inr (by decide)) eI56) (Eq.trans (up2_kk eI52 hk50 krm (by decide)) (Eq.trans (up2_kk eI49 hk45 krm (by decide)) (Eq.trans (hf41.get krm rfl) (Eq.trans (hf38.get krm rfl) (Eq.trans (hf9.get krm rfl) (Eq.trans (hf6.get krm rfl) (Eq.trans (hf3.get krm rfl) eG5.symm))))))))
                  have hG5t : (I56 rm 5).toInt = G5.toInt := congrArg Int32.toInt hG5
                  have hG6 : I56 rm 6 = G6 := (Eq.trans (up2_at (Or.inr (by decide)) eI56) (Eq.trans (up2_kk eI52 hk50 krm (by decide)) (Eq.trans (up2_kk eI49 hk45 krm (by decide)) (Eq.trans (hf41.get krm rfl) (Eq.trans (hf38.get krm rfl) (Eq.trans (hf9.get krm rfl) (Eq.trans (hf6.get krm rfl) (Eq.trans (hf3.get krm rfl) eG6.symm))))))))
                  have hG6t : (I56 rm 6).toInt = G6.toInt := congrArg Int32.toInt hG6
                  have hG7 : I56 rm 7 = G7 := (Eq.trans (up2_at (Or.inr (by decide)) eI56) (Eq.trans (up2_kk eI52 hk50 krm (by decide)) (Eq.trans (up2_kk eI49 hk45 krm (by decide)) (Eq.trans (hf41.get krm rfl) (Eq.trans (hf38.get krm rfl) (Eq.trans (hf9.get krm rfl) (Eq.trans (hf6.get krm rfl) (Eq.trans (hf3.get krm rfl) eG7.symm))))))))
                  have hG7t : (I56 rm 7).toInt = G7.toInt := congrArg Int32.toInt hG7
                  have hG8 : I56 rm 8 = G8 := (Eq.trans (up2_at (Or.inr (by decide)) eI56) (Eq.trans (up2_kk eI52 hk50 krm (by decide)) (Eq.trans (up2_kk eI49 hk45 krm (by decide)) (Eq.trans (hf41.get krm rfl) (Eq.trans (hf38.get krm rfl) (Eq.trans (hf9.get krm rfl) (Eq.trans (hf6.get krm rfl) (Eq.trans (hf3.get krm rfl) eG8.symm))))))))
                  have hG8t : (I56 rm 8).toInt = G8.toInt := congrArg Int32.toInt hG8
                  have hG9 : I56 rm 9 = x55_ := (by rw [eI56]; exact up2_self _ _ _ _)
                  have hG9t : (I56 rm 9).toInt = x55_.toInt := congrArg Int32.toInt hG9
                  have hG10 : I56 rm 10 = N1 := (Eq.trans (up2_at (Or.inr (by decide)) eI56) (Eq.trans (up2_kk eI52 hk50 krm (by decide)) (Eq.trans (up2_kk eI49 hk45 krm (by decide)) (Eq.trans (hf41.get krm rfl) (Eq.trans (hf38.get krm rfl) (Eq.trans (hf9.get krm rfl) eN1.symm))))))
                  have hG10t : (I56 rm 10).toInt = N1.toInt := congrArg Int32.toInt hG10
                  exact r_vret hC hQ hlk hr (by decide) (by decide) dX10_readKnower_167 ⟨_, _, rfl, rfl, ⟨hs56, hF56, hFJ41, (by first | exact Or.inl ⟨(upD (adN D (vl B n (nx B n p))) 0 9 ((adN D (vl B n (nx B n p))) 0 9 + 1)), _, by unfold sKnower; rw [pif_f (show ¬ 4 ≤ D 0 9 by omega), hsp6, bnd_ok, pif_t (show isW B n (nx B n (nx B n p)) 27 from hw7), pif_t hw10, pif_t (c := ∃ j : Nat, (j : Int) < (adN D (vl B n (nx B n p))) 0 5 ∧ (adN D (vl B n (nx B n p))) 23 j = vl B n (nx B n (nx B n (nx B n p)))) ((pk_iff pg9 (by omega) (hn13.trans hvk)).mp (by omega)), hsp41, bnd_ok], hp41, tkp56, ⟨by unfold SM; simp [upD, adN]; omega, nm41.cg (by simp [upD]) (by intro j; simp [upD]), pg56.cg (by simp [upD]) (by intro j; simp [upD]) (by simp [upD]) (by intro j; simp [upD])⟩, fp56⟩ | exact Or.inr ⟨NOekf, NOeqf, by unfold sKnower; rw [pif_f (show ¬ 4 ≤ D 0 9 by omega), hsp6, bnd_ok, pif_t (show isW B n (nx B n (nx B n p)) 27 from hw7), pif_t hw10, pif_t (c := ∃ j : Nat, (j : Int) < (adN D (vl B n (nx B n p))) 0 5 ∧ (adN D (vl B n (nx B n p))) 23 j = vl B n (nx B n (nx B n (nx B n p)))) ((pk_iff pg9 (by omega) (hn13.trans hvk)).mp (by omega)), hsp41, bnd_ok], by omega, by omega, by omega⟩), (by exact om56)⟩⟩
                · rw [show x39_.toInt = 0 by omega, show x40_.toInt = 999 by omega] at hsp41
                  refine r_istore_n hC (lv' := [(2, .int x41_), (1, .int x13_), (0, .ref a0)]) dX10_readKnower_104 (by decide) rfl ?_
                  refine r_aload_n hC dX10_readKnower_105 2 rfl ?_
                  refine r_geti hC 9 (ci := 10) rfl u10_in (by decide) mT_5_4 dX10_readKnower_106 ka0 rfl rfl (fun x57_ e57 => ?_)
                  have f57 : x57_.toInt = (I41 a0 9).toInt := by rw [e57]
                  refine r_iconst hC (v := (5)) dX10_readKnower_109 (by decide) (by decide) (fun x58_ e58 t58 => ?_)
                  refine r_icmp_ne hC (tgt := 114) dX10_readKnower_110 (by decide) (fun c59 => ?_) (fun c59 => ?_)
                  · exfalso; omega
                  have hG0 : I41 rm 0 = G0 := (Eq.trans (hf41.get krm rfl) (Eq.trans (hf38.get krm rfl) (Eq.trans (hf9.get krm rfl) (Eq.trans (hf6.get krm rfl) (Eq.trans (hf3.get krm rfl) eG0.symm)))))
                  have hG0t : (I41 rm 0).toInt = G0.toInt := congrArg Int32.toInt hG0
                  have hG1 : I41 rm 1 = G1 := (Eq.trans (hf41.get krm rfl) (Eq.trans (hf38.get krm rfl) (Eq.trans (hf9.get krm rfl) (Eq.trans (hf6.get krm rfl) (Eq.trans (hf3.get krm rfl) eG1.symm)))))
                  have hG1t : (I41 rm 1).toInt = G1.toInt := congrArg Int32.toInt hG1
                  have hG2 : I41 rm 2 = G2 := (Eq.trans (hf41.get krm rfl) (Eq.trans (hf38.get krm rfl) (Eq.trans (hf9.get krm rfl) (Eq.trans (hf6.get krm rfl) (Eq.trans (hf3.get krm rfl) eG2.symm)))))
                  have hG2t : (I41 rm 2).toInt = G2.toInt := congrArg Int32.toInt hG2
                  have hG3 : I41 rm 3 = G3 := (Eq.trans (hf41.get krm rfl) (Eq.trans (hf38.get krm rfl) (Eq.trans (hf9.get krm rfl) (Eq.trans (hf6.get krm rfl) (Eq.trans (hf3.get krm rfl) eG3.symm)))))
                  have hG3t : (I41 rm 3).toInt = G3.toInt := congrArg Int32.toInt hG3
                  have hG4 : I41 rm 4 = G4 := (Eq.trans (hf41.get krm rfl) (Eq.trans (hf38.get krm rfl) (Eq.trans (hf9.get krm rfl) (Eq.trans (hf6.get krm rfl) (Eq.trans (hf3.get krm rfl) eG4.symm)))))
                  have hG4t : (I41 rm 4).toInt = G4.toInt := congrArg Int32.toInt hG4
                  have hG5 : I41 rm 5 = G5 := (Eq.trans (hf41.get krm rfl) (Eq.trans (hf38.get krm rfl) (Eq.trans (hf9.get krm rfl) (Eq.trans (hf6.get krm rfl) (Eq.trans (hf3.get krm rfl) eG5.symm)))))
                  have hG5t : (I41 rm 5).toInt = G5.toInt := congrArg Int32.toInt hG5
                  have hG6 : I41 rm 6 = G6 := (Eq.trans (hf41.get krm rfl) (Eq.trans (hf38.get krm rfl) (Eq.trans (hf9.get krm rfl) (Eq.trans (hf6.get krm rfl) (Eq.trans (hf3.get krm rfl) eG6.symm)))))
                  have hG6t : (I41 rm 6).toInt = G6.toInt := congrArg Int32.toInt hG6
                  have hG7 : I41 rm 7 = G7 := (Eq.trans (hf41.get krm rfl) (Eq.trans (hf38.get krm rfl) (Eq.trans (hf9.get krm rfl) (Eq.trans (hf6.get krm rfl) (Eq.trans (hf3.get krm rfl) eG7.symm)))))
                  have hG7t : (I41 rm 7).toInt = G7.toInt := congrArg Int32.toInt hG7
                  have hG8 : I41 rm 8 = G8 := (Eq.trans (hf41.get krm rfl) (Eq.trans (hf38.get krm rfl) (Eq.trans (hf9.get krm rfl) (Eq.trans (hf6.get krm rfl) (Eq.trans (hf3.get krm rfl) eG8.symm)))))
                  have hG8t : (I41 rm 8).toInt = G8.toInt := congrArg Int32.toInt hG8
                  have hG9 : I41 rm 9 = x5_ := (Eq.trans (hf41.get krm rfl) (Eq.trans (hf38.get krm rfl) (Eq.trans (hf9.get krm rfl) (Eq.trans (hf6.get krm rfl) e5.symm))))
                  have hG9t : (I41 rm 9).toInt = x5_.toInt := congrArg Int32.toInt hG9
                  have hG10 : I41 rm 10 = N1 := (Eq.trans (hf41.get krm rfl) (Eq.trans (hf38.get krm rfl) (Eq.trans (hf9.get krm rfl) eN1.symm)))
                  have hG10t : (I41 rm 10).toInt = N1.toInt := congrArg Int32.toInt hG10
                  exact r_vret hC hQ hlk hr (by decide) (by decide) dX10_readKnower_113 ⟨_, _, rfl, rfl, ⟨hs41, hF41, hFJ41, (by first | exact Or.inl ⟨(upD (adN D (vl B n (nx B n p))) 0 9 ((adN D (vl B n (nx B n p))) 0 9 + 1)), _, by unfold sKnower; rw [pif_f (show ¬ 4 ≤ D 0 9 by omega), hsp6, bnd_ok, pif_t (show isW B n (nx B n (nx B n p)) 27 from hw7), pif_t hw10, pif_t (c := ∃ j : Nat, (j : Int) < (adN D (vl B n (nx B n p))) 0 5 ∧ (adN D (vl B n (nx B n p))) 23 j = vl B n (nx B n (nx B n (nx B n p)))) ((pk_iff pg9 (by omega) (hn13.trans hvk)).mp (by omega)), hsp41, bnd_er], (nx_le (nx_le (nx_le (nx_le hp).2).2).2).2, k38_0, ⟨by unfold SM; simp [upD, adN]; omega, nm41.cg (by simp [upD]) (by intro j; simp [upD]), pg41.cg (by simp [upD]) (by intro j; simp [upD]) (by simp [upD]) (by intro j; simp [upD])⟩, fp38⟩ | exact Or.inr ⟨kf41, qf41, by unfold sKnower; rw [pif_f (show ¬ 4 ≤ D 0 9 by omega), hsp6, bnd_ok, pif_t (show isW B n (nx B n (nx B n p)) 27 from hw7), pif_t hw10, pif_t (c := ∃ j : Nat, (j : Int) < (adN D (vl B n (nx B n p))) 0 5 ∧ (adN D (vl B n (nx B n p))) 23 j = vl B n (nx B n (nx B n (nx B n p)))) ((pk_iff pg9 (by omega) (hn13.trans hvk)).mp (by omega)), hsp41, bnd_er], by omega, by omega, by omega⟩), (by exact om41)⟩⟩
              · refine r_aload_n hC dX10_readKnower_84 1 rfl ?_
                refine r_iconst hC (v := (2)) dX10_readKnower_85 (by decide) (by decide) (fun x60_ e60 t60 => ?_)
                refine r_callV hC (As := [.int x60_]) (rest := []) (ci := 10) (f_X10_wrong g (xL X) K len I9 J9 R hs9 a0 ka0 x60_ (k9_0.e5)) mT_5_236 mT_1_10 mT_5_233 mT_5_235 mP_55 okX10_wrong ⟨by decide, by decide⟩ rfl (by show kO (K a0) = _; rw [ka0]; rfl) rfl rfl (Nat.le_of_ble_eq_true rfl) ⟨by decide, by decide⟩ dX10_readKnower_86 (aV1 (F := fun st M => P g X 3 89 [(1, .int x13_), (0, .ref a0)] st _ _ M) (M := (K, len, I9, J9, R)) fun I61 h61 => ?_)
                obtain ⟨hs61, hf61, k61_0, k61_1, k61_2⟩ := h61
                show P g X 3 89 [(1, .int x13_), (0, .ref a0)] [] _ _ (K, len, I61, J9, R)
                have hF61 : Fr K [(10, 9), (10, 10), (11, 8), (11, 9), (11, 10), (11, 11), (11, 12), (11, 13), (80, 999), (81, 999), (83, 999), (84, 999)] I I61 := hF9.trans hf61 rfl rfl
                have pg61 := pg9.mv hf61 kns (fun _ => rfl)
                have om61 := om9.mv hf61 rfl
                have hwp61 := k9_0.2.1
                refine r_aload_n hC dX10_readKnower_89 1 rfl ?_
                refine r_callV hC (As := []) (rest := []) (ci := 10) (e_X10_goesOn g (xL X) K len I61 J9 R hs61 a0 ka0 (by omega)) mT_5_199 mT_1_10 mT_5_196 mT_5_198 mP_49 okX10_goesOn ⟨by decide, by decide⟩ rfl (by show kO (K a0) = _; rw [ka0]; rfl) rfl rfl (Nat.le_of_ble_eq_true rfl) ⟨by decide, by decide⟩ dX10_readKnower_90 (aV2 (F := fun st M => P g X 3 93 [(1, .int x13_), (0, .ref a0)] st _ _ M) (M := (K, len, I61, J9, R)) fun I62 J62 h62 => ?_)
                obtain ⟨hs62, hf62, hfj62, k62_0, k62_1, k62_2⟩ := h62
                show P g X 3 93 [(1, .int x13_), (0, .ref a0)] [] _ _ (K, len, I62, J62, R)
                have hF62 : Fr K [(10, 9), (10, 10), (11, 8), (11, 9), (11, 10), (11, 11), (11, 12), (11, 13), (80, 999), (81, 999), (83, 999), (84, 999)] I I62 := hF61.trans hf62 rfl rfl
                have hFJ62 : Fr K [(11, 14), (82, 999)] J J62 := hFJ9.trans hfj62 rfl rfl
                have om62 := om61.mv hf62 rfl
                refine r_aload_n hC dX10_readKnower_93 1 rfl ?_
                refine r_ldcwS hC (i := 59) (by decide) rfl rfl dX10_readKnower_94 ?_
                refine r_iconst hC (v := (0)) dX10_readKnower_97 (by decide) (by decide) (fun x63_ e63 t63 => ?_)
                refine r_sipush hC (v := (999)) dX10_readKnower_98 (by decide) (by decide) (fun x64_ e64 t64 => ?_)
                refine r_callV hC (As := [.ref (g.2.2.1 59), .int x63_, .int x64_]) (rest := []) (ci := 10) (e_X10_readPart g (xL X) K len I62 J62 R hs62 a0 ka0 59 (by decide) x63_ x64_ (by omega)) mT_6_1 mT_1_10 mT_5_238 mT_6_0 mP_56 okX10_readPart ⟨by decide, by decide⟩ rfl (by show kO (K a0) = _; rw [ka0]; rfl) rfl rfl (Nat.le_of_ble_eq_true rfl) ⟨by decide, by decide⟩ dX10_readKnower_101 (aI2 (F := fun st M => P g X 3 104 [(1, .int x13_), (0, .ref a0)] st _ _ M) (M := (K, len, I62, J62, R)) fun x65_ I65 J65 h65 => ?_)
                obtain ⟨hs65, hf65, hfj65, k65_0, k65_1, k65_2⟩ := h65
                show P g X 3 104 [(1, .int x13_), (0, .ref a0)] [.int x65_] _ _ (K, len, I65, J65, R)
                have hF65 : Fr K [(10, 9), (10, 10), (11, 8), (11, 9), (11, 10), (11, 11), (11, 12), (11, 13), (80, 999), (81, 999), (83, 999), (84, 999)] I I65 := hF62.trans hf65 rfl rfl
                have hFJ65 : Fr K [(11, 14), (82, 999)] J J65 := hFJ62.trans hfj65 rfl rfl
                have om65 := om62.mv hf65 rfl
                refine r_istore_n hC (lv' := [(2, .int x65_), (1, .int x13_), (0, .ref a0)]) dX10_readKnower_104 (by decide) rfl ?_
                refine r_aload_n hC dX10_readKnower_105 2 rfl ?_
                refine r_geti hC 9 (ci := 10) rfl u10_in (by decide) mT_5_4 dX10_readKnower_106 ka0 rfl rfl (fun x66_ e66 => ?_)
                have f66 : x66_.toInt = (I65 a0 9).toInt := by rw [e66]
                refine r_iconst hC (v := (5)) dX10_readKnower_109 (by decide) (by decide) (fun x67_ e67 t67 => ?_)
                refine r_icmp_ne hC (tgt := 114) dX10_readKnower_110 (by decide) (fun c68 => ?_) (fun c68 => ?_)
                · exfalso; omega
                have hG0 : I65 rm 0 = G0 := (Eq.trans (hf65.get krm rfl) (Eq.trans (hf62.get krm rfl) (Eq.trans (hf61.get krm rfl) (Eq.trans (hf9.get krm rfl) (Eq.trans (hf6.get krm rfl) (Eq.trans (hf3.get krm rfl) eG0.symm))))))
                have hG0t : (I65 rm 0).toInt = G0.toInt := congrArg Int32.toInt hG0
                have hG1 : I65 rm 1 = G1 := (Eq.trans (hf65.get krm rfl) (Eq.trans (hf62.get krm rfl) (Eq.trans (hf61.get krm rfl) (Eq.trans (hf9.get krm rfl) (Eq.trans (hf6.get krm rfl) (Eq.trans (hf3.get krm rfl) eG1.symm))))))
                have hG1t : (I65 rm 1).toInt = G1.toInt := congrArg Int32.toInt hG1
                have hG2 : I65 rm 2 = G2 := (Eq.trans (hf65.get krm rfl) (Eq.trans (hf62.get krm rfl) (Eq.trans (hf61.get krm rfl) (Eq.trans (hf9.get krm rfl) (Eq.trans (hf6.get krm rfl) (Eq.trans (hf3.get krm rfl) eG2.symm))))))
                have hG2t : (I65 rm 2).toInt = G2.toInt := congrArg Int32.toInt hG2
                have hG3 : I65 rm 3 = G3 := (Eq.trans (hf65.get krm rfl) (Eq.trans (hf62.get krm rfl) (Eq.trans (hf61.get krm rfl) (Eq.trans (hf9.get krm rfl) (Eq.trans (hf6.get krm rfl) (Eq.trans (hf3.get krm rfl) eG3.symm))))))
                have hG3t : (I65 rm 3).toInt = G3.toInt := congrArg Int32.toInt hG3
                have hG4 : I65 rm 4 = G4 := (Eq.trans (hf65.get krm rfl) (Eq.trans (hf62.get krm rfl) (Eq.trans (hf61.get krm rfl) (Eq.trans (hf9.get krm rfl) (Eq.trans (hf6.get krm rfl) (Eq.trans (hf3.get krm rfl) eG4.symm))))))
                have hG4t : (I65 rm 4).toInt = G4.toInt := congrArg Int32.toInt hG4
                have hG5 : I65 rm 5 = G5 := (Eq.trans (hf65.get krm rfl) (Eq.trans (hf62.get krm rfl) (Eq.trans (hf61.get krm rfl) (Eq.trans (hf9.get krm rfl) (Eq.trans (hf6.get krm rfl) (Eq.trans (hf3.get krm rfl) eG5.symm))))))
                have hG5t : (I65 rm 5).toInt = G5.toInt := congrArg Int32.toInt hG5
                have hG6 : I65 rm 6 = G6 := (Eq.trans (hf65.get krm rfl) (Eq.trans (hf62.get krm rfl) (Eq.trans (hf61.get krm rfl) (Eq.trans (hf9.get krm rfl) (Eq.trans (hf6.get krm rfl) (Eq.trans (hf3.get krm rfl) eG6.symm))))))
                have hG6t : (I65 rm 6).toInt = G6.toInt := congrArg Int32.toInt hG6
                have hG7 : I65 rm 7 = G7 := (Eq.trans (hf65.get krm rfl) (Eq.trans (hf62.get krm rfl) (Eq.trans (hf61.get krm rfl) (Eq.trans (hf9.get krm rfl) (Eq.trans (hf6.get krm rfl) (Eq.trans (hf3.get krm rfl) eG7.symm))))))
                have hG7t : (I65 rm 7).toInt = G7.toInt := congrArg Int32.toInt hG7
                have hG8 : I65 rm 8 = G8 := (Eq.trans (hf65.get krm rfl) (Eq.trans (hf62.get krm rfl) (Eq.trans (hf61.get krm rfl) (Eq.trans (hf9.get krm rfl) (Eq.trans (hf6.get krm rfl) (Eq.trans (hf3.get krm rfl) eG8.symm))))))
                have hG8t : (I65 rm 8).toInt = G8.toInt := congrArg Int32.toInt hG8
                have hG9 : I65 rm 9 = x5_ := (Eq.trans (hf65.get krm rfl) (Eq.trans (hf62.get krm rfl) (Eq.trans (hf61.get krm rfl) (Eq.trans (hf9.get krm rfl) (Eq.trans (hf6.get krm rfl) e5.symm)))))
                have hG9t : (I65 rm 9).toInt = x5_.toInt := congrArg Int32.toInt hG9
                have hG10 : I65 rm 10 = N1 := (Eq.trans (hf65.get krm rfl) (Eq.trans (hf62.get krm rfl) (Eq.trans (hf61.get krm rfl) (Eq.trans (hf9.get krm rfl) eN1.symm))))
                have hG10t : (I65 rm 10).toInt = N1.toInt := congrArg Int32.toInt hG10
                exact r_vret hC hQ hlk hr (by decide) (by decide) dX10_readKnower_113 ⟨_, _, rfl, rfl, ⟨hs65, hF65, hFJ65, (by first | exact Or.inl ⟨(upD (adN D (vl B n (nx B n p))) 0 9 ((adN D (vl B n (nx B n p))) 0 9 + 1)), _, by unfold sKnower; rw [pif_f (show ¬ 4 ≤ D 0 9 by omega), hsp6, bnd_ok, pif_t (show isW B n (nx B n (nx B n p)) 27 from hw7), pif_t hw10, pif_f (c := ∃ j : Nat, (j : Int) < (adN D (vl B n (nx B n p))) 0 5 ∧ (adN D (vl B n (nx B n p))) 23 j = vl B n (nx B n (nx B n (nx B n p)))) (fun h9 => by have h8 := (pk_iff pg9 (by omega) (hn13.trans hvk)).mpr h9; omega)], (nx_le (nx_le (nx_le hp).2).2).2, k9_0, ⟨by unfold SM; simp [upD, adN]; omega, nm9.cg (by simp [upD]) (by intro j; simp [upD]), pg61.cg (by simp [upD]) (by intro j; simp [upD]) (by simp [upD]) (by intro j; simp [upD])⟩, fp9⟩ | exact Or.inr ⟨2, (pl B n (nx B n (nx B n (nx B n p)))), by unfold sKnower; rw [pif_f (show ¬ 4 ≤ D 0 9 by omega), hsp6, bnd_ok, pif_t (show isW B n (nx B n (nx B n p)) 27 from hw7), pif_t hw10, pif_f (c := ∃ j : Nat, (j : Int) < (adN D (vl B n (nx B n p))) 0 5 ∧ (adN D (vl B n (nx B n p))) 23 j = vl B n (nx B n (nx B n (nx B n p)))) (fun h9 => by have h8 := (pk_iff pg9 (by omega) (hn13.trans hvk)).mpr h9; omega)], by omega, by omega, by omega⟩), (by exact om65)⟩⟩
        · refine r_if_ne hC (tgt := 55) dX10_readKnower_47 (by decide) (fun c69 => ?_) (fun c69 => ?_)
          · exfalso; omega
          refine r_aload_n hC dX10_readKnower_50 0 rfl ?_
          refine r_iconst hC (v := (1)) dX10_readKnower_51 (by decide) (by decide) (fun x70_ e70 t70 => ?_)
          refine r_callV hC (As := [.int x70_]) (rest := []) (ci := 10) (f_X10_wrong g (xL X) K len I9 J9 R hs9 a0 ka0 x70_ (k9_0.e5)) mT_5_236 mT_1_10 mT_5_233 mT_5_235 mP_55 okX10_wrong ⟨by decide, by decide⟩ rfl (by show kO (K a0) = _; rw [ka0]; rfl) rfl rfl (Nat.le_of_ble_eq_true rfl) ⟨by decide, by decide⟩ dX10_readKnower_52 (aV1 (F := fun st M => P g X 3 55 [(0, .ref a0)] st _ _ M) (M := (K, len, I9, J9, R)) fun I71 h71 => ?_)
          obtain ⟨hs71, hf71, k71_0, k71_1, k71_2⟩ := h71
          show P g X 3 55 [(0, .ref a0)] [] _ _ (K, len, I71, J9, R)
          have hF71 : Fr K [(10, 9), (10, 10), (11, 8), (11, 9), (11, 10), (11, 11), (11, 12), (11, 13), (80, 999), (81, 999), (83, 999), (84, 999)] I I71 := hF9.trans hf71 rfl rfl
          have pg71 := pg9.mv hf71 kns (fun _ => rfl)
          have om71 := om9.mv hf71 rfl
          have hwp71 := k9_0.2.1
          refine r_aload_n hC dX10_readKnower_55 0 rfl ?_
          refine r_getr hC 4 (ci := 10) rfl u10_in (by decide) mT_4_239 dX10_readKnower_56 ka0 rfl rfl hbr ?_
          refine r_aload_n hC dX10_readKnower_59 0 rfl ?_
          refine r_getj hC 14 (ci := 10) rfl u10_in (by decide) mT_5_9 dX10_readKnower_60 ka0 rfl rfl (fun y72_ e72 => ?_)
          have fj72 : y72_.toInt = (J9 a0 14).toInt := by rw [e72]
          refine r_callV hC (As := [.long y72_]) (rest := []) (ci := 9) (c_X9_find g (xL X) K len I71 J9 R hs71 rm krm y72_) mT_6_36 mT_1_17 mT_6_33 mT_6_34 mT_6_35 okX9_find ⟨by decide, by decide⟩ rfl (by show kO (K rm) = _; rw [krm]; rfl) rfl rfl (Nat.le_of_ble_eq_true rfl) ⟨by decide, by decide⟩ dX10_readKnower_63 (aI0 (F := fun st M => P g X 3 66 [(0, .ref a0)] st _ _ M) (M := (K, len, I71, J9, R)) fun x73_ h73 => ?_)
          obtain ⟨k73_0, k73_1⟩ := h73
          show P g X 3 66 [(0, .ref a0)] [.int x73_] _ _ (K, len, I71, J9, R)
          refine r_istore_n hC (lv' := [(1, .int x73_), (0, .ref a0)]) dX10_readKnower_66 (by decide) rfl ?_
          refine r_iload_n hC dX10_readKnower_67 0 rfl ?_
          refine r_iconst hC (v := (-1)) dX10_readKnower_68 (by decide) (by decide) (fun x74_ e74 t74 => ?_)
          refine r_icmp_eq hC (tgt := 84) dX10_readKnower_69 (by decide) (fun c75 => ?_) (fun c75 => ?_)
          · refine r_aload_n hC dX10_readKnower_84 1 rfl ?_
            refine r_iconst hC (v := (2)) dX10_readKnower_85 (by decide) (by decide) (fun x76_ e76 t76 => ?_)
            refine r_callV hC (As := [.int x76_]) (rest := []) (ci := 10) (e_X10_wrong g (xL X) K len I71 J9 R hs71 a0 ka0 x76_ (by omega)) mT_5_236 mT_1_10 mT_5_233 mT_5_235 mP_55 okX10_wrong ⟨by decide, by decide⟩ rfl (by show kO (K a0) = _; rw [ka0]; rfl) rfl rfl (Nat.le_of_ble_eq_true rfl) ⟨by decide, by decide⟩ dX10_readKnower_86 (aV1 (F := fun st M => P g X 3 89 [(1, .int x73_), (0, .ref a0)] st _ _ M) (M := (K, len, I71, J9, R)) fun I77 h77 => ?_)
            obtain ⟨hs77, hf77, k77_0, k77_1, k77_2⟩ := h77
            show P g X 3 89 [(1, .int x73_), (0, .ref a0)] [] _ _ (K, len, I77, J9, R)
            have hF77 : Fr K [(10, 9), (10, 10), (11, 8), (11, 9), (11, 10), (11, 11), (11, 12), (11, 13), (80, 999), (81, 999), (83, 999), (84, 999)] I I77 := hF71.trans hf77 rfl rfl
            have om77 := om71.mv hf77 rfl
            refine r_aload_n hC dX10_readKnower_89 1 rfl ?_
            refine r_callV hC (As := []) (rest := []) (ci := 10) (e_X10_goesOn g (xL X) K len I77 J9 R hs77 a0 ka0 (by omega)) mT_5_199 mT_1_10 mT_5_196 mT_5_198 mP_49 okX10_goesOn ⟨by decide, by decide⟩ rfl (by show kO (K a0) = _; rw [ka0]; rfl) rfl rfl (Nat.le_of_ble_eq_true rfl) ⟨by decide, by decide⟩ dX10_readKnower_90 (aV2 (F := fun st M => P g X 3 93 [(1, .int x73_), (0, .ref a0)] st _ _ M) (M := (K, len, I77, J9, R)) fun I78 J78 h78 => ?_)
            obtain ⟨hs78, hf78, hfj78, k78_0, k78_1, k78_2⟩ := h78
            show P g X 3 93 [(1, .int x73_), (0, .ref a0)] [] _ _ (K, len, I78, J78, R)
            have hF78 : Fr K [(10, 9), (10, 10), (11, 8), (11, 9), (11, 10), (11, 11), (11, 12), (11, 13), (80, 999), (81, 999), (83, 999), (84, 999)] I I78 := hF77.trans hf78 rfl rfl
            have hFJ78 : Fr K [(11, 14), (82, 999)] J J78 := hFJ9.trans hfj78 rfl rfl
            have om78 := om77.mv hf78 rfl
            refine r_aload_n hC dX10_readKnower_93 1 rfl ?_
            refine r_ldcwS hC (i := 59) (by decide) rfl rfl dX10_readKnower_94 ?_
            refine r_iconst hC (v := (0)) dX10_readKnower_97 (by decide) (by decide) (fun x79_ e79 t79 => ?_)
            refine r_sipush hC (v := (999)) dX10_readKnower_98 (by decide) (by decide) (fun x80_ e80 t80 => ?_)
            refine r_callV hC (As := [.ref (g.2.2.1 59), .int x79_, .int x80_]) (rest := []) (ci := 10) (e_X10_readPart g (xL X) K len I78 J78 R hs78 a0 ka0 59 (by decide) x79_ x80_ (by omega)) mT_6_1 mT_1_10 mT_5_238 mT_6_0 mP_56 okX10_readPart ⟨by decide, by decide⟩ rfl (by show kO (K a0) = _; rw [ka0]; rfl) rfl rfl (Nat.le_of_ble_eq_true rfl) ⟨by decide, by decide⟩ dX10_readKnower_101 (aI2 (F := fun st M => P g X 3 104 [(1, .int x73_), (0, .ref a0)] st _ _ M) (M := (K, len, I78, J78, R)) fun x81_ I81 J81 h81 => ?_)
            obtain ⟨hs81, hf81, hfj81, k81_0, k81_1, k81_2⟩ := h81
            show P g X 3 104 [(1, .int x73_), (0, .ref a0)] [.int x81_] _ _ (K, len, I81, J81, R)
            have hF81 : Fr K [(10, 9), (10, 10), (11, 8), (11, 9), (11, 10), (11, 11), (11, 12), (11, 13), (80, 999), (81, 999), (83, 999), (84, 999)] I I81 := hF78.trans hf81 rfl rfl
            have hFJ81 : Fr K [(11, 14), (82, 999)] J J81 := hFJ78.trans hfj81 rfl rfl
            have om81 := om78.mv hf81 rfl
            refine r_istore_n hC (lv' := [(2, .int x81_), (1, .int x73_), (0, .ref a0)]) dX10_readKnower_104 (by decide) rfl ?_
            refine r_aload_n hC dX10_readKnower_105 2 rfl ?_
            refine r_geti hC 9 (ci := 10) rfl u10_in (by decide) mT_5_4 dX10_readKnower_106 ka0 rfl rfl (fun x82_ e82 => ?_)
            have f82 : x82_.toInt = (I81 a0 9).toInt := by rw [e82]
            refine r_iconst hC (v := (5)) dX10_readKnower_109 (by decide) (by decide) (fun x83_ e83 t83 => ?_)
            refine r_icmp_ne hC (tgt := 114) dX10_readKnower_110 (by decide) (fun c84 => ?_) (fun c84 => ?_)
            · exfalso; omega
            have hG0 : I81 rm 0 = G0 := (Eq.trans (hf81.get krm rfl) (Eq.trans (hf78.get krm rfl) (Eq.trans (hf77.get krm rfl) (Eq.trans (hf71.get krm rfl) (Eq.trans (hf9.get krm rfl) (Eq.trans (hf6.get krm rfl) (Eq.trans (hf3.get krm rfl) eG0.symm)))))))
            have hG0t : (I81 rm 0).toInt = G0.toInt := congrArg Int32.toInt hG0
            have hG1 : I81 rm 1 = G1 := (Eq.trans (hf81.get krm rfl) (Eq.trans (hf78.get krm rfl) (Eq.trans (hf77.get krm rfl) (Eq.trans (hf71.get krm rfl) (Eq.trans (hf9.get krm rfl) (Eq.trans (hf6.get krm rfl) (Eq.trans (hf3.get krm rfl) eG1.symm)))))))
            have hG1t : (I81 rm 1).toInt = G1.toInt := congrArg Int32.toInt hG1
            have hG2 : I81 rm 2 = G2 := (Eq.trans (hf81.get krm rfl) (Eq.trans (hf78.get krm rfl) (Eq.trans (hf77.get krm rfl) (Eq.trans (hf71.get krm rfl) (Eq.trans (hf9.get krm rfl) (Eq.trans (hf6.get krm rfl) (Eq.trans (hf3.get krm rfl) eG2.symm)))))))
            have hG2t : (I81 rm 2).toInt = G2.toInt := congrArg Int32.toInt hG2
            have hG3 : I81 rm 3 = G3 := (Eq.trans (hf81.get krm rfl) (Eq.trans (hf78.get krm rfl) (Eq.trans (hf77.get krm rfl) (Eq.trans (hf71.get krm rfl) (Eq.trans (hf9.get krm rfl) (Eq.trans (hf6.get krm rfl) (Eq.trans (hf3.get krm rfl) eG3.symm)))))))
            have hG3t : (I81 rm 3).toInt = G3.toInt := congrArg Int32.toInt hG3
            have hG4 : I81 rm 4 = G4 := (Eq.trans (hf81.get krm rfl) (Eq.trans (hf78.get krm rfl) (Eq.trans (hf77.get krm rfl) (Eq.trans (hf71.get krm rfl) (Eq.trans (hf9.get krm rfl) (Eq.trans (hf6.get krm rfl) (Eq.trans (hf3.get krm rfl) eG4.symm)))))))
            have hG4t : (I81 rm 4).toInt = G4.toInt := congrArg Int32.toInt hG4
            have hG5 : I81 rm 5 = G5 := (Eq.trans (hf81.get krm rfl) (Eq.trans (hf78.get krm rfl) (Eq.trans (hf77.get krm rfl) (Eq.trans (hf71.get krm rfl) (Eq.trans (hf9.get krm rfl) (Eq.trans (hf6.get krm rfl) (Eq.trans (hf3.get krm rfl) eG5.symm)))))))
            have hG5t : (I81 rm 5).toInt = G5.toInt := congrArg Int32.toInt hG5
            have hG6 : I81 rm 6 = G6 := (Eq.trans (hf81.get krm rfl) (Eq.trans (hf78.get krm rfl) (Eq.trans (hf77.get krm rfl) (Eq.trans (hf71.get krm rfl) (Eq.trans (hf9.get krm rfl) (Eq.trans (hf6.get krm rfl) (Eq.trans (hf3.get krm rfl) eG6.symm)))))))
            have hG6t : (I81 rm 6).toInt = G6.toInt := congrArg Int32.toInt hG6
            have hG7 : I81 rm 7 = G7 := (Eq.trans (hf81.get krm rfl) (Eq.trans (hf78.get krm rfl) (Eq.trans (hf77.get krm rfl) (Eq.trans (hf71.get krm rfl) (Eq.trans (hf9.get krm rfl) (Eq.trans (hf6.get krm rfl) (Eq.trans (hf3.get krm rfl) eG7.symm)))))))
            have hG7t : (I81 rm 7).toInt = G7.toInt := congrArg Int32.toInt hG7
            have hG8 : I81 rm 8 = G8 := (Eq.trans (hf81.get krm rfl) (Eq.trans (hf78.get krm rfl) (Eq.trans (hf77.get krm rfl) (Eq.trans (hf71.get krm rfl) (Eq.trans (hf9.get krm rfl) (Eq.trans (hf6.get krm rfl) (Eq.trans (hf3.get krm rfl) eG8.symm)))))))
            have hG8t : (I81 rm 8).toInt = G8.toInt := congrArg Int32.toInt hG8
            have hG9 : I81 rm 9 = x5_ := (Eq.trans (hf81.get krm rfl) (Eq.trans (hf78.get krm rfl) (Eq.trans (hf77.get krm rfl) (Eq.trans (hf71.get krm rfl) (Eq.trans (hf9.get krm rfl) (Eq.trans (hf6.get krm rfl) e5.symm))))))
            have hG9t : (I81 rm 9).toInt = x5_.toInt := congrArg Int32.toInt hG9
            have hG10 : I81 rm 10 = N1 := (Eq.trans (hf81.get krm rfl) (Eq.trans (hf78.get krm rfl) (Eq.trans (hf77.get krm rfl) (Eq.trans (hf71.get krm rfl) (Eq.trans (hf9.get krm rfl) eN1.symm)))))
            have hG10t : (I81 rm 10).toInt = N1.toInt := congrArg Int32.toInt hG10
            exact r_vret hC hQ hlk hr (by decide) (by decide) dX10_readKnower_113 ⟨_, _, rfl, rfl, ⟨hs81, hF81, hFJ81, (by first | exact Or.inl ⟨(upD (adN D (vl B n (nx B n p))) 0 9 ((adN D (vl B n (nx B n p))) 0 9 + 1)), _, by unfold sKnower; rw [pif_f (show ¬ 4 ≤ D 0 9 by omega), hsp6, bnd_ok, pif_t (show isW B n (nx B n (nx B n p)) 27 from hw7), pif_f hw10], (nx_le (nx_le (nx_le hp).2).2).2, k9_0, ⟨by unfold SM; simp [upD, adN]; omega, nm9.cg (by simp [upD]) (by intro j; simp [upD]), pg71.cg (by simp [upD]) (by intro j; simp [upD]) (by simp [upD]) (by intro j; simp [upD])⟩, fp9⟩ | exact Or.inr ⟨1, (pl B n (nx B n (nx B n (nx B n p)))), by unfold sKnower; rw [pif_f (show ¬ 4 ≤ D 0 9 by omega), hsp6, bnd_ok, pif_t (show isW B n (nx B n (nx B n p)) 27 from hw7), pif_f hw10], by omega, by omega, by omega⟩), (by exact om81)⟩⟩
          · refine r_aload_n hC dX10_readKnower_72 1 rfl ?_
            refine r_getr hC 4 (ci := 10) rfl u10_in (by decide) mT_4_239 dX10_readKnower_73 ka0 rfl rfl hbr ?_
            refine r_getrN hC 26 (ci := 9) rfl u9_in (by decide) nF_26 dX10_readKnower_76 krm rfl rfl hns ?_
            refine r_iload_n hC dX10_readKnower_79 0 rfl ?_
            refine x_iaload hC kns lns (by decide) rfl rfl dX10_readKnower_80 (by omega) (by omega) (fun x85_ e85 => ?_)
            refine r_if_eq hC (tgt := 89) dX10_readKnower_81 (by decide) (fun c86 => ?_) (fun c86 => ?_)
            · refine r_aload_n hC dX10_readKnower_89 1 rfl ?_
              refine r_callV hC (As := []) (rest := []) (ci := 10) (e_X10_goesOn g (xL X) K len I71 J9 R hs71 a0 ka0 (by omega)) mT_5_199 mT_1_10 mT_5_196 mT_5_198 mP_49 okX10_goesOn ⟨by decide, by decide⟩ rfl (by show kO (K a0) = _; rw [ka0]; rfl) rfl rfl (Nat.le_of_ble_eq_true rfl) ⟨by decide, by decide⟩ dX10_readKnower_90 (aV2 (F := fun st M => P g X 3 93 [(1, .int x73_), (0, .ref a0)] st _ _ M) (M := (K, len, I71, J9, R)) fun I87 J87 h87 => ?_)
              obtain ⟨hs87, hf87, hfj87, k87_0, k87_1, k87_2⟩ := h87
              show P g X 3 93 [(1, .int x73_), (0, .ref a0)] [] _ _ (K, len, I87, J87, R)
              have hF87 : Fr K [(10, 9), (10, 10), (11, 8), (11, 9), (11, 10), (11, 11), (11, 12), (11, 13), (80, 999), (81, 999), (83, 999), (84, 999)] I I87 := hF71.trans hf87 rfl rfl
              have hFJ87 : Fr K [(11, 14), (82, 999)] J J87 := hFJ9.trans hfj87 rfl rfl
              have om87 := om71.mv hf87 rfl
              refine r_aload_n hC dX10_readKnower_93 1 rfl ?_
              refine r_ldcwS hC (i := 59) (by decide) rfl rfl dX10_readKnower_94 ?_
              refine r_iconst hC (v := (0)) dX10_readKnower_97 (by decide) (by decide) (fun x88_ e88 t88 => ?_)
              refine r_sipush hC (v := (999)) dX10_readKnower_98 (by decide) (by decide) (fun x89_ e89 t89 => ?_)
              refine r_callV hC (As := [.ref (g.2.2.1 59), .int x88_, .int x89_]) (rest := []) (ci := 10) (e_X10_readPart g (xL X) K len I87 J87 R hs87 a0 ka0 59 (by decide) x88_ x89_ (by omega)) mT_6_1 mT_1_10 mT_5_238 mT_6_0 mP_56 okX10_readPart ⟨by decide, by decide⟩ rfl (by show kO (K a0) = _; rw [ka0]; rfl) rfl rfl (Nat.le_of_ble_eq_true rfl) ⟨by decide, by decide⟩ dX10_readKnower_101 (aI2 (F := fun st M => P g X 3 104 [(1, .int x73_), (0, .ref a0)] st _ _ M) (M := (K, len, I87, J87, R)) fun x90_ I90 J90 h90 => ?_)
              obtain ⟨hs90, hf90, hfj90, k90_0, k90_1, k90_2⟩ := h90
              show P g X 3 104 [(1, .int x73_), (0, .ref a0)] [.int x90_] _ _ (K, len, I90, J90, R)
              have hF90 : Fr K [(10, 9), (10, 10), (11, 8), (11, 9), (11, 10), (11, 11), (11, 12), (11, 13), (80, 999), (81, 999), (83, 999), (84, 999)] I I90 := hF87.trans hf90 rfl rfl
              have hFJ90 : Fr K [(11, 14), (82, 999)] J J90 := hFJ87.trans hfj90 rfl rfl
              have om90 := om87.mv hf90 rfl
              refine r_istore_n hC (lv' := [(2, .int x90_), (1, .int x73_), (0, .ref a0)]) dX10_readKnower_104 (by decide) rfl ?_
              refine r_aload_n hC dX10_readKnower_105 2 rfl ?_
              refine r_geti hC 9 (ci := 10) rfl u10_in (by decide) mT_5_4 dX10_readKnower_106 ka0 rfl rfl (fun x91_ e91 => ?_)
              have f91 : x91_.toInt = (I90 a0 9).toInt := by rw [e91]
              refine r_iconst hC (v := (5)) dX10_readKnower_109 (by decide) (by decide) (fun x92_ e92 t92 => ?_)
              refine r_icmp_ne hC (tgt := 114) dX10_readKnower_110 (by decide) (fun c93 => ?_) (fun c93 => ?_)
              · exfalso; omega
              have hG0 : I90 rm 0 = G0 := (Eq.trans (hf90.get krm rfl) (Eq.trans (hf87.get krm rfl) (Eq.trans (hf71.get krm rfl) (Eq.trans (hf9.get krm rfl) (Eq.trans (hf6.get krm rfl) (Eq.trans (hf3.get krm rfl) eG0.symm))))))
              have hG0t : (I90 rm 0).toInt = G0.toInt := congrArg Int32.toInt hG0
              have hG1 : I90 rm 1 = G1 := (Eq.trans (hf90.get krm rfl) (Eq.trans (hf87.get krm rfl) (Eq.trans (hf71.get krm rfl) (Eq.trans (hf9.get krm rfl) (Eq.trans (hf6.get krm rfl) (Eq.trans (hf3.get krm rfl) eG1.symm))))))
              have hG1t : (I90 rm 1).toInt = G1.toInt := congrArg Int32.toInt hG1
              have hG2 : I90 rm 2 = G2 := (Eq.trans (hf90.get krm rfl) (Eq.trans (hf87.get krm rfl) (Eq.trans (hf71.get krm rfl) (Eq.trans (hf9.get krm rfl) (Eq.trans (hf6.get krm rfl) (Eq.trans (hf3.get krm rfl) eG2.symm))))))
              have hG2t : (I90 rm 2).toInt = G2.toInt := congrArg Int32.toInt hG2
              have hG3 : I90 rm 3 = G3 := (Eq.trans (hf90.get krm rfl) (Eq.trans (hf87.get krm rfl) (Eq.trans (hf71.get krm rfl) (Eq.trans (hf9.get krm rfl) (Eq.trans (hf6.get krm rfl) (Eq.trans (hf3.get krm rfl) eG3.symm))))))
              have hG3t : (I90 rm 3).toInt = G3.toInt := congrArg Int32.toInt hG3
              have hG4 : I90 rm 4 = G4 := (Eq.trans (hf90.get krm rfl) (Eq.trans (hf87.get krm rfl) (Eq.trans (hf71.get krm rfl) (Eq.trans (hf9.get krm rfl) (Eq.trans (hf6.get krm rfl) (Eq.trans (hf3.get krm rfl) eG4.symm))))))
              have hG4t : (I90 rm 4).toInt = G4.toInt := congrArg Int32.toInt hG4
              have hG5 : I90 rm 5 = G5 := (Eq.trans (hf90.get krm rfl) (Eq.trans (hf87.get krm rfl) (Eq.trans (hf71.get krm rfl) (Eq.trans (hf9.get krm rfl) (Eq.trans (hf6.get krm rfl) (Eq.trans (hf3.get krm rfl) eG5.symm))))))
              have hG5t : (I90 rm 5).toInt = G5.toInt := congrArg Int32.toInt hG5
              have hG6 : I90 rm 6 = G6 := (Eq.trans (hf90.get krm rfl) (Eq.trans (hf87.get krm rfl) (Eq.trans (hf71.get krm rfl) (Eq.trans (hf9.get krm rfl) (Eq.trans (hf6.get krm rfl) (Eq.trans (hf3.get krm rfl) eG6.symm))))))
              have hG6t : (I90 rm 6).toInt = G6.toInt := congrArg Int32.toInt hG6
              have hG7 : I90 rm 7 = G7 := (Eq.trans (hf90.get krm rfl) (Eq.trans (hf87.get krm rfl) (Eq.trans (hf71.get krm rfl) (Eq.trans (hf9.get krm rfl) (Eq.trans (hf6.get krm rfl) (Eq.trans (hf3.get krm rfl) eG7.symm))))))
              have hG7t : (I90 rm 7).toInt = G7.toInt := congrArg Int32.toInt hG7
              have hG8 : I90 rm 8 = G8 := (Eq.trans (hf90.get krm rfl) (Eq.trans (hf87.get krm rfl) (Eq.trans (hf71.get krm rfl) (Eq.trans (hf9.get krm rfl) (Eq.trans (hf6.get krm rfl) (Eq.trans (hf3.get krm rfl) eG8.symm))))))
              have hG8t : (I90 rm 8).toInt = G8.toInt := congrArg Int32.toInt hG8
              have hG9 : I90 rm 9 = x5_ := (Eq.trans (hf90.get krm rfl) (Eq.trans (hf87.get krm rfl) (Eq.trans (hf71.get krm rfl) (Eq.trans (hf9.get krm rfl) (Eq.trans (hf6.get krm rfl) e5.symm)))))
              have hG9t : (I90 rm 9).toInt = x5_.toInt := congrArg Int32.toInt hG9
              have hG10 : I90 rm 10 = N1 := (Eq.trans (hf90.get krm rfl) (Eq.trans (hf87.get krm rfl) (Eq.trans (hf71.get krm rfl) (Eq.trans (hf9.get krm rfl) eN1.symm))))
              have hG10t : (I90 rm 10).toInt = N1.toInt := congrArg Int32.toInt hG10
              exact r_vret hC hQ hlk hr (by decide) (by decide) dX10_readKnower_113 ⟨_, _, rfl, rfl, ⟨hs90, hF90, hFJ90, (by first | exact Or.inl ⟨(upD (adN D (vl B n (nx B n p))) 0 9 ((adN D (vl B n (nx B n p))) 0 9 + 1)), _, by unfold sKnower; rw [pif_f (show ¬ 4 ≤ D 0 9 by omega), hsp6, bnd_ok, pif_t (show isW B n (nx B n (nx B n p)) 27 from hw7), pif_f hw10], (nx_le (nx_le (nx_le hp).2).2).2, k9_0, ⟨by unfold SM; simp [upD, adN]; omega, nm9.cg (by simp [upD]) (by intro j; simp [upD]), pg71.cg (by simp [upD]) (by intro j; simp [upD]) (by simp [upD]) (by intro j; simp [upD])⟩, fp9⟩ | exact Or.inr ⟨1, (pl B n (nx B n (nx B n (nx B n p)))), by unfold sKnower; rw [pif_f (show ¬ 4 ≤ D 0 9 by omega), hsp6, bnd_ok, pif_t (show isW B n (nx B n (nx B n p)) 27 from hw7), pif_f hw10], by omega, by omega, by omega⟩), (by exact om90)⟩⟩
            · refine r_aload_n hC dX10_readKnower_84 1 rfl ?_
              refine r_iconst hC (v := (2)) dX10_readKnower_85 (by decide) (by decide) (fun x94_ e94 t94 => ?_)
              refine r_callV hC (As := [.int x94_]) (rest := []) (ci := 10) (e_X10_wrong g (xL X) K len I71 J9 R hs71 a0 ka0 x94_ (by omega)) mT_5_236 mT_1_10 mT_5_233 mT_5_235 mP_55 okX10_wrong ⟨by decide, by decide⟩ rfl (by show kO (K a0) = _; rw [ka0]; rfl) rfl rfl (Nat.le_of_ble_eq_true rfl) ⟨by decide, by decide⟩ dX10_readKnower_86 (aV1 (F := fun st M => P g X 3 89 [(1, .int x73_), (0, .ref a0)] st _ _ M) (M := (K, len, I71, J9, R)) fun I95 h95 => ?_)
              obtain ⟨hs95, hf95, k95_0, k95_1, k95_2⟩ := h95
              show P g X 3 89 [(1, .int x73_), (0, .ref a0)] [] _ _ (K, len, I95, J9, R)
              have hF95 : Fr K [(10, 9), (10, 10), (11, 8), (11, 9), (11, 10), (11, 11), (11, 12), (11, 13), (80, 999), (81, 999), (83, 999), (84, 999)] I I95 := hF71.trans hf95 rfl rfl
              have om95 := om71.mv hf95 rfl
              refine r_aload_n hC dX10_readKnower_89 1 rfl ?_
              refine r_callV hC (As := []) (rest := []) (ci := 10) (e_X10_goesOn g (xL X) K len I95 J9 R hs95 a0 ka0 (by omega)) mT_5_199 mT_1_10 mT_5_196 mT_5_198 mP_49 okX10_goesOn ⟨by decide, by decide⟩ rfl (by show kO (K a0) = _; rw [ka0]; rfl) rfl rfl (Nat.le_of_ble_eq_true rfl) ⟨by decide, by decide⟩ dX10_readKnower_90 (aV2 (F := fun st M => P g X 3 93 [(1, .int x73_), (0, .ref a0)] st _ _ M) (M := (K, len, I95, J9, R)) fun I96 J96 h96 => ?_)
              obtain ⟨hs96, hf96, hfj96, k96_0, k96_1, k96_2⟩ := h96
              show P g X 3 93 [(1, .int x73_), (0, .ref a0)] [] _ _ (K, len, I96, J96, R)
              have hF96 : Fr K [(10, 9), (10, 10), (11, 8), (11, 9), (11, 10), (11, 11), (11, 12), (11, 13), (80, 999), (81, 999), (83, 999), (84, 999)] I I96 := hF95.trans hf96 rfl rfl
              have hFJ96 : Fr K [(11, 14), (82, 999)] J J96 := hFJ9.trans hfj96 rfl rfl
              have om96 := om95.mv hf96 rfl
              refine r_aload_n hC dX10_readKnower_93 1 rfl ?_
              refine r_ldcwS hC (i := 59) (by decide) rfl rfl dX10_readKnower_94 ?_
              refine r_iconst hC (v := (0)) dX10_readKnower_97 (by decide) (by decide) (fun x97_ e97 t97 => ?_)
              refine r_sipush hC (v := (999)) dX10_readKnower_98 (by decide) (by decide) (fun x98_ e98 t98 => ?_)
              refine r_callV hC (As := [.ref (g.2.2.1 59), .int x97_, .int x98_]) (rest := []) (ci := 10) (e_X10_readPart g (xL X) K len I96 J96 R hs96 a0 ka0 59 (by decide) x97_ x98_ (by omega)) mT_6_1 mT_1_10 mT_5_238 mT_6_0 mP_56 okX10_readPart ⟨by decide, by decide⟩ rfl (by show kO (K a0) = _; rw [ka0]; rfl) rfl rfl (Nat.le_of_ble_eq_true rfl) ⟨by decide, by decide⟩ dX10_readKnower_101 (aI2 (F := fun st M => P g X 3 104 [(1, .int x73_), (0, .ref a0)] st _ _ M) (M := (K, len, I96, J96, R)) fun x99_ I99 J99 h99 => ?_)
              obtain ⟨hs99, hf99, hfj99, k99_0, k99_1, k99_2⟩ := h99
              show P g X 3 104 [(1, .int x73_), (0, .ref a0)] [.int x99_] _ _ (K, len, I99, J99, R)
              have hF99 : Fr K [(10, 9), (10, 10), (11, 8), (11, 9), (11, 10), (11, 11), (11, 12), (11, 13), (80, 999), (81, 999), (83, 999), (84, 999)] I I99 := hF96.trans hf99 rfl rfl
              have hFJ99 : Fr K [(11, 14), (82, 999)] J J99 := hFJ96.trans hfj99 rfl rfl
              have om99 := om96.mv hf99 rfl
              refine r_istore_n hC (lv' := [(2, .int x99_), (1, .int x73_), (0, .ref a0)]) dX10_readKnower_104 (by decide) rfl ?_
              refine r_aload_n hC dX10_readKnower_105 2 rfl ?_
              refine r_geti hC 9 (ci := 10) rfl u10_in (by decide) mT_5_4 dX10_readKnower_106 ka0 rfl rfl (fun x100_ e100 => ?_)
              have f100 : x100_.toInt = (I99 a0 9).toInt := by rw [e100]
              refine r_iconst hC (v := (5)) dX10_readKnower_109 (by decide) (by decide) (fun x101_ e101 t101 => ?_)
              refine r_icmp_ne hC (tgt := 114) dX10_readKnower_110 (by decide) (fun c102 => ?_) (fun c102 => ?_)
              · exfalso; omega
              have hG0 : I99 rm 0 = G0 := (Eq.trans (hf99.get krm rfl) (Eq.trans (hf96.get krm rfl) (Eq.trans (hf95.get krm rfl) (Eq.trans (hf71.get krm rfl) (Eq.trans (hf9.get krm rfl) (Eq.trans (hf6.get krm rfl) (Eq.trans (hf3.get krm rfl) eG0.symm)))))))
              have hG0t : (I99 rm 0).toInt = G0.toInt := congrArg Int32.toInt hG0
              have hG1 : I99 rm 1 = G1 := (Eq.trans (hf99.get krm rfl) (Eq.trans (hf96.get krm rfl) (Eq.trans (hf95.get krm rfl) (Eq.trans (hf71.get krm rfl) (Eq.trans (hf9.get krm rfl) (Eq.trans (hf6.get krm rfl) (Eq.trans (hf3.get krm rfl) eG1.symm)))))))
              have hG1t : (I99 rm 1).toInt = G1.toInt := congrArg Int32.toInt hG1
              have hG2 : I99 rm 2 = G2 := (Eq.trans (hf99.get krm rfl) (Eq.trans (hf96.get krm rfl) (Eq.trans (hf95.get krm rfl) (Eq.trans (hf71.get krm rfl) (Eq.trans (hf9.get krm rfl) (Eq.trans (hf6.get krm rfl) (Eq.trans (hf3.get krm rfl) eG2.symm)))))))
              have hG2t : (I99 rm 2).toInt = G2.toInt := congrArg Int32.toInt hG2
              have hG3 : I99 rm 3 = G3 := (Eq.trans (hf99.get krm rfl) (Eq.trans (hf96.get krm rfl) (Eq.trans (hf95.get krm rfl) (Eq.trans (hf71.get krm rfl) (Eq.trans (hf9.get krm rfl) (Eq.trans (hf6.get krm rfl) (Eq.trans (hf3.get krm rfl) eG3.symm)))))))
              have hG3t : (I99 rm 3).toInt = G3.toInt := congrArg Int32.toInt hG3
              have hG4 : I99 rm 4 = G4 := (Eq.trans (hf99.get krm rfl) (Eq.trans (hf96.get krm rfl) (Eq.trans (hf95.get krm rfl) (Eq.trans (hf71.get krm rfl) (Eq.trans (hf9.get krm rfl) (Eq.trans (hf6.get krm rfl) (Eq.trans (hf3.get krm rfl) eG4.symm)))))))
              have hG4t : (I99 rm 4).toInt = G4.toInt := congrArg Int32.toInt hG4
              have hG5 : I99 rm 5 = G5 := (Eq.trans (hf99.get krm rfl) (Eq.trans (hf96.get krm rfl) (Eq.trans (hf95.get krm rfl) (Eq.trans (hf71.get krm rfl) (Eq.trans (hf9.get krm rfl) (Eq.trans (hf6.get krm rfl) (Eq.trans (hf3.get krm rfl) eG5.symm)))))))
              have hG5t : (I99 rm 5).toInt = G5.toInt := congrArg Int32.toInt hG5
              have hG6 : I99 rm 6 = G6 := (Eq.trans (hf99.get krm rfl) (Eq.trans (hf96.get krm rfl) (Eq.trans (hf95.get krm rfl) (Eq.trans (hf71.get krm rfl) (Eq.trans (hf9.get krm rfl) (Eq.trans (hf6.get krm rfl) (Eq.trans (hf3.get krm rfl) eG6.symm)))))))
              have hG6t : (I99 rm 6).toInt = G6.toInt := congrArg Int32.toInt hG6
              have hG7 : I99 rm 7 = G7 := (Eq.trans (hf99.get krm rfl) (Eq.trans (hf96.get krm rfl) (Eq.trans (hf95.get krm rfl) (Eq.trans (hf71.get krm rfl) (Eq.trans (hf9.get krm rfl) (Eq.trans (hf6.get krm rfl) (Eq.trans (hf3.get krm rfl) eG7.symm)))))))
              have hG7t : (I99 rm 7).toInt = G7.toInt := congrArg Int32.toInt hG7
              have hG8 : I99 rm 8 = G8 := (Eq.trans (hf99.get krm rfl) (Eq.trans (hf96.get krm rfl) (Eq.trans (hf95.get krm rfl) (Eq.trans (hf71.get krm rfl) (Eq.trans (hf9.get krm rfl) (Eq.trans (hf6.get krm rfl) (Eq.trans (hf3.get krm rfl) eG8.symm)))))))
              have hG8t : (I99 rm 8).toInt = G8.toInt := congrArg Int32.toInt hG8
              have hG9 : I99 rm 9 = x5_ := (Eq.trans (hf99.get krm rfl) (Eq.trans (hf96.get krm rfl) (Eq.trans (hf95.get krm rfl) (Eq.trans (hf71.get krm rfl) (Eq.trans (hf9.get krm rfl) (Eq.trans (hf6.get krm rfl) e5.symm))))))
              have hG9t : (I99 rm 9).toInt = x5_.toInt := congrArg Int32.toInt hG9
              have hG10 : I99 rm 10 = N1 := (Eq.trans (hf99.get krm rfl) (Eq.trans (hf96.get krm rfl) (Eq.trans (hf95.get krm rfl) (Eq.trans (hf71.get krm rfl) (Eq.trans (hf9.get krm rfl) eN1.symm)))))
              have hG10t : (I99 rm 10).toInt = N1.toInt := congrArg Int32.toInt hG10
              exact r_vret hC hQ hlk hr (by decide) (by decide) dX10_readKnower_113 ⟨_, _, rfl, rfl, ⟨hs99, hF99, hFJ99, (by first | exact Or.inl ⟨(upD (adN D (vl B n (nx B n p))) 0 9 ((adN D (vl B n (nx B n p))) 0 9 + 1)), _, by unfold sKnower; rw [pif_f (show ¬ 4 ≤ D 0 9 by omega), hsp6, bnd_ok, pif_t (show isW B n (nx B n (nx B n p)) 27 from hw7), pif_f hw10], (nx_le (nx_le (nx_le hp).2).2).2, k9_0, ⟨by unfold SM; simp [upD, adN]; omega, nm9.cg (by simp [upD]) (by intro j; simp [upD]), pg71.cg (by simp [upD]) (by intro j; simp [upD]) (by simp [upD]) (by intro j; simp [upD])⟩, fp9⟩ | exact Or.inr ⟨1, (pl B n (nx B n (nx B n (nx B n p)))), by unfold sKnower; rw [pif_f (show ¬ 4 ≤ D 0 9 by omega), hsp6, bnd_ok, pif_t (show isW B n (nx B n (nx B n p)) 27 from hw7), pif_f hw10], by omega, by omega, by omega⟩), (by exact om99)⟩⟩
      · refine r_if_ne hC (tgt := 39) dX10_readKnower_31 (by decide) (fun c103 => ?_) (fun c103 => ?_)
        · exfalso; omega
        refine r_aload_n hC dX10_readKnower_34 0 rfl ?_
        refine r_iconst hC (v := (1)) dX10_readKnower_35 (by decide) (by decide) (fun x104_ e104 t104 => ?_)
        refine r_callV hC (As := [.int x104_]) (rest := []) (ci := 10) (f_X10_wrong g (xL X) K len I6 J6 R hs6 a0 ka0 x104_ (tk6.e5)) mT_5_236 mT_1_10 mT_5_233 mT_5_235 mP_55 okX10_wrong ⟨by decide, by decide⟩ rfl (by show kO (K a0) = _; rw [ka0]; rfl) rfl rfl (Nat.le_of_ble_eq_true rfl) ⟨by decide, by decide⟩ dX10_readKnower_36 (aV1 (F := fun st M => P g X 3 39 [(0, .ref a0)] st _ _ M) (M := (K, len, I6, J6, R)) fun I105 h105 => ?_)
        obtain ⟨hs105, hf105, k105_0, k105_1, k105_2⟩ := h105
        show P g X 3 39 [(0, .ref a0)] [] _ _ (K, len, I105, J6, R)
        have hF105 : Fr K [(10, 9), (10, 10), (11, 8), (11, 9), (11, 10), (11, 11), (11, 12), (11, 13), (80, 999), (81, 999), (83, 999), (84, 999)] I I105 := hF6.trans hf105 rfl rfl
        have pg105 := pgf6.mv hf105 kns (fun _ => rfl)
        have om105 := om6.mv hf105 rfl
        have hwp105 := tk6.2.1
        refine r_aload_n hC dX10_readKnower_39 0 rfl ?_
        refine r_callV hC (As := []) (rest := []) (ci := 10) (e_X10_goesOn g (xL X) K len I105 J6 R hs105 a0 ka0 (by omega)) mT_5_199 mT_1_10 mT_5_196 mT_5_198 mP_49 okX10_goesOn ⟨by decide, by decide⟩ rfl (by show kO (K a0) = _; rw [ka0]; rfl) rfl rfl (Nat.le_of_ble_eq_true rfl) ⟨by decide, by decide⟩ dX10_readKnower_40 (aV2 (F := fun st M => P g X 3 43 [(0, .ref a0)] st _ _ M) (M := (K, len, I105, J6, R)) fun I106 J106 h106 => ?_)
        obtain ⟨hs106, hf106, hfj106, k106_0, k106_1, k106_2⟩ := h106
        show P g X 3 43 [(0, .ref a0)] [] _ _ (K, len, I106, J106, R)
        have hF106 : Fr K [(10, 9), (10, 10), (11, 8), (11, 9), (11, 10), (11, 11), (11, 12), (11, 13), (80, 999), (81, 999), (83, 999), (84, 999)] I I106 := hF105.trans hf106 rfl rfl
        have hFJ106 : Fr K [(11, 14), (82, 999)] J J106 := hFJ6.trans hfj106 rfl rfl
        have om106 := om105.mv hf106 rfl
        refine r_aload_n hC dX10_readKnower_43 0 rfl ?_
        refine r_callV hC (As := []) (rest := []) (ci := 10) (e_X10_isName g (xL X) K len I106 J106 R hs106 a0 ka0 (by omega)) mT_6_27 mT_1_10 mT_6_24 mT_6_26 mP_61 okX10_isName ⟨by decide, by decide⟩ rfl (by show kO (K a0) = _; rw [ka0]; rfl) rfl rfl (Nat.le_of_ble_eq_true rfl) ⟨by decide, by decide⟩ dX10_readKnower_44 (aI0 (F := fun st M => P g X 3 47 [(0, .ref a0)] st _ _ M) (M := (K, len, I106, J106, R)) fun x107_ h107 => ?_)
        have k107_0 := h107
        show P g X 3 47 [(0, .ref a0)] [.int x107_] _ _ (K, len, I106, J106, R)
        refine r_if_ne hC (tgt := 55) dX10_readKnower_47 (by decide) (fun c108 => ?_) (fun c108 => ?_)
        · exfalso; omega
        refine r_aload_n hC dX10_readKnower_50 0 rfl ?_
        refine r_iconst hC (v := (1)) dX10_readKnower_51 (by decide) (by decide) (fun x109_ e109 t109 => ?_)
        refine r_callV hC (As := [.int x109_]) (rest := []) (ci := 10) (e_X10_wrong g (xL X) K len I106 J106 R hs106 a0 ka0 x109_ (by omega)) mT_5_236 mT_1_10 mT_5_233 mT_5_235 mP_55 okX10_wrong ⟨by decide, by decide⟩ rfl (by show kO (K a0) = _; rw [ka0]; rfl) rfl rfl (Nat.le_of_ble_eq_true rfl) ⟨by decide, by decide⟩ dX10_readKnower_52 (aV1 (F := fun st M => P g X 3 55 [(0, .ref a0)] st _ _ M) (M := (K, len, I106, J106, R)) fun I110 h110 => ?_)
        obtain ⟨hs110, hf110, k110_0, k110_1, k110_2⟩ := h110
        show P g X 3 55 [(0, .ref a0)] [] _ _ (K, len, I110, J106, R)
        have hF110 : Fr K [(10, 9), (10, 10), (11, 8), (11, 9), (11, 10), (11, 11), (11, 12), (11, 13), (80, 999), (81, 999), (83, 999), (84, 999)] I I110 := hF106.trans hf110 rfl rfl
        have om110 := om106.mv hf110 rfl
        refine r_aload_n hC dX10_readKnower_55 0 rfl ?_
        refine r_getr hC 4 (ci := 10) rfl u10_in (by decide) mT_4_239 dX10_readKnower_56 ka0 rfl rfl hbr ?_
        refine r_aload_n hC dX10_readKnower_59 0 rfl ?_
        refine r_getj hC 14 (ci := 10) rfl u10_in (by decide) mT_5_9 dX10_readKnower_60 ka0 rfl rfl (fun y111_ e111 => ?_)
        have fj111 : y111_.toInt = (J106 a0 14).toInt := by rw [e111]
        refine r_callV hC (As := [.long y111_]) (rest := []) (ci := 9) (c_X9_find g (xL X) K len I110 J106 R hs110 rm krm y111_) mT_6_36 mT_1_17 mT_6_33 mT_6_34 mT_6_35 okX9_find ⟨by decide, by decide⟩ rfl (by show kO (K rm) = _; rw [krm]; rfl) rfl rfl (Nat.le_of_ble_eq_true rfl) ⟨by decide, by decide⟩ dX10_readKnower_63 (aI0 (F := fun st M => P g X 3 66 [(0, .ref a0)] st _ _ M) (M := (K, len, I110, J106, R)) fun x112_ h112 => ?_)
        obtain ⟨k112_0, k112_1⟩ := h112
        show P g X 3 66 [(0, .ref a0)] [.int x112_] _ _ (K, len, I110, J106, R)
        refine r_istore_n hC (lv' := [(1, .int x112_), (0, .ref a0)]) dX10_readKnower_66 (by decide) rfl ?_
        refine r_iload_n hC dX10_readKnower_67 0 rfl ?_
        refine r_iconst hC (v := (-1)) dX10_readKnower_68 (by decide) (by decide) (fun x113_ e113 t113 => ?_)
        refine r_icmp_eq hC (tgt := 84) dX10_readKnower_69 (by decide) (fun c114 => ?_) (fun c114 => ?_)
        · refine r_aload_n hC dX10_readKnower_84 1 rfl ?_
          refine r_iconst hC (v := (2)) dX10_readKnower_85 (by decide) (by decide) (fun x115_ e115 t115 => ?_)
          refine r_callV hC (As := [.int x115_]) (rest := []) (ci := 10) (e_X10_wrong g (xL X) K len I110 J106 R hs110 a0 ka0 x115_ (by omega)) mT_5_236 mT_1_10 mT_5_233 mT_5_235 mP_55 okX10_wrong ⟨by decide, by decide⟩ rfl (by show kO (K a0) = _; rw [ka0]; rfl) rfl rfl (Nat.le_of_ble_eq_true rfl) ⟨by decide, by decide⟩ dX10_readKnower_86 (aV1 (F := fun st M => P g X 3 89 [(1, .int x112_), (0, .ref a0)] st _ _ M) (M := (K, len, I110, J106, R)) fun I116 h116 => ?_)
          obtain ⟨hs116, hf116, k116_0, k116_1, k116_2⟩ := h116
          show P g X 3 89 [(1, .int x112_), (0, .ref a0)] [] _ _ (K, len, I116, J106, R)
          have hF116 : Fr K [(10, 9), (10, 10), (11, 8), (11, 9), (11, 10), (11, 11), (11, 12), (11, 13), (80, 999), (81, 999), (83, 999), (84, 999)] I I116 := hF110.trans hf116 rfl rfl
          have om116 := om110.mv hf116 rfl
          refine r_aload_n hC dX10_readKnower_89 1 rfl ?_
          refine r_callV hC (As := []) (rest := []) (ci := 10) (e_X10_goesOn g (xL X) K len I116 J106 R hs116 a0 ka0 (by omega)) mT_5_199 mT_1_10 mT_5_196 mT_5_198 mP_49 okX10_goesOn ⟨by decide, by decide⟩ rfl (by show kO (K a0) = _; rw [ka0]; rfl) rfl rfl (Nat.le_of_ble_eq_true rfl) ⟨by decide, by decide⟩ dX10_readKnower_90 (aV2 (F := fun st M => P g X 3 93 [(1, .int x112_), (0, .ref a0)] st _ _ M) (M := (K, len, I116, J106, R)) fun I117 J117 h117 => ?_)
          obtain ⟨hs117, hf117, hfj117, k117_0, k117_1, k117_2⟩ := h117
          show P g X 3 93 [(1, .int x112_), (0, .ref a0)] [] _ _ (K, len, I117, J117, R)
          have hF117 : Fr K [(10, 9), (10, 10), (11, 8), (11, 9), (11, 10), (11, 11), (11, 12), (11, 13), (80, 999), (81, 999), (83, 999), (84, 999)] I I117 := hF116.trans hf117 rfl rfl
          have hFJ117 : Fr K [(11, 14), (82, 999)] J J117 := hFJ106.trans hfj117 rfl rfl
          have om117 := om116.mv hf117 rfl
          refine r_aload_n hC dX10_readKnower_93 1 rfl ?_
          refine r_ldcwS hC (i := 59) (by decide) rfl rfl dX10_readKnower_94 ?_
          refine r_iconst hC (v := (0)) dX10_readKnower_97 (by decide) (by decide) (fun x118_ e118 t118 => ?_)
          refine r_sipush hC (v := (999)) dX10_readKnower_98 (by decide) (by decide) (fun x119_ e119 t119 => ?_)
          refine r_callV hC (As := [.ref (g.2.2.1 59), .int x118_, .int x119_]) (rest := []) (ci := 10) (e_X10_readPart g (xL X) K len I117 J117 R hs117 a0 ka0 59 (by decide) x118_ x119_ (by omega)) mT_6_1 mT_1_10 mT_5_238 mT_6_0 mP_56 okX10_readPart ⟨by decide, by decide⟩ rfl (by show kO (K a0) = _; rw [ka0]; rfl) rfl rfl (Nat.le_of_ble_eq_true rfl) ⟨by decide, by decide⟩ dX10_readKnower_101 (aI2 (F := fun st M => P g X 3 104 [(1, .int x112_), (0, .ref a0)] st _ _ M) (M := (K, len, I117, J117, R)) fun x120_ I120 J120 h120 => ?_)
          obtain ⟨hs120, hf120, hfj120, k120_0, k120_1, k120_2⟩ := h120
          show P g X 3 104 [(1, .int x112_), (0, .ref a0)] [.int x120_] _ _ (K, len, I120, J120, R)
          have hF120 : Fr K [(10, 9), (10, 10), (11, 8), (11, 9), (11, 10), (11, 11), (11, 12), (11, 13), (80, 999), (81, 999), (83, 999), (84, 999)] I I120 := hF117.trans hf120 rfl rfl
          have hFJ120 : Fr K [(11, 14), (82, 999)] J J120 := hFJ117.trans hfj120 rfl rfl
          have om120 := om117.mv hf120 rfl
          refine r_istore_n hC (lv' := [(2, .int x120_), (1, .int x112_), (0, .ref a0)]) dX10_readKnower_104 (by decide) rfl ?_
          refine r_aload_n hC dX10_readKnower_105 2 rfl ?_
          refine r_geti hC 9 (ci := 10) rfl u10_in (by decide) mT_5_4 dX10_readKnower_106 ka0 rfl rfl (fun x121_ e121 => ?_)
          have f121 : x121_.toInt = (I120 a0 9).toInt := by rw [e121]
          refine r_iconst hC (v := (5)) dX10_readKnower_109 (by decide) (by decide) (fun x122_ e122 t122 => ?_)
          refine r_icmp_ne hC (tgt := 114) dX10_readKnower_110 (by decide) (fun c123 => ?_) (fun c123 => ?_)
          · exfalso; omega
          have hG0 : I120 rm 0 = G0 := (Eq.trans (hf120.get krm rfl) (Eq.trans (hf117.get krm rfl) (Eq.trans (hf116.get krm rfl) (Eq.trans (hf110.get krm rfl) (Eq.trans (hf106.get krm rfl) (Eq.trans (hf105.get krm rfl) (Eq.trans (hf6.get krm rfl) (Eq.trans (hf3.get krm rfl) eG0.symm))))))))
          have hG0t : (I120 rm 0).toInt = G0.toInt := congrArg Int32.toInt hG0
          have hG1 : I120 rm 1 = G1 := (Eq.trans (hf120.get krm rfl) (Eq.trans (hf117.get krm rfl) (Eq.trans (hf116.get krm rfl) (Eq.trans (hf110.get krm rfl) (Eq.trans (hf106.get krm rfl) (Eq.trans (hf105.get krm rfl) (Eq.trans (hf6.get krm rfl) (Eq.trans (hf3.get krm rfl) eG1.symm))))))))
          have hG1t : (I120 rm 1).toInt = G1.toInt := congrArg Int32.toInt hG1
          have hG2 : I120 rm 2 = G2 := (Eq.trans (hf120.get krm rfl) (Eq.trans (hf117.get krm rfl) (Eq.trans (hf116.get krm rfl) (Eq.trans (hf110.get krm rfl) (Eq.trans (hf106.get krm rfl) (Eq.trans (hf105.get krm rfl) (Eq.trans (hf6.get krm rfl) (Eq.trans (hf3.get krm rfl) eG2.symm))))))))
          have hG2t : (I120 rm 2).toInt = G2.toInt := congrArg Int32.toInt hG2
          have hG3 : I120 rm 3 = G3 := (Eq.trans (hf120.get krm rfl) (Eq.trans (hf117.get krm rfl) (Eq.trans (hf116.get krm rfl) (Eq.trans (hf110.get krm rfl) (Eq.trans (hf106.get krm rfl) (Eq.trans (hf105.get krm rfl) (Eq.trans (hf6.get krm rfl) (Eq.trans (hf3.get krm rfl) eG3.symm))))))))
          have hG3t : (I120 rm 3).toInt = G3.toInt := congrArg Int32.toInt hG3
          have hG4 : I120 rm 4 = G4 := (Eq.trans (hf120.get krm rfl) (Eq.trans (hf117.get krm rfl) (Eq.trans (hf116.get krm rfl) (Eq.trans (hf110.get krm rfl) (Eq.trans (hf106.get krm rfl) (Eq.trans (hf105.get krm rfl) (Eq.trans (hf6.get krm rfl) (Eq.trans (hf3.get krm rfl) eG4.symm))))))))
          have hG4t : (I120 rm 4).toInt = G4.toInt := congrArg Int32.toInt hG4
          have hG5 : I120 rm 5 = G5 := (Eq.trans (hf120.get krm rfl) (Eq.trans (hf117.get krm rfl) (Eq.trans (hf116.get krm rfl) (Eq.trans (hf110.get krm rfl) (Eq.trans (hf106.get krm rfl) (Eq.trans (hf105.get krm rfl) (Eq.trans (hf6.get krm rfl) (Eq.trans (hf3.get krm rfl) eG5.symm))))))))
          have hG5t : (I120 rm 5).toInt = G5.toInt := congrArg Int32.toInt hG5
          have hG6 : I120 rm 6 = G6 := (Eq.trans (hf120.get krm rfl) (Eq.trans (hf117.get krm rfl) (Eq.trans (hf116.get krm rfl) (Eq.trans (hf110.get krm rfl) (Eq.trans (hf106.get krm rfl) (Eq.trans (hf105.get krm rfl) (Eq.trans (hf6.get krm rfl) (Eq.trans (hf3.get krm rfl) eG6.symm))))))))
          have hG6t : (I120 rm 6).toInt = G6.toInt := congrArg Int32.toInt hG6
          have hG7 : I120 rm 7 = G7 := (Eq.trans (hf120.get krm rfl) (Eq.trans (hf117.get krm rfl) (Eq.trans (hf116.get krm rfl) (Eq.trans (hf110.get krm rfl) (Eq.trans (hf106.get krm rfl) (Eq.trans (hf105.get krm rfl) (Eq.trans (hf6.get krm rfl) (Eq.trans (hf3.get krm rfl) eG7.symm))))))))
          have hG7t : (I120 rm 7).toInt = G7.toInt := congrArg Int32.toInt hG7
          have hG8 : I120 rm 8 = G8 := (Eq.trans (hf120.get krm rfl) (Eq.trans (hf117.get krm rfl) (Eq.trans (hf116.get krm rfl) (Eq.trans (hf110.get krm rfl) (Eq.trans (hf106.get krm rfl) (Eq.trans (hf105.get krm rfl) (Eq.trans (hf6.get krm rfl) (Eq.trans (hf3.get krm rfl) eG8.symm))))))))
          have hG8t : (I120 rm 8).toInt = G8.toInt := congrArg Int32.toInt hG8
          have hG9 : I120 rm 9 = x5_ := (Eq.trans (hf120.get krm rfl) (Eq.trans (hf117.get krm rfl) (Eq.trans (hf116.get krm rfl) (Eq.trans (hf110.get krm rfl) (Eq.trans (hf106.get krm rfl) (Eq.trans (hf105.get krm rfl) (Eq.trans (hf6.get krm rfl) e5.symm)))))))
          have hG9t : (I120 rm 9).toInt = x5_.toInt := congrArg Int32.toInt hG9
          have hG10 : I120 rm 10 = N1 := (Eq.trans (hf120.get krm rfl) (Eq.trans (hf117.get krm rfl) (Eq.trans (hf116.get krm rfl) (Eq.trans (hf110.get krm rfl) (Eq.trans (hf106.get krm rfl) (Eq.trans (hf105.get krm rfl) eN1.symm))))))
          have hG10t : (I120 rm 10).toInt = N1.toInt := congrArg Int32.toInt hG10
          exact r_vret hC hQ hlk hr (by decide) (by decide) dX10_readKnower_113 ⟨_, _, rfl, rfl, ⟨hs120, hF120, hFJ120, (by first | exact Or.inl ⟨(upD (adN D (vl B n (nx B n p))) 0 9 ((adN D (vl B n (nx B n p))) 0 9 + 1)), _, by unfold sKnower; rw [pif_f (show ¬ 4 ≤ D 0 9 by omega), hsp6, bnd_ok, pif_f (show ¬ isW B n (nx B n (nx B n p)) 27 from hw7)], (nx_le (nx_le hp).2).2, tk6, ⟨by unfold SM; simp [upD, adN]; omega, nmF6.cg (by simp [upD]) (by intro j; simp [upD]), pg105.cg (by simp [upD]) (by intro j; simp [upD]) (by simp [upD]) (by intro j; simp [upD])⟩, fq6⟩ | exact Or.inr ⟨1, (pl B n (nx B n (nx B n p))), by unfold sKnower; rw [pif_f (show ¬ 4 ≤ D 0 9 by omega), hsp6, bnd_ok, pif_f (show ¬ isW B n (nx B n (nx B n p)) 27 from hw7)], by omega, by omega, by omega⟩), (by exact om120)⟩⟩
        · refine r_aload_n hC dX10_readKnower_72 1 rfl ?_
          refine r_getr hC 4 (ci := 10) rfl u10_in (by decide) mT_4_239 dX10_readKnower_73 ka0 rfl rfl hbr ?_
          refine r_getrN hC 26 (ci := 9) rfl u9_in (by decide) nF_26 dX10_readKnower_76 krm rfl rfl hns ?_
          refine r_iload_n hC dX10_readKnower_79 0 rfl ?_
          refine x_iaload hC kns lns (by decide) rfl rfl dX10_readKnower_80 (by omega) (by omega) (fun x124_ e124 => ?_)
          refine r_if_eq hC (tgt := 89) dX10_readKnower_81 (by decide) (fun c125 => ?_) (fun c125 => ?_)
          · refine r_aload_n hC dX10_readKnower_89 1 rfl ?_
            refine r_callV hC (As := []) (rest := []) (ci := 10) (e_X10_goesOn g (xL X) K len I110 J106 R hs110 a0 ka0 (by omega)) mT_5_199 mT_1_10 mT_5_196 mT_5_198 mP_49 okX10_goesOn ⟨by decide, by decide⟩ rfl (by show kO (K a0) = _; rw [ka0]; rfl) rfl rfl (Nat.le_of_ble_eq_true rfl) ⟨by decide, by decide⟩ dX10_readKnower_90 (aV2 (F := fun st M => P g X 3 93 [(1, .int x112_), (0, .ref a0)] st _ _ M) (M := (K, len, I110, J106, R)) fun I126 J126 h126 => ?_)
            obtain ⟨hs126, hf126, hfj126, k126_0, k126_1, k126_2⟩ := h126
            show P g X 3 93 [(1, .int x112_), (0, .ref a0)] [] _ _ (K, len, I126, J126, R)
            have hF126 : Fr K [(10, 9), (10, 10), (11, 8), (11, 9), (11, 10), (11, 11), (11, 12), (11, 13), (80, 999), (81, 999), (83, 999), (84, 999)] I I126 := hF110.trans hf126 rfl rfl
            have hFJ126 : Fr K [(11, 14), (82, 999)] J J126 := hFJ106.trans hfj126 rfl rfl
            have om126 := om110.mv hf126 rfl
            refine r_aload_n hC dX10_readKnower_93 1 rfl ?_
            refine r_ldcwS hC (i := 59) (by decide) rfl rfl dX10_readKnower_94 ?_
            refine r_iconst hC (v := (0)) dX10_readKnower_97 (by decide) (by decide) (fun x127_ e127 t127 => ?_)
            refine r_sipush hC (v := (999)) dX10_readKnower_98 (by decide) (by decide) (fun x128_ e128 t128 => ?_)
            refine r_callV hC (As := [.ref (g.2.2.1 59), .int x127_, .int x128_]) (rest := []) (ci := 10) (e_X10_readPart g (xL X) K len I126 J126 R hs126 a0 ka0 59 (by decide) x127_ x128_ (by omega)) mT_6_1 mT_1_10 mT_5_238 mT_6_0 mP_56 okX10_readPart ⟨by decide, by decide⟩ rfl (by show kO (K a0) = _; rw [ka0]; rfl) rfl rfl (Nat.le_of_ble_eq_true rfl) ⟨by decide, by decide⟩ dX10_readKnower_101 (aI2 (F := fun st M => P g X 3 104 [(1, .int x112_), (0, .ref a0)] st _ _ M) (M := (K, len, I126, J126, R)) fun x129_ I129 J129 h129 => ?_)
            obtain ⟨hs129, hf129, hfj129, k129_0, k129_1, k129_2⟩ := h129
            show P g X 3 104 [(1, .int x112_), (0, .ref a0)] [.int x129_] _ _ (K, len, I129, J129, R)
            have hF129 : Fr K [(10, 9), (10, 10), (11, 8), (11, 9), (11, 10), (11, 11), (11, 12), (11, 13), (80, 999), (81, 999), (83, 999), (84, 999)] I I129 := hF126.trans hf129 rfl rfl
            have hFJ129 : Fr K [(11, 14), (82, 999)] J J129 := hFJ126.trans hfj129 rfl rfl
            have om129 := om126.mv hf129 rfl
            refine r_istore_n hC (lv' := [(2, .int x129_), (1, .int x112_), (0, .ref a0)]) dX10_readKnower_104 (by decide) rfl ?_
            refine r_aload_n hC dX10_readKnower_105 2 rfl ?_
            refine r_geti hC 9 (ci := 10) rfl u10_in (by decide) mT_5_4 dX10_readKnower_106 ka0 rfl rfl (fun x130_ e130 => ?_)
            have f130 : x130_.toInt = (I129 a0 9).toInt := by rw [e130]
            refine r_iconst hC (v := (5)) dX10_readKnower_109 (by decide) (by decide) (fun x131_ e131 t131 => ?_)
            refine r_icmp_ne hC (tgt := 114) dX10_readKnower_110 (by decide) (fun c132 => ?_) (fun c132 => ?_)
            · exfalso; omega
            have hG0 : I129 rm 0 = G0 := (Eq.trans (hf129.get krm rfl) (Eq.trans (hf126.get krm rfl) (Eq.trans (hf110.get krm rfl) (Eq.trans (hf106.get krm rfl) (Eq.trans (hf105.get krm rfl) (Eq.trans (hf6.get krm rfl) (Eq.trans (hf3.get krm rfl) eG0.symm)))))))
            have hG0t : (I129 rm 0).toInt = G0.toInt := congrArg Int32.toInt hG0
            have hG1 : I129 rm 1 = G1 := (Eq.trans (hf129.get krm rfl) (Eq.trans (hf126.get krm rfl) (Eq.trans (hf110.get krm rfl) (Eq.trans (hf106.get krm rfl) (Eq.trans (hf105.get krm rfl) (Eq.trans (hf6.get krm rfl) (Eq.trans (hf3.get krm rfl) eG1.symm)))))))
            have hG1t : (I129 rm 1).toInt = G1.toInt := congrArg Int32.toInt hG1
            have hG2 : I129 rm 2 = G2 := (Eq.trans (hf129.get krm rfl) (Eq.trans (hf126.get krm rfl) (Eq.trans (hf110.get krm rfl) (Eq.trans (hf106.get krm rfl) (Eq.trans (hf105.get krm rfl) (Eq.trans (hf6.get krm rfl) (Eq.trans (hf3.get krm rfl) eG2.symm)))))))
            have hG2t : (I129 rm 2).toInt = G2.toInt := congrArg Int32.toInt hG2
            have hG3 : I129 rm 3 = G3 := (Eq.trans (hf129.get krm rfl) (Eq.trans (hf126.get krm rfl) (Eq.trans (hf110.get krm rfl) (Eq.trans (hf106.get krm rfl) (Eq.trans (hf105.get krm rfl) (Eq.trans (hf6.get krm rfl) (Eq.trans (hf3.get krm rfl) eG3.symm)))))))
            have hG3t : (I129 rm 3).toInt = G3.toInt := congrArg Int32.toInt hG3
            have hG4 : I129 rm 4 = G4 := (Eq.trans (hf129.get krm rfl) (Eq.trans (hf126.get krm rfl) (Eq.trans (hf110.get krm rfl) (Eq.trans (hf106.get krm rfl) (Eq.trans (hf105.get krm rfl) (Eq.trans (hf6.get krm rfl) (Eq.trans (hf3.get krm rfl) eG4.symm)))))))
            have hG4t : (I129 rm 4).toInt = G4.toInt := congrArg Int32.toInt hG4
            have hG5 : I129 rm 5 = G5 := (Eq.trans (hf129.get krm rfl) (Eq.trans (hf126.get krm rfl) (Eq.trans (hf110.get krm rfl) (Eq.trans (hf106.get krm rfl) (Eq.trans (hf105.get krm rfl) (Eq.trans (hf6.get krm rfl) (Eq.trans (hf3.get krm rfl) eG5.symm)))))))
            have hG5t : (I129 rm 5).toInt = G5.toInt := congrArg Int32.toInt hG5
            have hG6 : I129 rm 6 = G6 := (Eq.trans (hf129.get krm rfl) (Eq.trans (hf126.get krm rfl) (Eq.trans (hf110.get krm rfl) (Eq.trans (hf106.get krm rfl) (Eq.trans (hf105.get krm rfl) (Eq.trans (hf6.get krm rfl) (Eq.trans (hf3.get krm rfl) eG6.symm)))))))
            have hG6t : (I129 rm 6).toInt = G6.toInt := congrArg Int32.toInt hG6
            have hG7 : I129 rm 7 = G7 := (Eq.trans (hf129.get krm rfl) (Eq.trans (hf126.get krm rfl) (Eq.trans (hf110.get krm rfl) (Eq.trans (hf106.get krm rfl) (Eq.trans (hf105.get krm rfl) (Eq.trans (hf6.get krm rfl) (Eq.trans (hf3.get krm rfl) eG7.symm)))))))
            have hG7t : (I129 rm 7).toInt = G7.toInt := congrArg Int32.toInt hG7
            have hG8 : I129 rm 8 = G8 := (Eq.trans (hf129.get krm rfl) (Eq.trans (hf126.get krm rfl) (Eq.trans (hf110.get krm rfl) (Eq.trans (hf106.get krm rfl) (Eq.trans (hf105.get krm rfl) (Eq.trans (hf6.get krm rfl) (Eq.trans (hf3.get krm rfl) eG8.symm)))))))
            have hG8t : (I129 rm 8).toInt = G8.toInt := congrArg Int32.toInt hG8
            have hG9 : I129 rm 9 = x5_ := (Eq.trans (hf129.get krm rfl) (Eq.trans (hf126.get krm rfl) (Eq.trans (hf110.get krm rfl) (Eq.trans (hf106.get krm rfl) (Eq.trans (hf105.get krm rfl) (Eq.trans (hf6.get krm rfl) e5.symm))))))
            have hG9t : (I129 rm 9).toInt = x5_.toInt := congrArg Int32.toInt hG9
            have hG10 : I129 rm 10 = N1 := (Eq.trans (hf129.get krm rfl) (Eq.trans (hf126.get krm rfl) (Eq.trans (hf110.get krm rfl) (Eq.trans (hf106.get krm rfl) (Eq.trans (hf105.get krm rfl) eN1.symm)))))
            have hG10t : (I129 rm 10).toInt = N1.toInt := congrArg Int32.toInt hG10
            exact r_vret hC hQ hlk hr (by decide) (by decide) dX10_readKnower_113 ⟨_, _, rfl, rfl, ⟨hs129, hF129, hFJ129, (by first | exact Or.inl ⟨(upD (adN D (vl B n (nx B n p))) 0 9 ((adN D (vl B n (nx B n p))) 0 9 + 1)), _, by unfold sKnower; rw [pif_f (show ¬ 4 ≤ D 0 9 by omega), hsp6, bnd_ok, pif_f (show ¬ isW B n (nx B n (nx B n p)) 27 from hw7)], (nx_le (nx_le hp).2).2, tk6, ⟨by unfold SM; simp [upD, adN]; omega, nmF6.cg (by simp [upD]) (by intro j; simp [upD]), pg105.cg (by simp [upD]) (by intro j; simp [upD]) (by simp [upD]) (by intro j; simp [upD])⟩, fq6⟩ | exact Or.inr ⟨1, (pl B n (nx B n (nx B n p))), by unfold sKnower; rw [pif_f (show ¬ 4 ≤ D 0 9 by omega), hsp6, bnd_ok, pif_f (show ¬ isW B n (nx B n (nx B n p)) 27 from hw7)], by omega, by omega, by omega⟩), (by exact om129)⟩⟩
          · refine r_aload_n hC dX10_readKnower_84 1 rfl ?_
            refine r_iconst hC (v := (2)) dX10_readKnower_85 (by decide) (by decide) (fun x133_ e133 t133 => ?_)
            refine r_callV hC (As := [.int x133_]) (rest := []) (ci := 10) (e_X10_wrong g (xL X) K len I110 J106 R hs110 a0 ka0 x133_ (by omega)) mT_5_236 mT_1_10 mT_5_233 mT_5_235 mP_55 okX10_wrong ⟨by decide, by decide⟩ rfl (by show kO (K a0) = _; rw [ka0]; rfl) rfl rfl (Nat.le_of_ble_eq_true rfl) ⟨by decide, by decide⟩ dX10_readKnower_86 (aV1 (F := fun st M => P g X 3 89 [(1, .int x112_), (0, .ref a0)] st _ _ M) (M := (K, len, I110, J106, R)) fun I134 h134 => ?_)
            obtain ⟨hs134, hf134, k134_0, k134_1, k134_2⟩ := h134
            show P g X 3 89 [(1, .int x112_), (0, .ref a0)] [] _ _ (K, len, I134, J106, R)
            have hF134 : Fr K [(10, 9), (10, 10), (11, 8), (11, 9), (11, 10), (11, 11), (11, 12), (11, 13), (80, 999), (81, 999), (83, 999), (84, 999)] I I134 := hF110.trans hf134 rfl rfl
            have om134 := om110.mv hf134 rfl
            refine r_aload_n hC dX10_readKnower_89 1 rfl ?_
            refine r_callV hC (As := []) (rest := []) (ci := 10) (e_X10_goesOn g (xL X) K len I134 J106 R hs134 a0 ka0 (by omega)) mT_5_199 mT_1_10 mT_5_196 mT_5_198 mP_49 okX10_goesOn ⟨by decide, by decide⟩ rfl (by show kO (K a0) = _; rw [ka0]; rfl) rfl rfl (Nat.le_of_ble_eq_true rfl) ⟨by decide, by decide⟩ dX10_readKnower_90 (aV2 (F := fun st M => P g X 3 93 [(1, .int x112_), (0, .ref a0)] st _ _ M) (M := (K, len, I134, J106, R)) fun I135 J135 h135 => ?_)
            obtain ⟨hs135, hf135, hfj135, k135_0, k135_1, k135_2⟩ := h135
            show P g X 3 93 [(1, .int x112_), (0, .ref a0)] [] _ _ (K, len, I135, J135, R)
            have hF135 : Fr K [(10, 9), (10, 10), (11, 8), (11, 9), (11, 10), (11, 11), (11, 12), (11, 13), (80, 999), (81, 999), (83, 999), (84, 999)] I I135 := hF134.trans hf135 rfl rfl
            have hFJ135 : Fr K [(11, 14), (82, 999)] J J135 := hFJ106.trans hfj135 rfl rfl
            have om135 := om134.mv hf135 rfl
            refine r_aload_n hC dX10_readKnower_93 1 rfl ?_
            refine r_ldcwS hC (i := 59) (by decide) rfl rfl dX10_readKnower_94 ?_
            refine r_iconst hC (v := (0)) dX10_readKnower_97 (by decide) (by decide) (fun x136_ e136 t136 => ?_)
            refine r_sipush hC (v := (999)) dX10_readKnower_98 (by decide) (by decide) (fun x137_ e137 t137 => ?_)
            refine r_callV hC (As := [.ref (g.2.2.1 59), .int x136_, .int x137_]) (rest := []) (ci := 10) (e_X10_readPart g (xL X) K len I135 J135 R hs135 a0 ka0 59 (by decide) x136_ x137_ (by omega)) mT_6_1 mT_1_10 mT_5_238 mT_6_0 mP_56 okX10_readPart ⟨by decide, by decide⟩ rfl (by show kO (K a0) = _; rw [ka0]; rfl) rfl rfl (Nat.le_of_ble_eq_true rfl) ⟨by decide, by decide⟩ dX10_readKnower_101 (aI2 (F := fun st M => P g X 3 104 [(1, .int x112_), (0, .ref a0)] st _ _ M) (M := (K, len, I135, J135, R)) fun x138_ I138 J138 h138 => ?_)
            obtain ⟨hs138, hf138, hfj138, k138_0, k138_1, k138_2⟩ := h138
            show P g X 3 104 [(1, .int x112_), (0, .ref a0)] [.int x138_] _ _ (K, len, I138, J138, R)
            have hF138 : Fr K [(10, 9), (10, 10), (11, 8), (11, 9), (11, 10), (11, 11), (11, 12), (11, 13), (80, 999), (81, 999), (83, 999), (84, 999)] I I138 := hF135.trans hf138 rfl rfl
            have hFJ138 : Fr K [(11, 14), (82, 999)] J J138 := hFJ135.trans hfj138 rfl rfl
            have om138 := om135.mv hf138 rfl
            refine r_istore_n hC (lv' := [(2, .int x138_), (1, .int x112_), (0, .ref a0)]) dX10_readKnower_104 (by decide) rfl ?_
            refine r_aload_n hC dX10_readKnower_105 2 rfl ?_
            refine r_geti hC 9 (ci := 10) rfl u10_in (by decide) mT_5_4 dX10_readKnower_106 ka0 rfl rfl (fun x139_ e139 => ?_)
            have f139 : x139_.toInt = (I138 a0 9).toInt := by rw [e139]
            refine r_iconst hC (v := (5)) dX10_readKnower_109 (by decide) (by decide) (fun x140_ e140 t140 => ?_)
            refine r_icmp_ne hC (tgt := 114) dX10_readKnower_110 (by decide) (fun c141 => ?_) (fun c141 => ?_)
            · exfalso; omega
            have hG0 : I138 rm 0 = G0 := (Eq.trans (hf138.get krm rfl) (Eq.trans (hf135.get krm rfl) (Eq.trans (hf134.get krm rfl) (Eq.trans (hf110.get krm rfl) (Eq.trans (hf106.get krm rfl) (Eq.trans (hf105.get krm rfl) (Eq.trans (hf6.get krm rfl) (Eq.trans (hf3.get krm rfl) eG0.symm))))))))
            have hG0t : (I138 rm 0).toInt = G0.toInt := congrArg Int32.toInt hG0
            have hG1 : I138 rm 1 = G1 := (Eq.trans (hf138.get krm rfl) (Eq.trans (hf135.get krm rfl) (Eq.trans (hf134.get krm rfl) (Eq.trans (hf110.get krm rfl) (Eq.trans (hf106.get krm rfl) (Eq.trans (hf105.get krm rfl) (Eq.trans (hf6.get krm rfl) (Eq.trans (hf3.get krm rfl) eG1.symm))))))))
            have hG1t : (I138 rm 1).toInt = G1.toInt := congrArg Int32.toInt hG1
            have hG2 : I138 rm 2 = G2 := (Eq.trans (hf138.get krm rfl) (Eq.trans (hf135.get krm rfl) (Eq.trans (hf134.get krm rfl) (Eq.trans (hf110.get krm rfl) (Eq.trans (hf106.get krm rfl) (Eq.trans (hf105.get krm rfl) (Eq.trans (hf6.get krm rfl) (Eq.trans (hf3.get krm rfl) eG2.symm))))))))
            have hG2t : (I138 rm 2).toInt = G2.toInt := congrArg Int32.toInt hG2
            have hG3 : I138 rm 3 = G3 := (Eq.trans (hf138.get krm rfl) (Eq.trans (hf135.get krm rfl) (Eq.trans (hf134.get krm rfl) (Eq.trans (hf110.get krm rfl) (Eq.trans (hf106.get krm rfl) (Eq.trans (hf105.get krm rfl) (Eq.trans (hf6.get krm rfl) (Eq.trans (hf3.get krm rfl) eG3.symm))))))))
            have hG3t : (I138 rm 3).toInt = G3.toInt := congrArg Int32.toInt hG3
            have hG4 : I138 rm 4 = G4 := (Eq.trans (hf138.get krm rfl) (Eq.trans (hf135.get krm rfl) (Eq.trans (hf134.get krm rfl) (Eq.trans (hf110.get krm rfl) (Eq.trans (hf106.get krm rfl) (Eq.trans (hf105.get krm rfl) (Eq.trans (hf6.get krm rfl) (Eq.trans (hf3.get krm rfl) eG4.symm))))))))
            have hG4t : (I138 rm 4).toInt = G4.toInt := congrArg Int32.toInt hG4
            have hG5 : I138 rm 5 = G5 := (Eq.trans (hf138.get krm rfl) (Eq.trans (hf135.get krm rfl) (Eq.trans (hf134.get krm rfl) (Eq.trans (hf110.get krm rfl) (Eq.trans (hf106.get krm rfl) (Eq.trans (hf105.get krm rfl) (Eq.trans (hf6.get krm rfl) (Eq.trans (hf3.get krm rfl) eG5.symm))))))))
            have hG5t : (I138 rm 5).toInt = G5.toInt := congrArg Int32.toInt hG5
            have hG6 : I138 rm 6 = G6 := (Eq.trans (hf138.get krm rfl) (Eq.trans (hf135.get krm rfl) (Eq.trans (hf134.get krm rfl) (Eq.trans (hf110.get krm rfl) (Eq.trans (hf106.get krm rfl) (Eq.trans (hf105.get krm rfl) (Eq.trans (hf6.get krm rfl) (Eq.trans (hf3.get krm rfl) eG6.symm))))))))
            have hG6t : (I138 rm 6).toInt = G6.toInt := congrArg Int32.toInt hG6
            have hG7 : I138 rm 7 = G7 := (Eq.trans (hf138.get krm rfl) (Eq.trans (hf135.get krm rfl) (Eq.trans (hf134.get krm rfl) (Eq.trans (hf110.get krm rfl) (Eq.trans (hf106.get krm rfl) (Eq.trans (hf105.get krm rfl) (Eq.trans (hf6.get krm rfl) (Eq.trans (hf3.get krm rfl) eG7.symm))))))))
            have hG7t : (I138 rm 7).toInt = G7.toInt := congrArg Int32.toInt hG7
            have hG8 : I138 rm 8 = G8 := (Eq.trans (hf138.get krm rfl) (Eq.trans (hf135.get krm rfl) (Eq.trans (hf134.get krm rfl) (Eq.trans (hf110.get krm rfl) (Eq.trans (hf106.get krm rfl) (Eq.trans (hf105.get krm rfl) (Eq.trans (hf6.get krm rfl) (Eq.trans (hf3.get krm rfl) eG8.symm))))))))
            have hG8t : (I138 rm 8).toInt = G8.toInt := congrArg Int32.toInt hG8
            have hG9 : I138 rm 9 = x5_ := (Eq.trans (hf138.get krm rfl) (Eq.trans (hf135.get krm rfl) (Eq.trans (hf134.get krm rfl) (Eq.trans (hf110.get krm rfl) (Eq.trans (hf106.get krm rfl) (Eq.trans (hf105.get krm rfl) (Eq.trans (hf6.get krm rfl) e5.symm)))))))
            have hG9t : (I138 rm 9).toInt = x5_.toInt := congrArg Int32.toInt hG9
            have hG10 : I138 rm 10 = N1 := (Eq.trans (hf138.get krm rfl) (Eq.trans (hf135.get krm rfl) (Eq.trans (hf134.get krm rfl) (Eq.trans (hf110.get krm rfl) (Eq.trans (hf106.get krm rfl) (Eq.trans (hf105.get krm rfl) eN1.symm))))))
            have hG10t : (I138 rm 10).toInt = N1.toInt := congrArg Int32.toInt hG10
            exact r_vret hC hQ hlk hr (by decide) (by decide) dX10_readKnower_113 ⟨_, _, rfl, rfl, ⟨hs138, hF138, hFJ138, (by first | exact Or.inl ⟨(upD (adN D (vl B n (nx B n p))) 0 9 ((adN D (vl B n (nx B n p))) 0 9 + 1)), _, by unfold sKnower; rw [pif_f (show ¬ 4 ≤ D 0 9 by omega), hsp6, bnd_ok, pif_f (show ¬ isW B n (nx B n (nx B n p)) 27 from hw7)], (nx_le (nx_le hp).2).2, tk6, ⟨by unfold SM; simp [upD, adN]; omega, nmF6.cg (by simp [upD]) (by intro j; simp [upD]), pg105.cg (by simp [upD]) (by intro j; simp [upD]) (by simp [upD]) (by intro j; simp [upD])⟩, fq6⟩ | exact Or.inr ⟨1, (pl B n (nx B n (nx B n p))), by unfold sKnower; rw [pif_f (show ¬ 4 ≤ D 0 9 by omega), hsp6, bnd_ok, pif_f (show ¬ isW B n (nx B n (nx B n p)) 27 from hw7)], by omega, by omega, by omega⟩), (by exact om138)⟩⟩
    · obtain ⟨N1, eN1⟩ : ∃ z : Int32, z = I6 rm 10 := ⟨_, rfl⟩
      have fN1 : N1.toInt = (I6 rm 10).toInt := by rw [eN1]
      have rN1 := hs6.rng krm rfl eN1
      refine r_aload_n hC dX10_readKnower_24 0 rfl ?_
      refine r_ldcwS hC (i := 58) (by decide) rfl rfl dX10_readKnower_25 ?_
      refine r_callV hC (As := [.ref (g.2.2.1 58)]) (rest := []) (ci := 10) (e_X10_isWord g (xL X) K len I6 J6 R hs6 a0 ka0 58 (by decide) (by omega)) mT_5_223 mT_1_10 mT_5_220 mT_5_222 mP_53 okX10_isWord ⟨by decide, by decide⟩ rfl (by show kO (K a0) = _; rw [ka0]; rfl) rfl rfl (Nat.le_of_ble_eq_true rfl) ⟨by decide, by decide⟩ dX10_readKnower_28 (aI0 (F := fun st M => P g X 3 31 [(0, .ref a0)] st _ _ M) (M := (K, len, I6, J6, R)) fun x142_ h142 => ?_)
      have k142_0 := h142
      show P g X 3 31 [(0, .ref a0)] [.int x142_] _ _ (K, len, I6, J6, R)
      refine r_if_ne hC (tgt := 39) dX10_readKnower_31 (by decide) (fun c143 => ?_) (fun c143 => ?_)
      · exfalso; omega
      refine r_aload_n hC dX10_readKnower_34 0 rfl ?_
      refine r_iconst hC (v := (1)) dX10_readKnower_35 (by decide) (by decide) (fun x144_ e144 t144 => ?_)
      refine r_callV hC (As := [.int x144_]) (rest := []) (ci := 10) (e_X10_wrong g (xL X) K len I6 J6 R hs6 a0 ka0 x144_ (by omega)) mT_5_236 mT_1_10 mT_5_233 mT_5_235 mP_55 okX10_wrong ⟨by decide, by decide⟩ rfl (by show kO (K a0) = _; rw [ka0]; rfl) rfl rfl (Nat.le_of_ble_eq_true rfl) ⟨by decide, by decide⟩ dX10_readKnower_36 (aV1 (F := fun st M => P g X 3 39 [(0, .ref a0)] st _ _ M) (M := (K, len, I6, J6, R)) fun I145 h145 => ?_)
      obtain ⟨hs145, hf145, k145_0, k145_1, k145_2⟩ := h145
      show P g X 3 39 [(0, .ref a0)] [] _ _ (K, len, I145, J6, R)
      have hF145 : Fr K [(10, 9), (10, 10), (11, 8), (11, 9), (11, 10), (11, 11), (11, 12), (11, 13), (80, 999), (81, 999), (83, 999), (84, 999)] I I145 := hF6.trans hf145 rfl rfl
      have om145 := om6.mv hf145 rfl
      refine r_aload_n hC dX10_readKnower_39 0 rfl ?_
      refine r_callV hC (As := []) (rest := []) (ci := 10) (e_X10_goesOn g (xL X) K len I145 J6 R hs145 a0 ka0 (by omega)) mT_5_199 mT_1_10 mT_5_196 mT_5_198 mP_49 okX10_goesOn ⟨by decide, by decide⟩ rfl (by show kO (K a0) = _; rw [ka0]; rfl) rfl rfl (Nat.le_of_ble_eq_true rfl) ⟨by decide, by decide⟩ dX10_readKnower_40 (aV2 (F := fun st M => P g X 3 43 [(0, .ref a0)] st _ _ M) (M := (K, len, I145, J6, R)) fun I146 J146 h146 => ?_)
      obtain ⟨hs146, hf146, hfj146, k146_0, k146_1, k146_2⟩ := h146
      show P g X 3 43 [(0, .ref a0)] [] _ _ (K, len, I146, J146, R)
      have hF146 : Fr K [(10, 9), (10, 10), (11, 8), (11, 9), (11, 10), (11, 11), (11, 12), (11, 13), (80, 999), (81, 999), (83, 999), (84, 999)] I I146 := hF145.trans hf146 rfl rfl
      have hFJ146 : Fr K [(11, 14), (82, 999)] J J146 := hFJ6.trans hfj146 rfl rfl
      have om146 := om145.mv hf146 rfl
      refine r_aload_n hC dX10_readKnower_43 0 rfl ?_
      refine r_callV hC (As := []) (rest := []) (ci := 10) (e_X10_isName g (xL X) K len I146 J146 R hs146 a0 ka0 (by omega)) mT_6_27 mT_1_10 mT_6_24 mT_6_26 mP_61 okX10_isName ⟨by decide, by decide⟩ rfl (by show kO (K a0) = _; rw [ka0]; rfl) rfl rfl (Nat.le_of_ble_eq_true rfl) ⟨by decide, by decide⟩ dX10_readKnower_44 (aI0 (F := fun st M => P g X 3 47 [(0, .ref a0)] st _ _ M) (M := (K, len, I146, J146, R)) fun x147_ h147 => ?_)
      have k147_0 := h147
      show P g X 3 47 [(0, .ref a0)] [.int x147_] _ _ (K, len, I146, J146, R)
      refine r_if_ne hC (tgt := 55) dX10_readKnower_47 (by decide) (fun c148 => ?_) (fun c148 => ?_)
      · exfalso; omega
      refine r_aload_n hC dX10_readKnower_50 0 rfl ?_
      refine r_iconst hC (v := (1)) dX10_readKnower_51 (by decide) (by decide) (fun x149_ e149 t149 => ?_)
      refine r_callV hC (As := [.int x149_]) (rest := []) (ci := 10) (e_X10_wrong g (xL X) K len I146 J146 R hs146 a0 ka0 x149_ (by omega)) mT_5_236 mT_1_10 mT_5_233 mT_5_235 mP_55 okX10_wrong ⟨by decide, by decide⟩ rfl (by show kO (K a0) = _; rw [ka0]; rfl) rfl rfl (Nat.le_of_ble_eq_true rfl) ⟨by decide, by decide⟩ dX10_readKnower_52 (aV1 (F := fun st M => P g X 3 55 [(0, .ref a0)] st _ _ M) (M := (K, len, I146, J146, R)) fun I150 h150 => ?_)
      obtain ⟨hs150, hf150, k150_0, k150_1, k150_2⟩ := h150
      show P g X 3 55 [(0, .ref a0)] [] _ _ (K, len, I150, J146, R)
      have hF150 : Fr K [(10, 9), (10, 10), (11, 8), (11, 9), (11, 10), (11, 11), (11, 12), (11, 13), (80, 999), (81, 999), (83, 999), (84, 999)] I I150 := hF146.trans hf150 rfl rfl
      have om150 := om146.mv hf150 rfl
      refine r_aload_n hC dX10_readKnower_55 0 rfl ?_
      refine r_getr hC 4 (ci := 10) rfl u10_in (by decide) mT_4_239 dX10_readKnower_56 ka0 rfl rfl hbr ?_
      refine r_aload_n hC dX10_readKnower_59 0 rfl ?_
      refine r_getj hC 14 (ci := 10) rfl u10_in (by decide) mT_5_9 dX10_readKnower_60 ka0 rfl rfl (fun y151_ e151 => ?_)
      have fj151 : y151_.toInt = (J146 a0 14).toInt := by rw [e151]
      refine r_callV hC (As := [.long y151_]) (rest := []) (ci := 9) (c_X9_find g (xL X) K len I150 J146 R hs150 rm krm y151_) mT_6_36 mT_1_17 mT_6_33 mT_6_34 mT_6_35 okX9_find ⟨by decide, by decide⟩ rfl (by show kO (K rm) = _; rw [krm]; rfl) rfl rfl (Nat.le_of_ble_eq_true rfl) ⟨by decide, by decide⟩ dX10_readKnower_63 (aI0 (F := fun st M => P g X 3 66 [(0, .ref a0)] st _ _ M) (M := (K, len, I150, J146, R)) fun x152_ h152 => ?_)
      obtain ⟨k152_0, k152_1⟩ := h152
      show P g X 3 66 [(0, .ref a0)] [.int x152_] _ _ (K, len, I150, J146, R)
      refine r_istore_n hC (lv' := [(1, .int x152_), (0, .ref a0)]) dX10_readKnower_66 (by decide) rfl ?_
      refine r_iload_n hC dX10_readKnower_67 0 rfl ?_
      refine r_iconst hC (v := (-1)) dX10_readKnower_68 (by decide) (by decide) (fun x153_ e153 t153 => ?_)
      refine r_icmp_eq hC (tgt := 84) dX10_readKnower_69 (by decide) (fun c154 => ?_) (fun c154 => ?_)
      · refine r_aload_n hC dX10_readKnower_84 1 rfl ?_
        refine r_iconst hC (v := (2)) dX10_readKnower_85 (by decide) (by decide) (fun x155_ e155 t155 => ?_)
        refine r_callV hC (As := [.int x155_]) (rest := []) (ci := 10) (e_X10_wrong g (xL X) K len I150 J146 R hs150 a0 ka0 x155_ (by omega)) mT_5_236 mT_1_10 mT_5_233 mT_5_235 mP_55 okX10_wrong ⟨by decide, by decide⟩ rfl (by show kO (K a0) = _; rw [ka0]; rfl) rfl rfl (Nat.le_of_ble_eq_true rfl) ⟨by decide, by decide⟩ dX10_readKnower_86 (aV1 (F := fun st M => P g X 3 89 [(1, .int x152_), (0, .ref a0)] st _ _ M) (M := (K, len, I150, J146, R)) fun I156 h156 => ?_)
        obtain ⟨hs156, hf156, k156_0, k156_1, k156_2⟩ := h156
        show P g X 3 89 [(1, .int x152_), (0, .ref a0)] [] _ _ (K, len, I156, J146, R)
        have hF156 : Fr K [(10, 9), (10, 10), (11, 8), (11, 9), (11, 10), (11, 11), (11, 12), (11, 13), (80, 999), (81, 999), (83, 999), (84, 999)] I I156 := hF150.trans hf156 rfl rfl
        have om156 := om150.mv hf156 rfl
        refine r_aload_n hC dX10_readKnower_89 1 rfl ?_
        refine r_callV hC (As := []) (rest := []) (ci := 10) (e_X10_goesOn g (xL X) K len I156 J146 R hs156 a0 ka0 (by omega)) mT_5_199 mT_1_10 mT_5_196 mT_5_198 mP_49 okX10_goesOn ⟨by decide, by decide⟩ rfl (by show kO (K a0) = _; rw [ka0]; rfl) rfl rfl (Nat.le_of_ble_eq_true rfl) ⟨by decide, by decide⟩ dX10_readKnower_90 (aV2 (F := fun st M => P g X 3 93 [(1, .int x152_), (0, .ref a0)] st _ _ M) (M := (K, len, I156, J146, R)) fun I157 J157 h157 => ?_)
        obtain ⟨hs157, hf157, hfj157, k157_0, k157_1, k157_2⟩ := h157
        show P g X 3 93 [(1, .int x152_), (0, .ref a0)] [] _ _ (K, len, I157, J157, R)
        have hF157 : Fr K [(10, 9), (10, 10), (11, 8), (11, 9), (11, 10), (11, 11), (11, 12), (11, 13), (80, 999), (81, 999), (83, 999), (84, 999)] I I157 := hF156.trans hf157 rfl rfl
        have hFJ157 : Fr K [(11, 14), (82, 999)] J J157 := hFJ146.trans hfj157 rfl rfl
        have om157 := om156.mv hf157 rfl
        refine r_aload_n hC dX10_readKnower_93 1 rfl ?_
        refine r_ldcwS hC (i := 59) (by decide) rfl rfl dX10_readKnower_94 ?_
        refine r_iconst hC (v := (0)) dX10_readKnower_97 (by decide) (by decide) (fun x158_ e158 t158 => ?_)
        refine r_sipush hC (v := (999)) dX10_readKnower_98 (by decide) (by decide) (fun x159_ e159 t159 => ?_)
        refine r_callV hC (As := [.ref (g.2.2.1 59), .int x158_, .int x159_]) (rest := []) (ci := 10) (e_X10_readPart g (xL X) K len I157 J157 R hs157 a0 ka0 59 (by decide) x158_ x159_ (by omega)) mT_6_1 mT_1_10 mT_5_238 mT_6_0 mP_56 okX10_readPart ⟨by decide, by decide⟩ rfl (by show kO (K a0) = _; rw [ka0]; rfl) rfl rfl (Nat.le_of_ble_eq_true rfl) ⟨by decide, by decide⟩ dX10_readKnower_101 (aI2 (F := fun st M => P g X 3 104 [(1, .int x152_), (0, .ref a0)] st _ _ M) (M := (K, len, I157, J157, R)) fun x160_ I160 J160 h160 => ?_)
        obtain ⟨hs160, hf160, hfj160, k160_0, k160_1, k160_2⟩ := h160
        show P g X 3 104 [(1, .int x152_), (0, .ref a0)] [.int x160_] _ _ (K, len, I160, J160, R)
        have hF160 : Fr K [(10, 9), (10, 10), (11, 8), (11, 9), (11, 10), (11, 11), (11, 12), (11, 13), (80, 999), (81, 999), (83, 999), (84, 999)] I I160 := hF157.trans hf160 rfl rfl
        have hFJ160 : Fr K [(11, 14), (82, 999)] J J160 := hFJ157.trans hfj160 rfl rfl
        have om160 := om157.mv hf160 rfl
        refine r_istore_n hC (lv' := [(2, .int x160_), (1, .int x152_), (0, .ref a0)]) dX10_readKnower_104 (by decide) rfl ?_
        refine r_aload_n hC dX10_readKnower_105 2 rfl ?_
        refine r_geti hC 9 (ci := 10) rfl u10_in (by decide) mT_5_4 dX10_readKnower_106 ka0 rfl rfl (fun x161_ e161 => ?_)
        have f161 : x161_.toInt = (I160 a0 9).toInt := by rw [e161]
        refine r_iconst hC (v := (5)) dX10_readKnower_109 (by decide) (by decide) (fun x162_ e162 t162 => ?_)
        refine r_icmp_ne hC (tgt := 114) dX10_readKnower_110 (by decide) (fun c163 => ?_) (fun c163 => ?_)
        · exfalso; omega
        have hG0 : I160 rm 0 = G0 := (Eq.trans (hf160.get krm rfl) (Eq.trans (hf157.get krm rfl) (Eq.trans (hf156.get krm rfl) (Eq.trans (hf150.get krm rfl) (Eq.trans (hf146.get krm rfl) (Eq.trans (hf145.get krm rfl) (Eq.trans (hf6.get krm rfl) (Eq.trans (hf3.get krm rfl) eG0.symm))))))))
        have hG0t : (I160 rm 0).toInt = G0.toInt := congrArg Int32.toInt hG0
        have hG1 : I160 rm 1 = G1 := (Eq.trans (hf160.get krm rfl) (Eq.trans (hf157.get krm rfl) (Eq.trans (hf156.get krm rfl) (Eq.trans (hf150.get krm rfl) (Eq.trans (hf146.get krm rfl) (Eq.trans (hf145.get krm rfl) (Eq.trans (hf6.get krm rfl) (Eq.trans (hf3.get krm rfl) eG1.symm))))))))
        have hG1t : (I160 rm 1).toInt = G1.toInt := congrArg Int32.toInt hG1
        have hG2 : I160 rm 2 = G2 := (Eq.trans (hf160.get krm rfl) (Eq.trans (hf157.get krm rfl) (Eq.trans (hf156.get krm rfl) (Eq.trans (hf150.get krm rfl) (Eq.trans (hf146.get krm rfl) (Eq.trans (hf145.get krm rfl) (Eq.trans (hf6.get krm rfl) (Eq.trans (hf3.get krm rfl) eG2.symm))))))))
        have hG2t : (I160 rm 2).toInt = G2.toInt := congrArg Int32.toInt hG2
        have hG3 : I160 rm 3 = G3 := (Eq.trans (hf160.get krm rfl) (Eq.trans (hf157.get krm rfl) (Eq.trans (hf156.get krm rfl) (Eq.trans (hf150.get krm rfl) (Eq.trans (hf146.get krm rfl) (Eq.trans (hf145.get krm rfl) (Eq.trans (hf6.get krm rfl) (Eq.trans (hf3.get krm rfl) eG3.symm))))))))
        have hG3t : (I160 rm 3).toInt = G3.toInt := congrArg Int32.toInt hG3
        have hG4 : I160 rm 4 = G4 := (Eq.trans (hf160.get krm rfl) (Eq.trans (hf157.get krm rfl) (Eq.trans (hf156.get krm rfl) (Eq.trans (hf150.get krm rfl) (Eq.trans (hf146.get krm rfl) (Eq.trans (hf145.get krm rfl) (Eq.trans (hf6.get krm rfl) (Eq.trans (hf3.get krm rfl) eG4.symm))))))))
        have hG4t : (I160 rm 4).toInt = G4.toInt := congrArg Int32.toInt hG4
        have hG5 : I160 rm 5 = G5 := (Eq.trans (hf160.get krm rfl) (Eq.trans (hf157.get krm rfl) (Eq.trans (hf156.get krm rfl) (Eq.trans (hf150.get krm rfl) (Eq.trans (hf146.get krm rfl) (Eq.trans (hf145.get krm rfl) (Eq.trans (hf6.get krm rfl) (Eq.trans (hf3.get krm rfl) eG5.symm))))))))
        have hG5t : (I160 rm 5).toInt = G5.toInt := congrArg Int32.toInt hG5
        have hG6 : I160 rm 6 = G6 := (Eq.trans (hf160.get krm rfl) (Eq.trans (hf157.get krm rfl) (Eq.trans (hf156.get krm rfl) (Eq.trans (hf150.get krm rfl) (Eq.trans (hf146.get krm rfl) (Eq.trans (hf145.get krm rfl) (Eq.trans (hf6.get krm rfl) (Eq.trans (hf3.get krm rfl) eG6.symm))))))))
        have hG6t : (I160 rm 6).toInt = G6.toInt := congrArg Int32.toInt hG6
        have hG7 : I160 rm 7 = G7 := (Eq.trans (hf160.get krm rfl) (Eq.trans (hf157.get krm rfl) (Eq.trans (hf156.get krm rfl) (Eq.trans (hf150.get krm rfl) (Eq.trans (hf146.get krm rfl) (Eq.trans (hf145.get krm rfl) (Eq.trans (hf6.get krm rfl) (Eq.trans (hf3.get krm rfl) eG7.symm))))))))
        have hG7t : (I160 rm 7).toInt = G7.toInt := congrArg Int32.toInt hG7
        have hG8 : I160 rm 8 = G8 := (Eq.trans (hf160.get krm rfl) (Eq.trans (hf157.get krm rfl) (Eq.trans (hf156.get krm rfl) (Eq.trans (hf150.get krm rfl) (Eq.trans (hf146.get krm rfl) (Eq.trans (hf145.get krm rfl) (Eq.trans (hf6.get krm rfl) (Eq.trans (hf3.get krm rfl) eG8.symm))))))))
        have hG8t : (I160 rm 8).toInt = G8.toInt := congrArg Int32.toInt hG8
        have hG9 : I160 rm 9 = x5_ := (Eq.trans (hf160.get krm rfl) (Eq.trans (hf157.get krm rfl) (Eq.trans (hf156.get krm rfl) (Eq.trans (hf150.get krm rfl) (Eq.trans (hf146.get krm rfl) (Eq.trans (hf145.get krm rfl) (Eq.trans (hf6.get krm rfl) e5.symm)))))))
        have hG9t : (I160 rm 9).toInt = x5_.toInt := congrArg Int32.toInt hG9
        have hG10 : I160 rm 10 = N1 := (Eq.trans (hf160.get krm rfl) (Eq.trans (hf157.get krm rfl) (Eq.trans (hf156.get krm rfl) (Eq.trans (hf150.get krm rfl) (Eq.trans (hf146.get krm rfl) (Eq.trans (hf145.get krm rfl) eN1.symm))))))
        have hG10t : (I160 rm 10).toInt = N1.toInt := congrArg Int32.toInt hG10
        exact r_vret hC hQ hlk hr (by decide) (by decide) dX10_readKnower_113 ⟨_, _, rfl, rfl, ⟨hs160, hF160, hFJ160, (by first | exact Or.inl ⟨(upD NOF 0 9 (NOF 0 9 + 1)), _, by unfold sKnower; rw [pif_f (show ¬ 4 ≤ D 0 9 by omega), hsp6, bnd_er], (nx_le hp).2, tk3, ⟨by unfold SM; simp [upD, adN]; omega, nm3.cg (by simp [upD]) (by intro j; simp [upD]), pg3.cg (by simp [upD]) (by intro j; simp [upD]) (by simp [upD]) (by intro j; simp [upD])⟩, fq3⟩ | exact Or.inr ⟨kf6, qf6, by unfold sKnower; rw [pif_f (show ¬ 4 ≤ D 0 9 by omega), hsp6, bnd_er], by omega, by omega, by omega⟩), (by exact om160)⟩⟩
      · refine r_aload_n hC dX10_readKnower_72 1 rfl ?_
        refine r_getr hC 4 (ci := 10) rfl u10_in (by decide) mT_4_239 dX10_readKnower_73 ka0 rfl rfl hbr ?_
        refine r_getrN hC 26 (ci := 9) rfl u9_in (by decide) nF_26 dX10_readKnower_76 krm rfl rfl hns ?_
        refine r_iload_n hC dX10_readKnower_79 0 rfl ?_
        refine x_iaload hC kns lns (by decide) rfl rfl dX10_readKnower_80 (by omega) (by omega) (fun x164_ e164 => ?_)
        refine r_if_eq hC (tgt := 89) dX10_readKnower_81 (by decide) (fun c165 => ?_) (fun c165 => ?_)
        · refine r_aload_n hC dX10_readKnower_89 1 rfl ?_
          refine r_callV hC (As := []) (rest := []) (ci := 10) (e_X10_goesOn g (xL X) K len I150 J146 R hs150 a0 ka0 (by omega)) mT_5_199 mT_1_10 mT_5_196 mT_5_198 mP_49 okX10_goesOn ⟨by decide, by decide⟩ rfl (by show kO (K a0) = _; rw [ka0]; rfl) rfl rfl (Nat.le_of_ble_eq_true rfl) ⟨by decide, by decide⟩ dX10_readKnower_90 (aV2 (F := fun st M => P g X 3 93 [(1, .int x152_), (0, .ref a0)] st _ _ M) (M := (K, len, I150, J146, R)) fun I166 J166 h166 => ?_)
          obtain ⟨hs166, hf166, hfj166, k166_0, k166_1, k166_2⟩ := h166
          show P g X 3 93 [(1, .int x152_), (0, .ref a0)] [] _ _ (K, len, I166, J166, R)
          have hF166 : Fr K [(10, 9), (10, 10), (11, 8), (11, 9), (11, 10), (11, 11), (11, 12), (11, 13), (80, 999), (81, 999), (83, 999), (84, 999)] I I166 := hF150.trans hf166 rfl rfl
          have hFJ166 : Fr K [(11, 14), (82, 999)] J J166 := hFJ146.trans hfj166 rfl rfl
          have om166 := om150.mv hf166 rfl
          refine r_aload_n hC dX10_readKnower_93 1 rfl ?_
          refine r_ldcwS hC (i := 59) (by decide) rfl rfl dX10_readKnower_94 ?_
          refine r_iconst hC (v := (0)) dX10_readKnower_97 (by decide) (by decide) (fun x167_ e167 t167 => ?_)
          refine r_sipush hC (v := (999)) dX10_readKnower_98 (by decide) (by decide) (fun x168_ e168 t168 => ?_)
          refine r_callV hC (As := [.ref (g.2.2.1 59), .int x167_, .int x168_]) (rest := []) (ci := 10) (e_X10_readPart g (xL X) K len I166 J166 R hs166 a0 ka0 59 (by decide) x167_ x168_ (by omega)) mT_6_1 mT_1_10 mT_5_238 mT_6_0 mP_56 okX10_readPart ⟨by decide, by decide⟩ rfl (by show kO (K a0) = _; rw [ka0]; rfl) rfl rfl (Nat.le_of_ble_eq_true rfl) ⟨by decide, by decide⟩ dX10_readKnower_101 (aI2 (F := fun st M => P g X 3 104 [(1, .int x152_), (0, .ref a0)] st _ _ M) (M := (K, len, I166, J166, R)) fun x169_ I169 J169 h169 => ?_)
          obtain ⟨hs169, hf169, hfj169, k169_0, k169_1, k169_2⟩ := h169
          show P g X 3 104 [(1, .int x152_), (0, .ref a0)] [.int x169_] _ _ (K, len, I169, J169, R)
          have hF169 : Fr K [(10, 9), (10, 10), (11, 8), (11, 9), (11, 10), (11, 11), (11, 12), (11, 13), (80, 999), (81, 999), (83, 999), (84, 999)] I I169 := hF166.trans hf169 rfl rfl
          have hFJ169 : Fr K [(11, 14), (82, 999)] J J169 := hFJ166.trans hfj169 rfl rfl
          have om169 := om166.mv hf169 rfl
          refine r_istore_n hC (lv' := [(2, .int x169_), (1, .int x152_), (0, .ref a0)]) dX10_readKnower_104 (by decide) rfl ?_
          refine r_aload_n hC dX10_readKnower_105 2 rfl ?_
          refine r_geti hC 9 (ci := 10) rfl u10_in (by decide) mT_5_4 dX10_readKnower_106 ka0 rfl rfl (fun x170_ e170 => ?_)
          have f170 : x170_.toInt = (I169 a0 9).toInt := by rw [e170]
          refine r_iconst hC (v := (5)) dX10_readKnower_109 (by decide) (by decide) (fun x171_ e171 t171 => ?_)
          refine r_icmp_ne hC (tgt := 114) dX10_readKnower_110 (by decide) (fun c172 => ?_) (fun c172 => ?_)
          · exfalso; omega
          have hG0 : I169 rm 0 = G0 := (Eq.trans (hf169.get krm rfl) (Eq.trans (hf166.get krm rfl) (Eq.trans (hf150.get krm rfl) (Eq.trans (hf146.get krm rfl) (Eq.trans (hf145.get krm rfl) (Eq.trans (hf6.get krm rfl) (Eq.trans (hf3.get krm rfl) eG0.symm)))))))
          have hG0t : (I169 rm 0).toInt = G0.toInt := congrArg Int32.toInt hG0
          have hG1 : I169 rm 1 = G1 := (Eq.trans (hf169.get krm rfl) (Eq.trans (hf166.get krm rfl) (Eq.trans (hf150.get krm rfl) (Eq.trans (hf146.get krm rfl) (Eq.trans (hf145.get krm rfl) (Eq.trans (hf6.get krm rfl) (Eq.trans (hf3.get krm rfl) eG1.symm)))))))
          have hG1t : (I169 rm 1).toInt = G1.toInt := congrArg Int32.toInt hG1
          have hG2 : I169 rm 2 = G2 := (Eq.trans (hf169.get krm rfl) (Eq.trans (hf166.get krm rfl) (Eq.trans (hf150.get krm rfl) (Eq.trans (hf146.get krm rfl) (Eq.trans (hf145.get krm rfl) (Eq.trans (hf6.get krm rfl) (Eq.trans (hf3.get krm rfl) eG2.symm)))))))
          have hG2t : (I169 rm 2).toInt = G2.toInt := congrArg Int32.toInt hG2
          have hG3 : I169 rm 3 = G3 := (Eq.trans (hf169.get krm rfl) (Eq.trans (hf166.get krm rfl) (Eq.trans (hf150.get krm rfl) (Eq.trans (hf146.get krm rfl) (Eq.trans (hf145.get krm rfl) (Eq.trans (hf6.get krm rfl) (Eq.trans (hf3.get krm rfl) eG3.symm)))))))
          have hG3t : (I169 rm 3).toInt = G3.toInt := congrArg Int32.toInt hG3
          have hG4 : I169 rm 4 = G4 := (Eq.trans (hf169.get krm rfl) (Eq.trans (hf166.get krm rfl) (Eq.trans (hf150.get krm rfl) (Eq.trans (hf146.get krm rfl) (Eq.trans (hf145.get krm rfl) (Eq.trans (hf6.get krm rfl) (Eq.trans (hf3.get krm rfl) eG4.symm)))))))
          have hG4t : (I169 rm 4).toInt = G4.toInt := congrArg Int32.toInt hG4
          have hG5 : I169 rm 5 = G5 := (Eq.trans (hf169.get krm rfl) (Eq.trans (hf166.get krm rfl) (Eq.trans (hf150.get krm rfl) (Eq.trans (hf146.get krm rfl) (Eq.trans (hf145.get krm rfl) (Eq.trans (hf6.get krm rfl) (Eq.trans (hf3.get krm rfl) eG5.symm)))))))
          have hG5t : (I169 rm 5).toInt = G5.toInt := congrArg Int32.toInt hG5
          have hG6 : I169 rm 6 = G6 := (Eq.trans (hf169.get krm rfl) (Eq.trans (hf166.get krm rfl) (Eq.trans (hf150.get krm rfl) (Eq.trans (hf146.get krm rfl) (Eq.trans (hf145.get krm rfl) (Eq.trans (hf6.get krm rfl) (Eq.trans (hf3.get krm rfl) eG6.symm)))))))
          have hG6t : (I169 rm 6).toInt = G6.toInt := congrArg Int32.toInt hG6
          have hG7 : I169 rm 7 = G7 := (Eq.trans (hf169.get krm rfl) (Eq.trans (hf166.get krm rfl) (Eq.trans (hf150.get krm rfl) (Eq.trans (hf146.get krm rfl) (Eq.trans (hf145.get krm rfl) (Eq.trans (hf6.get krm rfl) (Eq.trans (hf3.get krm rfl) eG7.symm)))))))
          have hG7t : (I169 rm 7).toInt = G7.toInt := congrArg Int32.toInt hG7
          have hG8 : I169 rm 8 = G8 := (Eq.trans (hf169.get krm rfl) (Eq.trans (hf166.get krm rfl) (Eq.trans (hf150.get krm rfl) (Eq.trans (hf146.get krm rfl) (Eq.trans (hf145.get krm rfl) (Eq.trans (hf6.get krm rfl) (Eq.trans (hf3.get krm rfl) eG8.symm)))))))
          have hG8t : (I169 rm 8).toInt = G8.toInt := congrArg Int32.toInt hG8
          have hG9 : I169 rm 9 = x5_ := (Eq.trans (hf169.get krm rfl) (Eq.trans (hf166.get krm rfl) (Eq.trans (hf150.get krm rfl) (Eq.trans (hf146.get krm rfl) (Eq.trans (hf145.get krm rfl) (Eq.trans (hf6.get krm rfl) e5.symm))))))
          have hG9t : (I169 rm 9).toInt = x5_.toInt := congrArg Int32.toInt hG9
          have hG10 : I169 rm 10 = N1 := (Eq.trans (hf169.get krm rfl) (Eq.trans (hf166.get krm rfl) (Eq.trans (hf150.get krm rfl) (Eq.trans (hf146.get krm rfl) (Eq.trans (hf145.get krm rfl) eN1.symm)))))
          have hG10t : (I169 rm 10).toInt = N1.toInt := congrArg Int32.toInt hG10
          exact r_vret hC hQ hlk hr (by decide) (by decide) dX10_readKnower_113 ⟨_, _, rfl, rfl, ⟨hs169, hF169, hFJ169, (by first | exact Or.inl ⟨(upD NOF 0 9 (NOF 0 9 + 1)), _, by unfold sKnower; rw [pif_f (show ¬ 4 ≤ D 0 9 by omega), hsp6, bnd_er], (nx_le hp).2, tk3, ⟨by unfold SM; simp [upD, adN]; omega, nm3.cg (by simp [upD]) (by intro j; simp [upD]), pg3.cg (by simp [upD]) (by intro j; simp [upD]) (by simp [upD]) (by intro j; simp [upD])⟩, fq3⟩ | exact Or.inr ⟨kf6, qf6, by unfold sKnower; rw [pif_f (show ¬ 4 ≤ D 0 9 by omega), hsp6, bnd_er], by omega, by omega, by omega⟩), (by exact om169)⟩⟩
        · refine r_aload_n hC dX10_readKnower_84 1 rfl ?_
          refine r_iconst hC (v := (2)) dX10_readKnower_85 (by decide) (by decide) (fun x173_ e173 t173 => ?_)
          refine r_callV hC (As := [.int x173_]) (rest := []) (ci := 10) (e_X10_wrong g (xL X) K len I150 J146 R hs150 a0 ka0 x173_ (by omega)) mT_5_236 mT_1_10 mT_5_233 mT_5_235 mP_55 okX10_wrong ⟨by decide, by decide⟩ rfl (by show kO (K a0) = _; rw [ka0]; rfl) rfl rfl (Nat.le_of_ble_eq_true rfl) ⟨by decide, by decide⟩ dX10_readKnower_86 (aV1 (F := fun st M => P g X 3 89 [(1, .int x152_), (0, .ref a0)] st _ _ M) (M := (K, len, I150, J146, R)) fun I174 h174 => ?_)
          obtain ⟨hs174, hf174, k174_0, k174_1, k174_2⟩ := h174
          show P g X 3 89 [(1, .int x152_), (0, .ref a0)] [] _ _ (K, len, I174, J146, R)
          have hF174 : Fr K [(10, 9), (10, 10), (11, 8), (11, 9), (11, 10), (11, 11), (11, 12), (11, 13), (80, 999), (81, 999), (83, 999), (84, 999)] I I174 := hF150.trans hf174 rfl rfl
          have om174 := om150.mv hf174 rfl
          refine r_aload_n hC dX10_readKnower_89 1 rfl ?_
          refine r_callV hC (As := []) (rest := []) (ci := 10) (e_X10_goesOn g (xL X) K len I174 J146 R hs174 a0 ka0 (by omega)) mT_5_199 mT_1_10 mT_5_196 mT_5_198 mP_49 okX10_goesOn ⟨by decide, by decide⟩ rfl (by show kO (K a0) = _; rw [ka0]; rfl) rfl rfl (Nat.le_of_ble_eq_true rfl) ⟨by decide, by decide⟩ dX10_readKnower_90 (aV2 (F := fun st M => P g X 3 93 [(1, .int x152_), (0, .ref a0)] st _ _ M) (M := (K, len, I174, J146, R)) fun I175 J175 h175 => ?_)
          obtain ⟨hs175, hf175, hfj175, k175_0, k175_1, k175_2⟩ := h175
          show P g X 3 93 [(1, .int x152_), (0, .ref a0)] [] _ _ (K, len, I175, J175, R)
          have hF175 : Fr K [(10, 9), (10, 10), (11, 8), (11, 9), (11, 10), (11, 11), (11, 12), (11, 13), (80, 999), (81, 999), (83, 999), (84, 999)] I I175 := hF174.trans hf175 rfl rfl
          have hFJ175 : Fr K [(11, 14), (82, 999)] J J175 := hFJ146.trans hfj175 rfl rfl
          have om175 := om174.mv hf175 rfl
          refine r_aload_n hC dX10_readKnower_93 1 rfl ?_
          refine r_ldcwS hC (i := 59) (by decide) rfl rfl dX10_readKnower_94 ?_
          refine r_iconst hC (v := (0)) dX10_readKnower_97 (by decide) (by decide) (fun x176_ e176 t176 => ?_)
          refine r_sipush hC (v := (999)) dX10_readKnower_98 (by decide) (by decide) (fun x177_ e177 t177 => ?_)
          refine r_callV hC (As := [.ref (g.2.2.1 59), .int x176_, .int x177_]) (rest := []) (ci := 10) (e_X10_readPart g (xL X) K len I175 J175 R hs175 a0 ka0 59 (by decide) x176_ x177_ (by omega)) mT_6_1 mT_1_10 mT_5_238 mT_6_0 mP_56 okX10_readPart ⟨by decide, by decide⟩ rfl (by show kO (K a0) = _; rw [ka0]; rfl) rfl rfl (Nat.le_of_ble_eq_true rfl) ⟨by decide, by decide⟩ dX10_readKnower_101 (aI2 (F := fun st M => P g X 3 104 [(1, .int x152_), (0, .ref a0)] st _ _ M) (M := (K, len, I175, J175, R)) fun x178_ I178 J178 h178 => ?_)
          obtain ⟨hs178, hf178, hfj178, k178_0, k178_1, k178_2⟩ := h178
          show P g X 3 104 [(1, .int x152_), (0, .ref a0)] [.int x178_] _ _ (K, len, I178, J178, R)
          have hF178 : Fr K [(10, 9), (10, 10), (11, 8), (11, 9), (11, 10), (11, 11), (11, 12), (11, 13), (80, 999), (81, 999), (83, 999), (84, 999)] I I178 := hF175.trans hf178 rfl rfl
          have hFJ178 : Fr K [(11, 14), (82, 999)] J J178 := hFJ175.trans hfj178 rfl rfl
          have om178 := om175.mv hf178 rfl
          refine r_istore_n hC (lv' := [(2, .int x178_), (1, .int x152_), (0, .ref a0)]) dX10_readKnower_104 (by decide) rfl ?_
          refine r_aload_n hC dX10_readKnower_105 2 rfl ?_
          refine r_geti hC 9 (ci := 10) rfl u10_in (by decide) mT_5_4 dX10_readKnower_106 ka0 rfl rfl (fun x179_ e179 => ?_)
          have f179 : x179_.toInt = (I178 a0 9).toInt := by rw [e179]
          refine r_iconst hC (v := (5)) dX10_readKnower_109 (by decide) (by decide) (fun x180_ e180 t180 => ?_)
          refine r_icmp_ne hC (tgt := 114) dX10_readKnower_110 (by decide) (fun c181 => ?_) (fun c181 => ?_)
          · exfalso; omega
          have hG0 : I178 rm 0 = G0 := (Eq.trans (hf178.get krm rfl) (Eq.trans (hf175.get krm rfl) (Eq.trans (hf174.get krm rfl) (Eq.trans (hf150.get krm rfl) (Eq.trans (hf146.get krm rfl) (Eq.trans (hf145.get krm rfl) (Eq.trans (hf6.get krm rfl) (Eq.trans (hf3.get krm rfl) eG0.symm))))))))
          have hG0t : (I178 rm 0).toInt = G0.toInt := congrArg Int32.toInt hG0
          have hG1 : I178 rm 1 = G1 := (Eq.trans (hf178.get krm rfl) (Eq.trans (hf175.get krm rfl) (Eq.trans (hf174.get krm rfl) (Eq.trans (hf150.get krm rfl) (Eq.trans (hf146.get krm rfl) (Eq.trans (hf145.get krm rfl) (Eq.trans (hf6.get krm rfl) (Eq.trans (hf3.get krm rfl) eG1.symm))))))))
          have hG1t : (I178 rm 1).toInt = G1.toInt := congrArg Int32.toInt hG1
          have hG2 : I178 rm 2 = G2 := (Eq.trans (hf178.get krm rfl) (Eq.trans (hf175.get krm rfl) (Eq.trans (hf174.get krm rfl) (Eq.trans (hf150.get krm rfl) (Eq.trans (hf146.get krm rfl) (Eq.trans (hf145.get krm rfl) (Eq.trans (hf6.get krm rfl) (Eq.trans (hf3.get krm rfl) eG2.symm))))))))
          have hG2t : (I178 rm 2).toInt = G2.toInt := congrArg Int32.toInt hG2
          have hG3 : I178 rm 3 = G3 := (Eq.trans (hf178.get krm rfl) (Eq.trans (hf175.get krm rfl) (Eq.trans (hf174.get krm rfl) (Eq.trans (hf150.get krm rfl) (Eq.trans (hf146.get krm rfl) (Eq.trans (hf145.get krm rfl) (Eq.trans (hf6.get krm rfl) (Eq.trans (hf3.get krm rfl) eG3.symm))))))))
          have hG3t : (I178 rm 3).toInt = G3.toInt := congrArg Int32.toInt hG3
          have hG4 : I178 rm 4 = G4 := (Eq.trans (hf178.get krm rfl) (Eq.trans (hf175.get krm rfl) (Eq.trans (hf174.get krm rfl) (Eq.trans (hf150.get krm rfl) (Eq.trans (hf146.get krm rfl) (Eq.trans (hf145.get krm rfl) (Eq.trans (hf6.get krm rfl) (Eq.trans (hf3.get krm rfl) eG4.symm))))))))
          have hG4t : (I178 rm 4).toInt = G4.toInt := congrArg Int32.toInt hG4
          have hG5 : I178 rm 5 = G5 := (Eq.trans (hf178.get krm rfl) (Eq.trans (hf175.get krm rfl) (Eq.trans (hf174.get krm rfl) (Eq.trans (hf150.get krm rfl) (Eq.trans (hf146.get krm rfl) (Eq.trans (hf145.get krm rfl) (Eq.trans (hf6.get krm rfl) (Eq.trans (hf3.get krm rfl) eG5.symm))))))))
          have hG5t : (I178 rm 5).toInt = G5.toInt := congrArg Int32.toInt hG5
          have hG6 : I178 rm 6 = G6 := (Eq.trans (hf178.get krm rfl) (Eq.trans (hf175.get krm rfl) (Eq.trans (hf174.get krm rfl) (Eq.trans (hf150.get krm rfl) (Eq.trans (hf146.get krm rfl) (Eq.trans (hf145.get krm rfl) (Eq.trans (hf6.get krm rfl) (Eq.trans (hf3.get krm rfl) eG6.symm))))))))
          have hG6t : (I178 rm 6).toInt = G6.toInt := congrArg Int32.toInt hG6
          have hG7 : I178 rm 7 = G7 := (Eq.trans (hf178.get krm rfl) (Eq.trans (hf175.get krm rfl) (Eq.trans (hf174.get krm rfl) (Eq.trans (hf150.get krm rfl) (Eq.trans (hf146.get krm rfl) (Eq.trans (hf145.get krm rfl) (Eq.trans (hf6.get krm rfl) (Eq.trans (hf3.get krm rfl) eG7.symm))))))))
          have hG7t : (I178 rm 7).toInt = G7.toInt := congrArg Int32.toInt hG7
          have hG8 : I178 rm 8 = G8 := (Eq.trans (hf178.get krm rfl) (Eq.trans (hf175.get krm rfl) (Eq.trans (hf174.get krm rfl) (Eq.trans (hf150.get krm rfl) (Eq.trans (hf146.get krm rfl) (Eq.trans (hf145.get krm rfl) (Eq.trans (hf6.get krm rfl) (Eq.trans (hf3.get krm rfl) eG8.symm))))))))
          have hG8t : (I178 rm 8).toInt = G8.toInt := congrArg Int32.toInt hG8
          have hG9 : I178 rm 9 = x5_ := (Eq.trans (hf178.get krm rfl) (Eq.trans (hf175.get krm rfl) (Eq.trans (hf174.get krm rfl) (Eq.trans (hf150.get krm rfl) (Eq.trans (hf146.get krm rfl) (Eq.trans (hf145.get krm rfl) (Eq.trans (hf6.get krm rfl) e5.symm)))))))
          have hG9t : (I178 rm 9).toInt = x5_.toInt := congrArg Int32.toInt hG9
          have hG10 : I178 rm 10 = N1 := (Eq.trans (hf178.get krm rfl) (Eq.trans (hf175.get krm rfl) (Eq.trans (hf174.get krm rfl) (Eq.trans (hf150.get krm rfl) (Eq.trans (hf146.get krm rfl) (Eq.trans (hf145.get krm rfl) eN1.symm))))))
          have hG10t : (I178 rm 10).toInt = N1.toInt := congrArg Int32.toInt hG10
          exact r_vret hC hQ hlk hr (by decide) (by decide) dX10_readKnower_113 ⟨_, _, rfl, rfl, ⟨hs178, hF178, hFJ178, (by first | exact Or.inl ⟨(upD NOF 0 9 (NOF 0 9 + 1)), _, by unfold sKnower; rw [pif_f (show ¬ 4 ≤ D 0 9 by omega), hsp6, bnd_er], (nx_le hp).2, tk3, ⟨by unfold SM; simp [upD, adN]; omega, nm3.cg (by simp [upD]) (by intro j; simp [upD]), pg3.cg (by simp [upD]) (by intro j; simp [upD]) (by simp [upD]) (by intro j; simp [upD])⟩, fq3⟩ | exact Or.inr ⟨kf6, qf6, by unfold sKnower; rw [pif_f (show ¬ 4 ≤ D 0 9 by omega), hsp6, bnd_er], by omega, by omega, by omega⟩), (by exact om178)⟩⟩
  · refine r_aload_n hC dX10_readKnower_12 0 rfl ?_
    refine r_iconst hC (v := (1)) dX10_readKnower_13 (by decide) (by decide) (fun x182_ e182 t182 => ?_)
    refine r_aload_n hC dX10_readKnower_14 0 rfl ?_
    refine r_getr hC 4 (ci := 10) rfl u10_in (by decide) mT_4_239 dX10_readKnower_15 ka0 rfl rfl hbr ?_
    refine r_getiN hC 9 (ci := 9) rfl u9_in (by decide) nF_9 dX10_readKnower_18 krm rfl rfl (fun x183_ e183 => ?_)
    have r183 := hs3.rng krm rfl e183
    have f183 : x183_.toInt = (I3 rm 9).toInt := by rw [e183]
    have w183 : x183_ = x1_ := by rw [e183]; exact (Eq.trans (hf3.get krm rfl) e1.symm)
    have wt183 : x183_.toInt = x1_.toInt := by rw [w183]
    have q10 : I3 rm 10 = G10 := (Eq.trans (hf3.get krm rfl) eG10.symm)
    have q10t : (I3 rm 10).toInt = G10.toInt := congrArg Int32.toInt q10
    refine r_callV hC (As := [.int x182_, .int x183_]) (rest := []) (ci := 10) (e_X10_readFresh g (xL X) K len I3 J3 R hs3 a0 ka0 x182_ x183_ rm hbr krm (by omega)) mT_6_23 mT_1_10 mT_6_20 mT_6_22 mP_60 okX10_readFresh ⟨by decide, by decide⟩ rfl (by show kO (K a0) = _; rw [ka0]; rfl) rfl rfl (Nat.le_of_ble_eq_true rfl) ⟨by decide, by decide⟩ dX10_readKnower_21 (aV2 (F := fun st M => P g X 3 24 [(0, .ref a0)] st _ _ M) (M := (K, len, I3, J3, R)) fun I184 J184 h184 => ?_)
    obtain ⟨hs184, hf184, hfj184, k184_0, k184_1, k184_2, k184_3⟩ := h184
    show P g X 3 24 [(0, .ref a0)] [] _ _ (K, len, I184, J184, R)
    have hF184 : Fr K [(10, 9), (10, 10), (11, 8), (11, 9), (11, 10), (11, 11), (11, 12), (11, 13), (80, 999), (81, 999), (83, 999), (84, 999)] I I184 := hF3.trans hf184 rfl rfl
    have hFJ184 : Fr K [(11, 14), (82, 999)] J J184 := hFJ3.trans hfj184 rfl rfl
    have om184 := om3.tr k184_3
    obtain ⟨N1, eN1⟩ : ∃ z : Int32, z = I184 rm 10 := ⟨_, rfl⟩
    have fN1 : N1.toInt = (I184 rm 10).toInt := by rw [eN1]
    have rN1 := hs184.rng krm rfl eN1
    refine r_aload_n hC dX10_readKnower_24 0 rfl ?_
    refine r_ldcwS hC (i := 58) (by decide) rfl rfl dX10_readKnower_25 ?_
    refine r_callV hC (As := [.ref (g.2.2.1 58)]) (rest := []) (ci := 10) (e_X10_isWord g (xL X) K len I184 J184 R hs184 a0 ka0 58 (by decide) (by omega)) mT_5_223 mT_1_10 mT_5_220 mT_5_222 mP_53 okX10_isWord ⟨by decide, by decide⟩ rfl (by show kO (K a0) = _; rw [ka0]; rfl) rfl rfl (Nat.le_of_ble_eq_true rfl) ⟨by decide, by decide⟩ dX10_readKnower_28 (aI0 (F := fun st M => P g X 3 31 [(0, .ref a0)] st _ _ M) (M := (K, len, I184, J184, R)) fun x185_ h185 => ?_)
    have k185_0 := h185
    show P g X 3 31 [(0, .ref a0)] [.int x185_] _ _ (K, len, I184, J184, R)
    refine r_if_ne hC (tgt := 39) dX10_readKnower_31 (by decide) (fun c186 => ?_) (fun c186 => ?_)
    · exfalso; omega
    refine r_aload_n hC dX10_readKnower_34 0 rfl ?_
    refine r_iconst hC (v := (1)) dX10_readKnower_35 (by decide) (by decide) (fun x187_ e187 t187 => ?_)
    refine r_callV hC (As := [.int x187_]) (rest := []) (ci := 10) (e_X10_wrong g (xL X) K len I184 J184 R hs184 a0 ka0 x187_ (by omega)) mT_5_236 mT_1_10 mT_5_233 mT_5_235 mP_55 okX10_wrong ⟨by decide, by decide⟩ rfl (by show kO (K a0) = _; rw [ka0]; rfl) rfl rfl (Nat.le_of_ble_eq_true rfl) ⟨by decide, by decide⟩ dX10_readKnower_36 (aV1 (F := fun st M => P g X 3 39 [(0, .ref a0)] st _ _ M) (M := (K, len, I184, J184, R)) fun I188 h188 => ?_)
    obtain ⟨hs188, hf188, k188_0, k188_1, k188_2⟩ := h188
    show P g X 3 39 [(0, .ref a0)] [] _ _ (K, len, I188, J184, R)
    have hF188 : Fr K [(10, 9), (10, 10), (11, 8), (11, 9), (11, 10), (11, 11), (11, 12), (11, 13), (80, 999), (81, 999), (83, 999), (84, 999)] I I188 := hF184.trans hf188 rfl rfl
    have om188 := om184.mv hf188 rfl
    refine r_aload_n hC dX10_readKnower_39 0 rfl ?_
    refine r_callV hC (As := []) (rest := []) (ci := 10) (e_X10_goesOn g (xL X) K len I188 J184 R hs188 a0 ka0 (by omega)) mT_5_199 mT_1_10 mT_5_196 mT_5_198 mP_49 okX10_goesOn ⟨by decide, by decide⟩ rfl (by show kO (K a0) = _; rw [ka0]; rfl) rfl rfl (Nat.le_of_ble_eq_true rfl) ⟨by decide, by decide⟩ dX10_readKnower_40 (aV2 (F := fun st M => P g X 3 43 [(0, .ref a0)] st _ _ M) (M := (K, len, I188, J184, R)) fun I189 J189 h189 => ?_)
    obtain ⟨hs189, hf189, hfj189, k189_0, k189_1, k189_2⟩ := h189
    show P g X 3 43 [(0, .ref a0)] [] _ _ (K, len, I189, J189, R)
    have hF189 : Fr K [(10, 9), (10, 10), (11, 8), (11, 9), (11, 10), (11, 11), (11, 12), (11, 13), (80, 999), (81, 999), (83, 999), (84, 999)] I I189 := hF188.trans hf189 rfl rfl
    have hFJ189 : Fr K [(11, 14), (82, 999)] J J189 := hFJ184.trans hfj189 rfl rfl
    have om189 := om188.mv hf189 rfl
    refine r_aload_n hC dX10_readKnower_43 0 rfl ?_
    refine r_callV hC (As := []) (rest := []) (ci := 10) (e_X10_isName g (xL X) K len I189 J189 R hs189 a0 ka0 (by omega)) mT_6_27 mT_1_10 mT_6_24 mT_6_26 mP_61 okX10_isName ⟨by decide, by decide⟩ rfl (by show kO (K a0) = _; rw [ka0]; rfl) rfl rfl (Nat.le_of_ble_eq_true rfl) ⟨by decide, by decide⟩ dX10_readKnower_44 (aI0 (F := fun st M => P g X 3 47 [(0, .ref a0)] st _ _ M) (M := (K, len, I189, J189, R)) fun x190_ h190 => ?_)
    have k190_0 := h190
    show P g X 3 47 [(0, .ref a0)] [.int x190_] _ _ (K, len, I189, J189, R)
    refine r_if_ne hC (tgt := 55) dX10_readKnower_47 (by decide) (fun c191 => ?_) (fun c191 => ?_)
    · exfalso; omega
    refine r_aload_n hC dX10_readKnower_50 0 rfl ?_
    refine r_iconst hC (v := (1)) dX10_readKnower_51 (by decide) (by decide) (fun x192_ e192 t192 => ?_)
    refine r_callV hC (As := [.int x192_]) (rest := []) (ci := 10) (e_X10_wrong g (xL X) K len I189 J189 R hs189 a0 ka0 x192_ (by omega)) mT_5_236 mT_1_10 mT_5_233 mT_5_235 mP_55 okX10_wrong ⟨by decide, by decide⟩ rfl (by show kO (K a0) = _; rw [ka0]; rfl) rfl rfl (Nat.le_of_ble_eq_true rfl) ⟨by decide, by decide⟩ dX10_readKnower_52 (aV1 (F := fun st M => P g X 3 55 [(0, .ref a0)] st _ _ M) (M := (K, len, I189, J189, R)) fun I193 h193 => ?_)
    obtain ⟨hs193, hf193, k193_0, k193_1, k193_2⟩ := h193
    show P g X 3 55 [(0, .ref a0)] [] _ _ (K, len, I193, J189, R)
    have hF193 : Fr K [(10, 9), (10, 10), (11, 8), (11, 9), (11, 10), (11, 11), (11, 12), (11, 13), (80, 999), (81, 999), (83, 999), (84, 999)] I I193 := hF189.trans hf193 rfl rfl
    have om193 := om189.mv hf193 rfl
    refine r_aload_n hC dX10_readKnower_55 0 rfl ?_
    refine r_getr hC 4 (ci := 10) rfl u10_in (by decide) mT_4_239 dX10_readKnower_56 ka0 rfl rfl hbr ?_
    refine r_aload_n hC dX10_readKnower_59 0 rfl ?_
    refine r_getj hC 14 (ci := 10) rfl u10_in (by decide) mT_5_9 dX10_readKnower_60 ka0 rfl rfl (fun y194_ e194 => ?_)
    have fj194 : y194_.toInt = (J189 a0 14).toInt := by rw [e194]
    refine r_callV hC (As := [.long y194_]) (rest := []) (ci := 9) (c_X9_find g (xL X) K len I193 J189 R hs193 rm krm y194_) mT_6_36 mT_1_17 mT_6_33 mT_6_34 mT_6_35 okX9_find ⟨by decide, by decide⟩ rfl (by show kO (K rm) = _; rw [krm]; rfl) rfl rfl (Nat.le_of_ble_eq_true rfl) ⟨by decide, by decide⟩ dX10_readKnower_63 (aI0 (F := fun st M => P g X 3 66 [(0, .ref a0)] st _ _ M) (M := (K, len, I193, J189, R)) fun x195_ h195 => ?_)
    obtain ⟨k195_0, k195_1⟩ := h195
    show P g X 3 66 [(0, .ref a0)] [.int x195_] _ _ (K, len, I193, J189, R)
    refine r_istore_n hC (lv' := [(1, .int x195_), (0, .ref a0)]) dX10_readKnower_66 (by decide) rfl ?_
    refine r_iload_n hC dX10_readKnower_67 0 rfl ?_
    refine r_iconst hC (v := (-1)) dX10_readKnower_68 (by decide) (by decide) (fun x196_ e196 t196 => ?_)
    refine r_icmp_eq hC (tgt := 84) dX10_readKnower_69 (by decide) (fun c197 => ?_) (fun c197 => ?_)
    · refine r_aload_n hC dX10_readKnower_84 1 rfl ?_
      refine r_iconst hC (v := (2)) dX10_readKnower_85 (by decide) (by decide) (fun x198_ e198 t198 => ?_)
      refine r_callV hC (As := [.int x198_]) (rest := []) (ci := 10) (e_X10_wrong g (xL X) K len I193 J189 R hs193 a0 ka0 x198_ (by omega)) mT_5_236 mT_1_10 mT_5_233 mT_5_235 mP_55 okX10_wrong ⟨by decide, by decide⟩ rfl (by show kO (K a0) = _; rw [ka0]; rfl) rfl rfl (Nat.le_of_ble_eq_true rfl) ⟨by decide, by decide⟩ dX10_readKnower_86 (aV1 (F := fun st M => P g X 3 89 [(1, .int x195_), (0, .ref a0)] st _ _ M) (M := (K, len, I193, J189, R)) fun I199 h199 => ?_)
      obtain ⟨hs199, hf199, k199_0, k199_1, k199_2⟩ := h199
      show P g X 3 89 [(1, .int x195_), (0, .ref a0)] [] _ _ (K, len, I199, J189, R)
      have hF199 : Fr K [(10, 9), (10, 10), (11, 8), (11, 9), (11, 10), (11, 11), (11, 12), (11, 13), (80, 999), (81, 999), (83, 999), (84, 999)] I I199 := hF193.trans hf199 rfl rfl
      have om199 := om193.mv hf199 rfl
      refine r_aload_n hC dX10_readKnower_89 1 rfl ?_
      refine r_callV hC (As := []) (rest := []) (ci := 10) (e_X10_goesOn g (xL X) K len I199 J189 R hs199 a0 ka0 (by omega)) mT_5_199 mT_1_10 mT_5_196 mT_5_198 mP_49 okX10_goesOn ⟨by decide, by decide⟩ rfl (by show kO (K a0) = _; rw [ka0]; rfl) rfl rfl (Nat.le_of_ble_eq_true rfl) ⟨by decide, by decide⟩ dX10_readKnower_90 (aV2 (F := fun st M => P g X 3 93 [(1, .int x195_), (0, .ref a0)] st _ _ M) (M := (K, len, I199, J189, R)) fun I200 J200 h200 => ?_)
      obtain ⟨hs200, hf200, hfj200, k200_0, k200_1, k200_2⟩ := h200
      show P g X 3 93 [(1, .int x195_), (0, .ref a0)] [] _ _ (K, len, I200, J200, R)
      have hF200 : Fr K [(10, 9), (10, 10), (11, 8), (11, 9), (11, 10), (11, 11), (11, 12), (11, 13), (80, 999), (81, 999), (83, 999), (84, 999)] I I200 := hF199.trans hf200 rfl rfl
      have hFJ200 : Fr K [(11, 14), (82, 999)] J J200 := hFJ189.trans hfj200 rfl rfl
      have om200 := om199.mv hf200 rfl
      refine r_aload_n hC dX10_readKnower_93 1 rfl ?_
      refine r_ldcwS hC (i := 59) (by decide) rfl rfl dX10_readKnower_94 ?_
      refine r_iconst hC (v := (0)) dX10_readKnower_97 (by decide) (by decide) (fun x201_ e201 t201 => ?_)
      refine r_sipush hC (v := (999)) dX10_readKnower_98 (by decide) (by decide) (fun x202_ e202 t202 => ?_)
      refine r_callV hC (As := [.ref (g.2.2.1 59), .int x201_, .int x202_]) (rest := []) (ci := 10) (e_X10_readPart g (xL X) K len I200 J200 R hs200 a0 ka0 59 (by decide) x201_ x202_ (by omega)) mT_6_1 mT_1_10 mT_5_238 mT_6_0 mP_56 okX10_readPart ⟨by decide, by decide⟩ rfl (by show kO (K a0) = _; rw [ka0]; rfl) rfl rfl (Nat.le_of_ble_eq_true rfl) ⟨by decide, by decide⟩ dX10_readKnower_101 (aI2 (F := fun st M => P g X 3 104 [(1, .int x195_), (0, .ref a0)] st _ _ M) (M := (K, len, I200, J200, R)) fun x203_ I203 J203 h203 => ?_)
      obtain ⟨hs203, hf203, hfj203, k203_0, k203_1, k203_2⟩ := h203
      show P g X 3 104 [(1, .int x195_), (0, .ref a0)] [.int x203_] _ _ (K, len, I203, J203, R)
      have hF203 : Fr K [(10, 9), (10, 10), (11, 8), (11, 9), (11, 10), (11, 11), (11, 12), (11, 13), (80, 999), (81, 999), (83, 999), (84, 999)] I I203 := hF200.trans hf203 rfl rfl
      have hFJ203 : Fr K [(11, 14), (82, 999)] J J203 := hFJ200.trans hfj203 rfl rfl
      have om203 := om200.mv hf203 rfl
      refine r_istore_n hC (lv' := [(2, .int x203_), (1, .int x195_), (0, .ref a0)]) dX10_readKnower_104 (by decide) rfl ?_
      refine r_aload_n hC dX10_readKnower_105 2 rfl ?_
      refine r_geti hC 9 (ci := 10) rfl u10_in (by decide) mT_5_4 dX10_readKnower_106 ka0 rfl rfl (fun x204_ e204 => ?_)
      have f204 : x204_.toInt = (I203 a0 9).toInt := by rw [e204]
      refine r_iconst hC (v := (5)) dX10_readKnower_109 (by decide) (by decide) (fun x205_ e205 t205 => ?_)
      refine r_icmp_ne hC (tgt := 114) dX10_readKnower_110 (by decide) (fun c206 => ?_) (fun c206 => ?_)
      · exfalso; omega
      have hG0 : I203 rm 0 = G0 := (Eq.trans (hf203.get krm rfl) (Eq.trans (hf200.get krm rfl) (Eq.trans (hf199.get krm rfl) (Eq.trans (hf193.get krm rfl) (Eq.trans (hf189.get krm rfl) (Eq.trans (hf188.get krm rfl) (Eq.trans (hf184.get krm rfl) (Eq.trans (hf3.get krm rfl) eG0.symm))))))))
      have hG0t : (I203 rm 0).toInt = G0.toInt := congrArg Int32.toInt hG0
      have hG1 : I203 rm 1 = G1 := (Eq.trans (hf203.get krm rfl) (Eq.trans (hf200.get krm rfl) (Eq.trans (hf199.get krm rfl) (Eq.trans (hf193.get krm rfl) (Eq.trans (hf189.get krm rfl) (Eq.trans (hf188.get krm rfl) (Eq.trans (hf184.get krm rfl) (Eq.trans (hf3.get krm rfl) eG1.symm))))))))
      have hG1t : (I203 rm 1).toInt = G1.toInt := congrArg Int32.toInt hG1
      have hG2 : I203 rm 2 = G2 := (Eq.trans (hf203.get krm rfl) (Eq.trans (hf200.get krm rfl) (Eq.trans (hf199.get krm rfl) (Eq.trans (hf193.get krm rfl) (Eq.trans (hf189.get krm rfl) (Eq.trans (hf188.get krm rfl) (Eq.trans (hf184.get krm rfl) (Eq.trans (hf3.get krm rfl) eG2.symm))))))))
      have hG2t : (I203 rm 2).toInt = G2.toInt := congrArg Int32.toInt hG2
      have hG3 : I203 rm 3 = G3 := (Eq.trans (hf203.get krm rfl) (Eq.trans (hf200.get krm rfl) (Eq.trans (hf199.get krm rfl) (Eq.trans (hf193.get krm rfl) (Eq.trans (hf189.get krm rfl) (Eq.trans (hf188.get krm rfl) (Eq.trans (hf184.get krm rfl) (Eq.trans (hf3.get krm rfl) eG3.symm))))))))
      have hG3t : (I203 rm 3).toInt = G3.toInt := congrArg Int32.toInt hG3
      have hG4 : I203 rm 4 = G4 := (Eq.trans (hf203.get krm rfl) (Eq.trans (hf200.get krm rfl) (Eq.trans (hf199.get krm rfl) (Eq.trans (hf193.get krm rfl) (Eq.trans (hf189.get krm rfl) (Eq.trans (hf188.get krm rfl) (Eq.trans (hf184.get krm rfl) (Eq.trans (hf3.get krm rfl) eG4.symm))))))))
      have hG4t : (I203 rm 4).toInt = G4.toInt := congrArg Int32.toInt hG4
      have hG5 : I203 rm 5 = G5 := (Eq.trans (hf203.get krm rfl) (Eq.trans (hf200.get krm rfl) (Eq.trans (hf199.get krm rfl) (Eq.trans (hf193.get krm rfl) (Eq.trans (hf189.get krm rfl) (Eq.trans (hf188.get krm rfl) (Eq.trans (hf184.get krm rfl) (Eq.trans (hf3.get krm rfl) eG5.symm))))))))
      have hG5t : (I203 rm 5).toInt = G5.toInt := congrArg Int32.toInt hG5
      have hG6 : I203 rm 6 = G6 := (Eq.trans (hf203.get krm rfl) (Eq.trans (hf200.get krm rfl) (Eq.trans (hf199.get krm rfl) (Eq.trans (hf193.get krm rfl) (Eq.trans (hf189.get krm rfl) (Eq.trans (hf188.get krm rfl) (Eq.trans (hf184.get krm rfl) (Eq.trans (hf3.get krm rfl) eG6.symm))))))))
      have hG6t : (I203 rm 6).toInt = G6.toInt := congrArg Int32.toInt hG6
      have hG7 : I203 rm 7 = G7 := (Eq.trans (hf203.get krm rfl) (Eq.trans (hf200.get krm rfl) (Eq.trans (hf199.get krm rfl) (Eq.trans (hf193.get krm rfl) (Eq.trans (hf189.get krm rfl) (Eq.trans (hf188.get krm rfl) (Eq.trans (hf184.get krm rfl) (Eq.trans (hf3.get krm rfl) eG7.symm))))))))
      have hG7t : (I203 rm 7).toInt = G7.toInt := congrArg Int32.toInt hG7
      have hG8 : I203 rm 8 = G8 := (Eq.trans (hf203.get krm rfl) (Eq.trans (hf200.get krm rfl) (Eq.trans (hf199.get krm rfl) (Eq.trans (hf193.get krm rfl) (Eq.trans (hf189.get krm rfl) (Eq.trans (hf188.get krm rfl) (Eq.trans (hf184.get krm rfl) (Eq.trans (hf3.get krm rfl) eG8.symm))))))))
      have hG8t : (I203 rm 8).toInt = G8.toInt := congrArg Int32.toInt hG8
      have hG9 : I203 rm 9 = x183_ := (Eq.trans (hf203.get krm rfl) (Eq.trans (hf200.get krm rfl) (Eq.trans (hf199.get krm rfl) (Eq.trans (hf193.get krm rfl) (Eq.trans (hf189.get krm rfl) (Eq.trans (hf188.get krm rfl) (Eq.trans (hf184.get krm rfl) e183.symm)))))))
      have hG9t : (I203 rm 9).toInt = x183_.toInt := congrArg Int32.toInt hG9
      have hG10 : I203 rm 10 = N1 := (Eq.trans (hf203.get krm rfl) (Eq.trans (hf200.get krm rfl) (Eq.trans (hf199.get krm rfl) (Eq.trans (hf193.get krm rfl) (Eq.trans (hf189.get krm rfl) (Eq.trans (hf188.get krm rfl) eN1.symm))))))
      have hG10t : (I203 rm 10).toInt = N1.toInt := congrArg Int32.toInt hG10
      exact r_vret hC hQ hlk hr (by decide) (by decide) dX10_readKnower_113 ⟨_, _, rfl, rfl, ⟨hs203, hF203, hFJ203, (by first | exact Or.inl ⟨(upD NOF 0 9 (NOF 0 9 + 1)), _, by unfold sKnower; rw [pif_t (show 4 ≤ D 0 9 by omega)], hp, tkm, ⟨by unfold SM; simp [upD, adN]; omega, nm3.cg (by simp [upD]) (by intro j; simp [upD]), pg3.cg (by simp [upD]) (by intro j; simp [upD]) (by simp [upD]) (by intro j; simp [upD])⟩, rfl⟩ | exact Or.inr ⟨5, (pl B n p), by unfold sKnower; rw [pif_t (show 4 ≤ D 0 9 by omega)], by omega, by omega, by omega⟩), (by exact om203)⟩⟩
    · refine r_aload_n hC dX10_readKnower_72 1 rfl ?_
      refine r_getr hC 4 (ci := 10) rfl u10_in (by decide) mT_4_239 dX10_readKnower_73 ka0 rfl rfl hbr ?_
      refine r_getrN hC 26 (ci := 9) rfl u9_in (by decide) nF_26 dX10_readKnower_76 krm rfl rfl hns ?_
      refine r_iload_n hC dX10_readKnower_79 0 rfl ?_
      refine x_iaload hC kns lns (by decide) rfl rfl dX10_readKnower_80 (by omega) (by omega) (fun x207_ e207 => ?_)
      refine r_if_eq hC (tgt := 89) dX10_readKnower_81 (by decide) (fun c208 => ?_) (fun c208 => ?_)
      · refine r_aload_n hC dX10_readKnower_89 1 rfl ?_
        refine r_callV hC (As := []) (rest := []) (ci := 10) (e_X10_goesOn g (xL X) K len I193 J189 R hs193 a0 ka0 (by omega)) mT_5_199 mT_1_10 mT_5_196 mT_5_198 mP_49 okX10_goesOn ⟨by decide, by decide⟩ rfl (by show kO (K a0) = _; rw [ka0]; rfl) rfl rfl (Nat.le_of_ble_eq_true rfl) ⟨by decide, by decide⟩ dX10_readKnower_90 (aV2 (F := fun st M => P g X 3 93 [(1, .int x195_), (0, .ref a0)] st _ _ M) (M := (K, len, I193, J189, R)) fun I209 J209 h209 => ?_)
        obtain ⟨hs209, hf209, hfj209, k209_0, k209_1, k209_2⟩ := h209
        show P g X 3 93 [(1, .int x195_), (0, .ref a0)] [] _ _ (K, len, I209, J209, R)
        have hF209 : Fr K [(10, 9), (10, 10), (11, 8), (11, 9), (11, 10), (11, 11), (11, 12), (11, 13), (80, 999), (81, 999), (83, 999), (84, 999)] I I209 := hF193.trans hf209 rfl rfl
        have hFJ209 : Fr K [(11, 14), (82, 999)] J J209 := hFJ189.trans hfj209 rfl rfl
        have om209 := om193.mv hf209 rfl
        refine r_aload_n hC dX10_readKnower_93 1 rfl ?_
        refine r_ldcwS hC (i := 59) (by decide) rfl rfl dX10_readKnower_94 ?_
        refine r_iconst hC (v := (0)) dX10_readKnower_97 (by decide) (by decide) (fun x210_ e210 t210 => ?_)
        refine r_sipush hC (v := (999)) dX10_readKnower_98 (by decide) (by decide) (fun x211_ e211 t211 => ?_)
        refine r_callV hC (As := [.ref (g.2.2.1 59), .int x210_, .int x211_]) (rest := []) (ci := 10) (e_X10_readPart g (xL X) K len I209 J209 R hs209 a0 ka0 59 (by decide) x210_ x211_ (by omega)) mT_6_1 mT_1_10 mT_5_238 mT_6_0 mP_56 okX10_readPart ⟨by decide, by decide⟩ rfl (by show kO (K a0) = _; rw [ka0]; rfl) rfl rfl (Nat.le_of_ble_eq_true rfl) ⟨by decide, by decide⟩ dX10_readKnower_101 (aI2 (F := fun st M => P g X 3 104 [(1, .int x195_), (0, .ref a0)] st _ _ M) (M := (K, len, I209, J209, R)) fun x212_ I212 J212 h212 => ?_)
        obtain ⟨hs212, hf212, hfj212, k212_0, k212_1, k212_2⟩ := h212
        show P g X 3 104 [(1, .int x195_), (0, .ref a0)] [.int x212_] _ _ (K, len, I212, J212, R)
        have hF212 : Fr K [(10, 9), (10, 10), (11, 8), (11, 9), (11, 10), (11, 11), (11, 12), (11, 13), (80, 999), (81, 999), (83, 999), (84, 999)] I I212 := hF209.trans hf212 rfl rfl
        have hFJ212 : Fr K [(11, 14), (82, 999)] J J212 := hFJ209.trans hfj212 rfl rfl
        have om212 := om209.mv hf212 rfl
        refine r_istore_n hC (lv' := [(2, .int x212_), (1, .int x195_), (0, .ref a0)]) dX10_readKnower_104 (by decide) rfl ?_
        refine r_aload_n hC dX10_readKnower_105 2 rfl ?_
        refine r_geti hC 9 (ci := 10) rfl u10_in (by decide) mT_5_4 dX10_readKnower_106 ka0 rfl rfl (fun x213_ e213 => ?_)
        have f213 : x213_.toInt = (I212 a0 9).toInt := by rw [e213]
        refine r_iconst hC (v := (5)) dX10_readKnower_109 (by decide) (by decide) (fun x214_ e214 t214 => ?_)
        refine r_icmp_ne hC (tgt := 114) dX10_readKnower_110 (by decide) (fun c215 => ?_) (fun c215 => ?_)
        · exfalso; omega
        have hG0 : I212 rm 0 = G0 := (Eq.trans (hf212.get krm rfl) (Eq.trans (hf209.get krm rfl) (Eq.trans (hf193.get krm rfl) (Eq.trans (hf189.get krm rfl) (Eq.trans (hf188.get krm rfl) (Eq.trans (hf184.get krm rfl) (Eq.trans (hf3.get krm rfl) eG0.symm)))))))
        have hG0t : (I212 rm 0).toInt = G0.toInt := congrArg Int32.toInt hG0
        have hG1 : I212 rm 1 = G1 := (Eq.trans (hf212.get krm rfl) (Eq.trans (hf209.get krm rfl) (Eq.trans (hf193.get krm rfl) (Eq.trans (hf189.get krm rfl) (Eq.trans (hf188.get krm rfl) (Eq.trans (hf184.get krm rfl) (Eq.trans (hf3.get krm rfl) eG1.symm)))))))
        have hG1t : (I212 rm 1).toInt = G1.toInt := congrArg Int32.toInt hG1
        have hG2 : I212 rm 2 = G2 := (Eq.trans (hf212.get krm rfl) (Eq.trans (hf209.get krm rfl) (Eq.trans (hf193.get krm rfl) (Eq.trans (hf189.get krm rfl) (Eq.trans (hf188.get krm rfl) (Eq.trans (hf184.get krm rfl) (Eq.trans (hf3.get krm rfl) eG2.symm)))))))
        have hG2t : (I212 rm 2).toInt = G2.toInt := congrArg Int32.toInt hG2
        have hG3 : I212 rm 3 = G3 := (Eq.trans (hf212.get krm rfl) (Eq.trans (hf209.get krm rfl) (Eq.trans (hf193.get krm rfl) (Eq.trans (hf189.get krm rfl) (Eq.trans (hf188.get krm rfl) (Eq.trans (hf184.get krm rfl) (Eq.trans (hf3.get krm rfl) eG3.symm)))))))
        have hG3t : (I212 rm 3).toInt = G3.toInt := congrArg Int32.toInt hG3
        have hG4 : I212 rm 4 = G4 := (Eq.trans (hf212.get krm rfl) (Eq.trans (hf209.get krm rfl) (Eq.trans (hf193.get krm rfl) (Eq.trans (hf189.get krm rfl) (Eq.trans (hf188.get krm rfl) (Eq.trans (hf184.get krm rfl) (Eq.trans (hf3.get krm rfl) eG4.symm)))))))
        have hG4t : (I212 rm 4).toInt = G4.toInt := congrArg Int32.toInt hG4
        have hG5 : I212 rm 5 = G5 := (Eq.trans (hf212.get krm rfl) (Eq.trans (hf209.get krm rfl) (Eq.trans (hf193.get krm rfl) (Eq.trans (hf189.get krm rfl) (Eq.trans (hf188.get krm rfl) (Eq.trans (hf184.get krm rfl) (Eq.trans (hf3.get krm rfl) eG5.symm)))))))
        have hG5t : (I212 rm 5).toInt = G5.toInt := congrArg Int32.toInt hG5
        have hG6 : I212 rm 6 = G6 := (Eq.trans (hf212.get krm rfl) (Eq.trans (hf209.get krm rfl) (Eq.trans (hf193.get krm rfl) (Eq.trans (hf189.get krm rfl) (Eq.trans (hf188.get krm rfl) (Eq.trans (hf184.get krm rfl) (Eq.trans (hf3.get krm rfl) eG6.symm)))))))
        have hG6t : (I212 rm 6).toInt = G6.toInt := congrArg Int32.toInt hG6
        have hG7 : I212 rm 7 = G7 := (Eq.trans (hf212.get krm rfl) (Eq.trans (hf209.get krm rfl) (Eq.trans (hf193.get krm rfl) (Eq.trans (hf189.get krm rfl) (Eq.trans (hf188.get krm rfl) (Eq.trans (hf184.get krm rfl) (Eq.trans (hf3.get krm rfl) eG7.symm)))))))
        have hG7t : (I212 rm 7).toInt = G7.toInt := congrArg Int32.toInt hG7
        have hG8 : I212 rm 8 = G8 := (Eq.trans (hf212.get krm rfl) (Eq.trans (hf209.get krm rfl) (Eq.trans (hf193.get krm rfl) (Eq.trans (hf189.get krm rfl) (Eq.trans (hf188.get krm rfl) (Eq.trans (hf184.get krm rfl) (Eq.trans (hf3.get krm rfl) eG8.symm)))))))
        have hG8t : (I212 rm 8).toInt = G8.toInt := congrArg Int32.toInt hG8
        have hG9 : I212 rm 9 = x183_ := (Eq.trans (hf212.get krm rfl) (Eq.trans (hf209.get krm rfl) (Eq.trans (hf193.get krm rfl) (Eq.trans (hf189.get krm rfl) (Eq.trans (hf188.get krm rfl) (Eq.trans (hf184.get krm rfl) e183.symm))))))
        have hG9t : (I212 rm 9).toInt = x183_.toInt := congrArg Int32.toInt hG9
        have hG10 : I212 rm 10 = N1 := (Eq.trans (hf212.get krm rfl) (Eq.trans (hf209.get krm rfl) (Eq.trans (hf193.get krm rfl) (Eq.trans (hf189.get krm rfl) (Eq.trans (hf188.get krm rfl) eN1.symm)))))
        have hG10t : (I212 rm 10).toInt = N1.toInt := congrArg Int32.toInt hG10
        exact r_vret hC hQ hlk hr (by decide) (by decide) dX10_readKnower_113 ⟨_, _, rfl, rfl, ⟨hs212, hF212, hFJ212, (by first | exact Or.inl ⟨(upD NOF 0 9 (NOF 0 9 + 1)), _, by unfold sKnower; rw [pif_t (show 4 ≤ D 0 9 by omega)], hp, tkm, ⟨by unfold SM; simp [upD, adN]; omega, nm3.cg (by simp [upD]) (by intro j; simp [upD]), pg3.cg (by simp [upD]) (by intro j; simp [upD]) (by simp [upD]) (by intro j; simp [upD])⟩, rfl⟩ | exact Or.inr ⟨5, (pl B n p), by unfold sKnower; rw [pif_t (show 4 ≤ D 0 9 by omega)], by omega, by omega, by omega⟩), (by exact om212)⟩⟩
      · refine r_aload_n hC dX10_readKnower_84 1 rfl ?_
        refine r_iconst hC (v := (2)) dX10_readKnower_85 (by decide) (by decide) (fun x216_ e216 t216 => ?_)
        refine r_callV hC (As := [.int x216_]) (rest := []) (ci := 10) (e_X10_wrong g (xL X) K len I193 J189 R hs193 a0 ka0 x216_ (by omega)) mT_5_236 mT_1_10 mT_5_233 mT_5_235 mP_55 okX10_wrong ⟨by decide, by decide⟩ rfl (by show kO (K a0) = _; rw [ka0]; rfl) rfl rfl (Nat.le_of_ble_eq_true rfl) ⟨by decide, by decide⟩ dX10_readKnower_86 (aV1 (F := fun st M => P g X 3 89 [(1, .int x195_), (0, .ref a0)] st _ _ M) (M := (K, len, I193, J189, R)) fun I217 h217 => ?_)
        obtain ⟨hs217, hf217, k217_0, k217_1, k217_2⟩ := h217
        show P g X 3 89 [(1, .int x195_), (0, .ref a0)] [] _ _ (K, len, I217, J189, R)
        have hF217 : Fr K [(10, 9), (10, 10), (11, 8), (11, 9), (11, 10), (11, 11), (11, 12), (11, 13), (80, 999), (81, 999), (83, 999), (84, 999)] I I217 := hF193.trans hf217 rfl rfl
        have om217 := om193.mv hf217 rfl
        refine r_aload_n hC dX10_readKnower_89 1 rfl ?_
        refine r_callV hC (As := []) (rest := []) (ci := 10) (e_X10_goesOn g (xL X) K len I217 J189 R hs217 a0 ka0 (by omega)) mT_5_199 mT_1_10 mT_5_196 mT_5_198 mP_49 okX10_goesOn ⟨by decide, by decide⟩ rfl (by show kO (K a0) = _; rw [ka0]; rfl) rfl rfl (Nat.le_of_ble_eq_true rfl) ⟨by decide, by decide⟩ dX10_readKnower_90 (aV2 (F := fun st M => P g X 3 93 [(1, .int x195_), (0, .ref a0)] st _ _ M) (M := (K, len, I217, J189, R)) fun I218 J218 h218 => ?_)
        obtain ⟨hs218, hf218, hfj218, k218_0, k218_1, k218_2⟩ := h218
        show P g X 3 93 [(1, .int x195_), (0, .ref a0)] [] _ _ (K, len, I218, J218, R)
        have hF218 : Fr K [(10, 9), (10, 10), (11, 8), (11, 9), (11, 10), (11, 11), (11, 12), (11, 13), (80, 999), (81, 999), (83, 999), (84, 999)] I I218 := hF217.trans hf218 rfl rfl
        have hFJ218 : Fr K [(11, 14), (82, 999)] J J218 := hFJ189.trans hfj218 rfl rfl
        have om218 := om217.mv hf218 rfl
        refine r_aload_n hC dX10_readKnower_93 1 rfl ?_
        refine r_ldcwS hC (i := 59) (by decide) rfl rfl dX10_readKnower_94 ?_
        refine r_iconst hC (v := (0)) dX10_readKnower_97 (by decide) (by decide) (fun x219_ e219 t219 => ?_)
        refine r_sipush hC (v := (999)) dX10_readKnower_98 (by decide) (by decide) (fun x220_ e220 t220 => ?_)
        refine r_callV hC (As := [.ref (g.2.2.1 59), .int x219_, .int x220_]) (rest := []) (ci := 10) (e_X10_readPart g (xL X) K len I218 J218 R hs218 a0 ka0 59 (by decide) x219_ x220_ (by omega)) mT_6_1 mT_1_10 mT_5_238 mT_6_0 mP_56 okX10_readPart ⟨by decide, by decide⟩ rfl (by show kO (K a0) = _; rw [ka0]; rfl) rfl rfl (Nat.le_of_ble_eq_true rfl) ⟨by decide, by decide⟩ dX10_readKnower_101 (aI2 (F := fun st M => P g X 3 104 [(1, .int x195_), (0, .ref a0)] st _ _ M) (M := (K, len, I218, J218, R)) fun x221_ I221 J221 h221 => ?_)
        obtain ⟨hs221, hf221, hfj221, k221_0, k221_1, k221_2⟩ := h221
        show P g X 3 104 [(1, .int x195_), (0, .ref a0)] [.int x221_] _ _ (K, len, I221, J221, R)
        have hF221 : Fr K [(10, 9), (10, 10), (11, 8), (11, 9), (11, 10), (11, 11), (11, 12), (11, 13), (80, 999), (81, 999), (83, 999), (84, 999)] I I221 := hF218.trans hf221 rfl rfl
        have hFJ221 : Fr K [(11, 14), (82, 999)] J J221 := hFJ218.trans hfj221 rfl rfl
        have om221 := om218.mv hf221 rfl
        refine r_istore_n hC (lv' := [(2, .int x221_), (1, .int x195_), (0, .ref a0)]) dX10_readKnower_104 (by decide) rfl ?_
        refine r_aload_n hC dX10_readKnower_105 2 rfl ?_
        refine r_geti hC 9 (ci := 10) rfl u10_in (by decide) mT_5_4 dX10_readKnower_106 ka0 rfl rfl (fun x222_ e222 => ?_)
        have f222 : x222_.toInt = (I221 a0 9).toInt := by rw [e222]
        refine r_iconst hC (v := (5)) dX10_readKnower_109 (by decide) (by decide) (fun x223_ e223 t223 => ?_)
        refine r_icmp_ne hC (tgt := 114) dX10_readKnower_110 (by decide) (fun c224 => ?_) (fun c224 => ?_)
        · exfalso; omega
        have hG0 : I221 rm 0 = G0 := (Eq.trans (hf221.get krm rfl) (Eq.trans (hf218.get krm rfl) (Eq.trans (hf217.get krm rfl) (Eq.trans (hf193.get krm rfl) (Eq.trans (hf189.get krm rfl) (Eq.trans (hf188.get krm rfl) (Eq.trans (hf184.get krm rfl) (Eq.trans (hf3.get krm rfl) eG0.symm))))))))
        have hG0t : (I221 rm 0).toInt = G0.toInt := congrArg Int32.toInt hG0
        have hG1 : I221 rm 1 = G1 := (Eq.trans (hf221.get krm rfl) (Eq.trans (hf218.get krm rfl) (Eq.trans (hf217.get krm rfl) (Eq.trans (hf193.get krm rfl) (Eq.trans (hf189.get krm rfl) (Eq.trans (hf188.get krm rfl) (Eq.trans (hf184.get krm rfl) (Eq.trans (hf3.get krm rfl) eG1.symm))))))))
        have hG1t : (I221 rm 1).toInt = G1.toInt := congrArg Int32.toInt hG1
        have hG2 : I221 rm 2 = G2 := (Eq.trans (hf221.get krm rfl) (Eq.trans (hf218.get krm rfl) (Eq.trans (hf217.get krm rfl) (Eq.trans (hf193.get krm rfl) (Eq.trans (hf189.get krm rfl) (Eq.trans (hf188.get krm rfl) (Eq.trans (hf184.get krm rfl) (Eq.trans (hf3.get krm rfl) eG2.symm))))))))
        have hG2t : (I221 rm 2).toInt = G2.toInt := congrArg Int32.toInt hG2
        have hG3 : I221 rm 3 = G3 := (Eq.trans (hf221.get krm rfl) (Eq.trans (hf218.get krm rfl) (Eq.trans (hf217.get krm rfl) (Eq.trans (hf193.get krm rfl) (Eq.trans (hf189.get krm rfl) (Eq.trans (hf188.get krm rfl) (Eq.trans (hf184.get krm rfl) (Eq.trans (hf3.get krm rfl) eG3.symm))))))))
        have hG3t : (I221 rm 3).toInt = G3.toInt := congrArg Int32.toInt hG3
        have hG4 : I221 rm 4 = G4 := (Eq.trans (hf221.get krm rfl) (Eq.trans (hf218.get krm rfl) (Eq.trans (hf217.get krm rfl) (Eq.trans (hf193.get krm rfl) (Eq.trans (hf189.get krm rfl) (Eq.trans (hf188.get krm rfl) (Eq.trans (hf184.get krm rfl) (Eq.trans (hf3.get krm rfl) eG4.symm))))))))
        have hG4t : (I221 rm 4).toInt = G4.toInt := congrArg Int32.toInt hG4
        have hG5 : I221 rm 5 = G5 := (Eq.trans (hf221.get krm rfl) (Eq.trans (hf218.get krm rfl) (Eq.trans (hf217.get krm rfl) (Eq.trans (hf193.get krm rfl) (Eq.trans (hf189.get krm rfl) (Eq.trans (hf188.get krm rfl) (Eq.trans (hf184.get krm rfl) (Eq.trans (hf3.get krm rfl) eG5.symm))))))))
        have hG5t : (I221 rm 5).toInt = G5.toInt := congrArg Int32.toInt hG5
        have hG6 : I221 rm 6 = G6 := (Eq.trans (hf221.get krm rfl) (Eq.trans (hf218.get krm rfl) (Eq.trans (hf217.get krm rfl) (Eq.trans (hf193.get krm rfl) (Eq.trans (hf189.get krm rfl) (Eq.trans (hf188.get krm rfl) (Eq.trans (hf184.get krm rfl) (Eq.trans (hf3.get krm rfl) eG6.symm))))))))
        have hG6t : (I221 rm 6).toInt = G6.toInt := congrArg Int32.toInt hG6
        have hG7 : I221 rm 7 = G7 := (Eq.trans (hf221.get krm rfl) (Eq.trans (hf218.get krm rfl) (Eq.trans (hf217.get krm rfl) (Eq.trans (hf193.get krm rfl) (Eq.trans (hf189.get krm rfl) (Eq.trans (hf188.get krm rfl) (Eq.trans (hf184.get krm rfl) (Eq.trans (hf3.get krm rfl) eG7.symm))))))))
        have hG7t : (I221 rm 7).toInt = G7.toInt := congrArg Int32.toInt hG7
        have hG8 : I221 rm 8 = G8 := (Eq.trans (hf221.get krm rfl) (Eq.trans (hf218.get krm rfl) (Eq.trans (hf217.get krm rfl) (Eq.trans (hf193.get krm rfl) (Eq.trans (hf189.get krm rfl) (Eq.trans (hf188.get krm rfl) (Eq.trans (hf184.get krm rfl) (Eq.trans (hf3.get krm rfl) eG8.symm))))))))
        have hG8t : (I221 rm 8).toInt = G8.toInt := congrArg Int32.toInt hG8
        have hG9 : I221 rm 9 = x183_ := (Eq.trans (hf221.get krm rfl) (Eq.trans (hf218.get krm rfl) (Eq.trans (hf217.get krm rfl) (Eq.trans (hf193.get krm rfl) (Eq.trans (hf189.get krm rfl) (Eq.trans (hf188.get krm rfl) (Eq.trans (hf184.get krm rfl) e183.symm)))))))
        have hG9t : (I221 rm 9).toInt = x183_.toInt := congrArg Int32.toInt hG9
        have hG10 : I221 rm 10 = N1 := (Eq.trans (hf221.get krm rfl) (Eq.trans (hf218.get krm rfl) (Eq.trans (hf217.get krm rfl) (Eq.trans (hf193.get krm rfl) (Eq.trans (hf189.get krm rfl) (Eq.trans (hf188.get krm rfl) eN1.symm))))))
        have hG10t : (I221 rm 10).toInt = N1.toInt := congrArg Int32.toInt hG10
        exact r_vret hC hQ hlk hr (by decide) (by decide) dX10_readKnower_113 ⟨_, _, rfl, rfl, ⟨hs221, hF221, hFJ221, (by first | exact Or.inl ⟨(upD NOF 0 9 (NOF 0 9 + 1)), _, by unfold sKnower; rw [pif_t (show 4 ≤ D 0 9 by omega)], hp, tkm, ⟨by unfold SM; simp [upD, adN]; omega, nm3.cg (by simp [upD]) (by intro j; simp [upD]), pg3.cg (by simp [upD]) (by intro j; simp [upD]) (by simp [upD]) (by intro j; simp [upD])⟩, rfl⟩ | exact Or.inr ⟨5, (pl B n p), by unfold sKnower; rw [pif_t (show 4 ≤ D 0 9 by omega)], by omega, by omega, by omega⟩), (by exact om221)⟩⟩
set_option maxHeartbeats 4000000 in
set_option maxRecDepth 100000 in
theorem f_X10_readLine (g : GG) (l : Launch) (K len : Nat → Nat) (I : Nat → Nat → Int32) (J : Nat → Nat → Int64) (R : Nat → Nat → Option Nat) (hs : Sf K len I R) (a0 : Nat) (ka0 : K a0 = 11) (rm : Nat) (hbr : R a0 4 = some rm) (krm : K rm = 10) (mt : Nat) (hmt : R a0 5 = some mt) (kmt : K mt = 49) (nmt : len mt = 900) (B : Nat → Int) (n : Nat) (hB : BT B n mt I) (hBr : ∀ j : Nat, j < n → -128 ≤ B j ∧ B j ≤ 127) (hn : n ≤ 900) (p : Nat) (hp : p ≤ n) (tkm : TkM B n a0 p I J) (nr : Nat) (hnr : R rm 25 = some nr) (knr : K nr = 82) (lnr : len nr = 19) (ns : Nat) (hns : R rm 26 = some ns) (kns : K ns = 83) (lns : len ns = 19) (D : DD) (hD : DI D) (sm : SM D rm I) (nm : NmM D nr J) (pg : PgI D ns I) : Ct g l yX10_readLine cX10_readLine 1 (Option.none : Option Jvm.ClassFile.FieldType) rmX10_readLine [.ref a0] (K, len, I, J, R) (pV2 (K, len, I, J, R) (fun I' J' => Sf K len I' R ∧ Fr K [(10, 0), (10, 1), (10, 2), (10, 3), (10, 4), (10, 5), (10, 6), (10, 7), (10, 8), (10, 9), (10, 10), (11, 8), (11, 9), (11, 10), (11, 11), (11, 12), (11, 13), (70, 999), (71, 999), (72, 999), (73, 999), (74, 999), (75, 999), (76, 999), (77, 999), (78, 999), (79, 999), (80, 999), (81, 999), (83, 999), (84, 999), (1000, 999)] I I' ∧ Fr K [(11, 14), (82, 999)] J J' ∧ ((∃ (D' : DD) (p' : Nat), sLine B n p D = .ok (D', p') ∧ p' ≤ n ∧ TkM B n a0 p' I' J' ∧ RpM D' rm nr ns I' J' ∧ I' a0 12 = I a0 12) ∨ (∃ (kf : Int) (qf : Nat), sLine B n p D = .error (kf, qf) ∧ (I' a0 9).toInt = 5 ∧ (I' a0 12).toInt = kf ∧ (I' a0 13).toInt = qf)) ∧ (OM K rm I I'))) := by
  refine Ct_intro (by decide +kernel) (Nat.le_of_ble_eq_true rfl) (fun X hC hL hKK hNm hr hlk hQ => ?_)
  subst hL
  have hC : Cx g X cX10_readLine "HillTapModel" 1 rmX10_readLine := hC
  show P g X 1 0 [(0, .ref a0)] [] 0 0 (K, len, I, J, R)
  have hF : Fr K [(10, 0), (10, 1), (10, 2), (10, 3), (10, 4), (10, 5), (10, 6), (10, 7), (10, 8), (10, 9), (10, 10), (11, 8), (11, 9), (11, 10), (11, 11), (11, 12), (11, 13), (70, 999), (71, 999), (72, 999), (73, 999), (74, 999), (75, 999), (76, 999), (77, 999), (78, 999), (79, 999), (80, 999), (81, 999), (83, 999), (84, 999), (1000, 999)] I I := Fr.refl
  have hFJ : Fr K [(11, 14), (82, 999)] J J := Fr.refl
  have ek1 := tkm.e1
  have ek2 := tkm.e2
  have ek3 := tkm.e3
  have ek4 := tkm.e4
  have ek10 := tkm.2.1
  have ek11 := tkm.2.2.2.2.2
  have om : OM K rm I I := OM.rf
  refine r_aload_n hC dX10_readLine_0 0 rfl ?_
  refine r_ldcS hC (i := 31) (by decide) rfl rfl dX10_readLine_1 ?_
  refine r_callV hC (As := [.ref (g.2.2.1 31)]) (rest := []) (ci := 10) (f_X10_isWord g (xL X) K len I J R hs a0 ka0 31 (by decide) B n p hp tkm (by first | assumption | decide)) mT_5_223 mT_1_10 mT_5_220 mT_5_222 mP_53 okX10_isWord ⟨by decide, by decide⟩ rfl (by show kO (K a0) = _; rw [ka0]; rfl) rfl rfl (Nat.le_of_ble_eq_true rfl) ⟨by decide, by decide⟩ dX10_readLine_3 (aI0 (F := fun st M => P g X 1 6 [(0, .ref a0)] st _ _ M) (M := (K, len, I, J, R)) fun x1_ h1 => ?_)
  have k1_0 := h1
  show P g X 1 6 [(0, .ref a0)] [.int x1_] _ _ (K, len, I, J, R)
  rcases k1_0 with ⟨hr1, hw1⟩ | ⟨hr1, hw1⟩
  · refine r_if_eq hC (tgt := 16) dX10_readLine_6 (by decide) (fun c2 => ?_) (fun c2 => ?_)
    · exfalso; omega
    refine r_aload_n hC dX10_readLine_9 0 rfl ?_
    refine r_callV hC (As := []) (rest := []) (ci := 10) (f_X10_readLake g (xL X) K len I J R hs a0 ka0 rm hbr krm mt hmt kmt nmt B n (hB.mv9 hF kmt (fun _ => rfl)) hBr hn p hp tkm nr hnr knr lnr ns hns kns lns D hD sm nm pg (hw1.1)) mT_5_232 mT_1_10 mT_5_229 mT_5_231 mP_54 okX10_readLake ⟨by decide, by decide⟩ rfl (by show kO (K a0) = _; rw [ka0]; rfl) rfl rfl (Nat.le_of_ble_eq_true rfl) ⟨by decide, by decide⟩ dX10_readLine_10 (aV2 (F := fun st M => P g X 1 13 [(0, .ref a0)] st _ _ M) (M := (K, len, I, J, R)) fun I3 J3 h3 => ?_)
    obtain ⟨hs3, hf3, hfj3, k3_0, k3_1⟩ := h3
    show P g X 1 13 [(0, .ref a0)] [] _ _ (K, len, I3, J3, R)
    have hF3 : Fr K [(10, 0), (10, 1), (10, 2), (10, 3), (10, 4), (10, 5), (10, 6), (10, 7), (10, 8), (10, 9), (10, 10), (11, 8), (11, 9), (11, 10), (11, 11), (11, 12), (11, 13), (70, 999), (71, 999), (72, 999), (73, 999), (74, 999), (75, 999), (76, 999), (77, 999), (78, 999), (79, 999), (80, 999), (81, 999), (83, 999), (84, 999), (1000, 999)] I I3 := hF.trans hf3 rfl rfl
    have hFJ3 : Fr K [(11, 14), (82, 999)] J J3 := hFJ.trans hfj3 rfl rfl
    have om3 := om.tr k3_1
    rcases k3_0 with ⟨D3, p3, hsp3, hp3, tk3, rep3, fl3⟩ | ⟨kf3, qf3, hsp3, hf03, hf13, hf23⟩
    · have fq3 : I3 a0 12 = I a0 12 := fl3.trans rfl
      refine r_goto hC (tgt := 117) dX10_readLine_13 (by decide) ?_
      exact r_vret hC hQ hlk hr (by decide) (by decide) dX10_readLine_117 ⟨_, _, rfl, rfl, ⟨hs3, hF3, hFJ3, (by first | exact Or.inl ⟨D3, p3, by unfold sLine; rw [pif_t (show isW B n p 0 from hw1)]; exact hsp3, hp3, tk3, rep3, fq3⟩ | exact Or.inr ⟨kf3, qf3, by unfold sLine; rw [pif_t (show isW B n p 0 from hw1)]; exact hsp3, hf03, hf13, hf23⟩ | exact Or.inr ⟨1, _, by unfold sLine; rw [pif_t (show isW B n p 0 from hw1), hsp3, bnd_ok], by omega, by omega, by omega⟩), (by exact om3)⟩⟩
    · refine r_goto hC (tgt := 117) dX10_readLine_13 (by decide) ?_
      exact r_vret hC hQ hlk hr (by decide) (by decide) dX10_readLine_117 ⟨_, _, rfl, rfl, ⟨hs3, hF3, hFJ3, (by first | exact Or.inl ⟨D3, p3, by unfold sLine; rw [pif_t (show isW B n p 0 from hw1)]; exact hsp3, hp3, tk3, rep3, rfl⟩ | exact Or.inr ⟨kf3, qf3, by unfold sLine; rw [pif_t (show isW B n p 0 from hw1)]; exact hsp3, hf03, hf13, hf23⟩ | exact Or.inr ⟨1, _, by unfold sLine; rw [pif_t (show isW B n p 0 from hw1), hsp3, bnd_er], by omega, by omega, by omega⟩), (by exact om3)⟩⟩
  · refine r_if_eq hC (tgt := 16) dX10_readLine_6 (by decide) (fun c4 => ?_) (fun c4 => ?_)
    rotate_left
    · exfalso; omega
    refine r_aload_n hC dX10_readLine_16 0 rfl ?_
    refine r_ldcS hC (i := 35) (by decide) rfl rfl dX10_readLine_17 ?_
    refine r_callV hC (As := [.ref (g.2.2.1 35)]) (rest := []) (ci := 10) (f_X10_isWord g (xL X) K len I J R hs a0 ka0 35 (by decide) B n p hp tkm (by first | assumption | decide)) mT_5_223 mT_1_10 mT_5_220 mT_5_222 mP_53 okX10_isWord ⟨by decide, by decide⟩ rfl (by show kO (K a0) = _; rw [ka0]; rfl) rfl rfl (Nat.le_of_ble_eq_true rfl) ⟨by decide, by decide⟩ dX10_readLine_19 (aI0 (F := fun st M => P g X 1 22 [(0, .ref a0)] st _ _ M) (M := (K, len, I, J, R)) fun x5_ h5 => ?_)
    have k5_0 := h5
    show P g X 1 22 [(0, .ref a0)] [.int x5_] _ _ (K, len, I, J, R)
    rcases k5_0 with ⟨hr5, hw5⟩ | ⟨hr5, hw5⟩
    · refine r_if_eq hC (tgt := 32) dX10_readLine_22 (by decide) (fun c6 => ?_) (fun c6 => ?_)
      · exfalso; omega
      refine r_aload_n hC dX10_readLine_25 0 rfl ?_
      refine r_callV hC (As := []) (rest := []) (ci := 10) (f_X10_readPeg g (xL X) K len I J R hs a0 ka0 rm hbr krm mt hmt kmt nmt B n (hB.mv9 hF kmt (fun _ => rfl)) hBr hn p hp tkm nr hnr knr lnr ns hns kns lns D hD sm nm pg (hw5.1)) mT_6_15 mT_1_10 mT_6_12 mT_6_14 mP_58 okX10_readPeg ⟨by decide, by decide⟩ rfl (by show kO (K a0) = _; rw [ka0]; rfl) rfl rfl (Nat.le_of_ble_eq_true rfl) ⟨by decide, by decide⟩ dX10_readLine_26 (aV2 (F := fun st M => P g X 1 29 [(0, .ref a0)] st _ _ M) (M := (K, len, I, J, R)) fun I7 J7 h7 => ?_)
      obtain ⟨hs7, hf7, hfj7, k7_0, k7_1⟩ := h7
      show P g X 1 29 [(0, .ref a0)] [] _ _ (K, len, I7, J7, R)
      have hF7 : Fr K [(10, 0), (10, 1), (10, 2), (10, 3), (10, 4), (10, 5), (10, 6), (10, 7), (10, 8), (10, 9), (10, 10), (11, 8), (11, 9), (11, 10), (11, 11), (11, 12), (11, 13), (70, 999), (71, 999), (72, 999), (73, 999), (74, 999), (75, 999), (76, 999), (77, 999), (78, 999), (79, 999), (80, 999), (81, 999), (83, 999), (84, 999), (1000, 999)] I I7 := hF.trans hf7 rfl rfl
      have hFJ7 : Fr K [(11, 14), (82, 999)] J J7 := hFJ.trans hfj7 rfl rfl
      have om7 := om.tr k7_1
      rcases k7_0 with ⟨D7, p7, hsp7, hp7, tk7, rep7, fl7⟩ | ⟨kf7, qf7, hsp7, hf07, hf17, hf27⟩
      · have fq7 : I7 a0 12 = I a0 12 := fl7.trans rfl
        refine r_goto hC (tgt := 117) dX10_readLine_29 (by decide) ?_
        exact r_vret hC hQ hlk hr (by decide) (by decide) dX10_readLine_117 ⟨_, _, rfl, rfl, ⟨hs7, hF7, hFJ7, (by first | exact Or.inl ⟨D7, p7, by unfold sLine; rw [pif_f (show ¬ isW B n p 0 from hw1), pif_t (show isW B n p 4 from hw5)]; exact hsp7, hp7, tk7, rep7, fq7⟩ | exact Or.inr ⟨kf7, qf7, by unfold sLine; rw [pif_f (show ¬ isW B n p 0 from hw1), pif_t (show isW B n p 4 from hw5)]; exact hsp7, hf07, hf17, hf27⟩ | exact Or.inr ⟨1, _, by unfold sLine; rw [pif_f (show ¬ isW B n p 0 from hw1), pif_t (show isW B n p 4 from hw5), hsp7, bnd_ok], by omega, by omega, by omega⟩), (by exact om7)⟩⟩
      · refine r_goto hC (tgt := 117) dX10_readLine_29 (by decide) ?_
        exact r_vret hC hQ hlk hr (by decide) (by decide) dX10_readLine_117 ⟨_, _, rfl, rfl, ⟨hs7, hF7, hFJ7, (by first | exact Or.inl ⟨D7, p7, by unfold sLine; rw [pif_f (show ¬ isW B n p 0 from hw1), pif_t (show isW B n p 4 from hw5)]; exact hsp7, hp7, tk7, rep7, rfl⟩ | exact Or.inr ⟨kf7, qf7, by unfold sLine; rw [pif_f (show ¬ isW B n p 0 from hw1), pif_t (show isW B n p 4 from hw5)]; exact hsp7, hf07, hf17, hf27⟩ | exact Or.inr ⟨1, _, by unfold sLine; rw [pif_f (show ¬ isW B n p 0 from hw1), pif_t (show isW B n p 4 from hw5), hsp7, bnd_er], by omega, by omega, by omega⟩), (by exact om7)⟩⟩
    · refine r_if_eq hC (tgt := 32) dX10_readLine_22 (by decide) (fun c8 => ?_) (fun c8 => ?_)
      rotate_left
      · exfalso; omega
      refine r_aload_n hC dX10_readLine_32 0 rfl ?_
      refine r_ldcS hC (i := 36) (by decide) rfl rfl dX10_readLine_33 ?_
      refine r_callV hC (As := [.ref (g.2.2.1 36)]) (rest := []) (ci := 10) (f_X10_isWord g (xL X) K len I J R hs a0 ka0 36 (by decide) B n p hp tkm (by first | assumption | decide)) mT_5_223 mT_1_10 mT_5_220 mT_5_222 mP_53 okX10_isWord ⟨by decide, by decide⟩ rfl (by show kO (K a0) = _; rw [ka0]; rfl) rfl rfl (Nat.le_of_ble_eq_true rfl) ⟨by decide, by decide⟩ dX10_readLine_35 (aI0 (F := fun st M => P g X 1 38 [(0, .ref a0)] st _ _ M) (M := (K, len, I, J, R)) fun x9_ h9 => ?_)
      have k9_0 := h9
      show P g X 1 38 [(0, .ref a0)] [.int x9_] _ _ (K, len, I, J, R)
      rcases k9_0 with ⟨hr9, hw9⟩ | ⟨hr9, hw9⟩
      · refine r_if_eq hC (tgt := 48) dX10_readLine_38 (by decide) (fun c10 => ?_) (fun c10 => ?_)
        · exfalso; omega
        refine r_aload_n hC dX10_readLine_41 0 rfl ?_
        refine r_callV hC (As := []) (rest := []) (ci := 10) (f_X10_readFrom g (xL X) K len I J R hs a0 ka0 rm hbr krm mt hmt kmt nmt B n (hB.mv9 hF kmt (fun _ => rfl)) hBr hn p hp tkm nr hnr knr lnr ns hns kns lns D hD sm nm pg (hw9.1)) mT_6_42 mT_1_10 mT_6_39 mT_6_41 mP_62 okX10_readFrom ⟨by decide, by decide⟩ rfl (by show kO (K a0) = _; rw [ka0]; rfl) rfl rfl (Nat.le_of_ble_eq_true rfl) ⟨by decide, by decide⟩ dX10_readLine_42 (aV2 (F := fun st M => P g X 1 45 [(0, .ref a0)] st _ _ M) (M := (K, len, I, J, R)) fun I11 J11 h11 => ?_)
        obtain ⟨hs11, hf11, hfj11, k11_0, k11_1⟩ := h11
        show P g X 1 45 [(0, .ref a0)] [] _ _ (K, len, I11, J11, R)
        have hF11 : Fr K [(10, 0), (10, 1), (10, 2), (10, 3), (10, 4), (10, 5), (10, 6), (10, 7), (10, 8), (10, 9), (10, 10), (11, 8), (11, 9), (11, 10), (11, 11), (11, 12), (11, 13), (70, 999), (71, 999), (72, 999), (73, 999), (74, 999), (75, 999), (76, 999), (77, 999), (78, 999), (79, 999), (80, 999), (81, 999), (83, 999), (84, 999), (1000, 999)] I I11 := hF.trans hf11 rfl rfl
        have hFJ11 : Fr K [(11, 14), (82, 999)] J J11 := hFJ.trans hfj11 rfl rfl
        have om11 := om.tr k11_1
        rcases k11_0 with ⟨D11, p11, hsp11, hp11, tk11, rep11, fl11⟩ | ⟨kf11, qf11, hsp11, hf011, hf111, hf211⟩
        · have fq11 : I11 a0 12 = I a0 12 := fl11.trans rfl
          refine r_goto hC (tgt := 117) dX10_readLine_45 (by decide) ?_
          exact r_vret hC hQ hlk hr (by decide) (by decide) dX10_readLine_117 ⟨_, _, rfl, rfl, ⟨hs11, hF11, hFJ11, (by first | exact Or.inl ⟨D11, p11, by unfold sLine; rw [pif_f (show ¬ isW B n p 0 from hw1), pif_f (show ¬ isW B n p 4 from hw5), pif_t (show isW B n p 5 from hw9)]; exact hsp11, hp11, tk11, rep11, fq11⟩ | exact Or.inr ⟨kf11, qf11, by unfold sLine; rw [pif_f (show ¬ isW B n p 0 from hw1), pif_f (show ¬ isW B n p 4 from hw5), pif_t (show isW B n p 5 from hw9)]; exact hsp11, hf011, hf111, hf211⟩ | exact Or.inr ⟨1, _, by unfold sLine; rw [pif_f (show ¬ isW B n p 0 from hw1), pif_f (show ¬ isW B n p 4 from hw5), pif_t (show isW B n p 5 from hw9), hsp11, bnd_ok], by omega, by omega, by omega⟩), (by exact om11)⟩⟩
        · refine r_goto hC (tgt := 117) dX10_readLine_45 (by decide) ?_
          exact r_vret hC hQ hlk hr (by decide) (by decide) dX10_readLine_117 ⟨_, _, rfl, rfl, ⟨hs11, hF11, hFJ11, (by first | exact Or.inl ⟨D11, p11, by unfold sLine; rw [pif_f (show ¬ isW B n p 0 from hw1), pif_f (show ¬ isW B n p 4 from hw5), pif_t (show isW B n p 5 from hw9)]; exact hsp11, hp11, tk11, rep11, rfl⟩ | exact Or.inr ⟨kf11, qf11, by unfold sLine; rw [pif_f (show ¬ isW B n p 0 from hw1), pif_f (show ¬ isW B n p 4 from hw5), pif_t (show isW B n p 5 from hw9)]; exact hsp11, hf011, hf111, hf211⟩ | exact Or.inr ⟨1, _, by unfold sLine; rw [pif_f (show ¬ isW B n p 0 from hw1), pif_f (show ¬ isW B n p 4 from hw5), pif_t (show isW B n p 5 from hw9), hsp11, bnd_er], by omega, by omega, by omega⟩), (by exact om11)⟩⟩
      · refine r_if_eq hC (tgt := 48) dX10_readLine_38 (by decide) (fun c12 => ?_) (fun c12 => ?_)
        rotate_left
        · exfalso; omega
        refine r_aload_n hC dX10_readLine_48 0 rfl ?_
        refine r_ldcS hC (i := 37) (by decide) rfl rfl dX10_readLine_49 ?_
        refine r_callV hC (As := [.ref (g.2.2.1 37)]) (rest := []) (ci := 10) (f_X10_isWord g (xL X) K len I J R hs a0 ka0 37 (by decide) B n p hp tkm (by first | assumption | decide)) mT_5_223 mT_1_10 mT_5_220 mT_5_222 mP_53 okX10_isWord ⟨by decide, by decide⟩ rfl (by show kO (K a0) = _; rw [ka0]; rfl) rfl rfl (Nat.le_of_ble_eq_true rfl) ⟨by decide, by decide⟩ dX10_readLine_51 (aI0 (F := fun st M => P g X 1 54 [(0, .ref a0)] st _ _ M) (M := (K, len, I, J, R)) fun x13_ h13 => ?_)
        have k13_0 := h13
        show P g X 1 54 [(0, .ref a0)] [.int x13_] _ _ (K, len, I, J, R)
        rcases k13_0 with ⟨hr13, hw13⟩ | ⟨hr13, hw13⟩
        · refine r_if_eq hC (tgt := 64) dX10_readLine_54 (by decide) (fun c14 => ?_) (fun c14 => ?_)
          · exfalso; omega
          refine r_aload_n hC dX10_readLine_57 0 rfl ?_
          refine r_callV hC (As := []) (rest := []) (ci := 10) (f_X10_readRain g (xL X) K len I J R hs a0 ka0 rm hbr krm mt hmt kmt nmt B n (hB.mv9 hF kmt (fun _ => rfl)) hBr hn p hp tkm nr hnr knr lnr ns hns kns lns D hD sm nm pg (hw13.1)) mT_6_47 mT_1_10 mT_6_44 mT_6_46 mP_63 okX10_readRain ⟨by decide, by decide⟩ rfl (by show kO (K a0) = _; rw [ka0]; rfl) rfl rfl (Nat.le_of_ble_eq_true rfl) ⟨by decide, by decide⟩ dX10_readLine_58 (aV2 (F := fun st M => P g X 1 61 [(0, .ref a0)] st _ _ M) (M := (K, len, I, J, R)) fun I15 J15 h15 => ?_)
          obtain ⟨hs15, hf15, hfj15, k15_0, k15_1⟩ := h15
          show P g X 1 61 [(0, .ref a0)] [] _ _ (K, len, I15, J15, R)
          have hF15 : Fr K [(10, 0), (10, 1), (10, 2), (10, 3), (10, 4), (10, 5), (10, 6), (10, 7), (10, 8), (10, 9), (10, 10), (11, 8), (11, 9), (11, 10), (11, 11), (11, 12), (11, 13), (70, 999), (71, 999), (72, 999), (73, 999), (74, 999), (75, 999), (76, 999), (77, 999), (78, 999), (79, 999), (80, 999), (81, 999), (83, 999), (84, 999), (1000, 999)] I I15 := hF.trans hf15 rfl rfl
          have hFJ15 : Fr K [(11, 14), (82, 999)] J J15 := hFJ.trans hfj15 rfl rfl
          have om15 := om.tr k15_1
          rcases k15_0 with ⟨D15, p15, hsp15, hp15, tk15, rep15, fl15⟩ | ⟨kf15, qf15, hsp15, hf015, hf115, hf215⟩
          · have fq15 : I15 a0 12 = I a0 12 := fl15.trans rfl
            refine r_goto hC (tgt := 117) dX10_readLine_61 (by decide) ?_
            exact r_vret hC hQ hlk hr (by decide) (by decide) dX10_readLine_117 ⟨_, _, rfl, rfl, ⟨hs15, hF15, hFJ15, (by first | exact Or.inl ⟨D15, p15, by unfold sLine; rw [pif_f (show ¬ isW B n p 0 from hw1), pif_f (show ¬ isW B n p 4 from hw5), pif_f (show ¬ isW B n p 5 from hw9), pif_t (show isW B n p 6 from hw13)]; exact hsp15, hp15, tk15, rep15, fq15⟩ | exact Or.inr ⟨kf15, qf15, by unfold sLine; rw [pif_f (show ¬ isW B n p 0 from hw1), pif_f (show ¬ isW B n p 4 from hw5), pif_f (show ¬ isW B n p 5 from hw9), pif_t (show isW B n p 6 from hw13)]; exact hsp15, hf015, hf115, hf215⟩ | exact Or.inr ⟨1, _, by unfold sLine; rw [pif_f (show ¬ isW B n p 0 from hw1), pif_f (show ¬ isW B n p 4 from hw5), pif_f (show ¬ isW B n p 5 from hw9), pif_t (show isW B n p 6 from hw13), hsp15, bnd_ok], by omega, by omega, by omega⟩), (by exact om15)⟩⟩
          · refine r_goto hC (tgt := 117) dX10_readLine_61 (by decide) ?_
            exact r_vret hC hQ hlk hr (by decide) (by decide) dX10_readLine_117 ⟨_, _, rfl, rfl, ⟨hs15, hF15, hFJ15, (by first | exact Or.inl ⟨D15, p15, by unfold sLine; rw [pif_f (show ¬ isW B n p 0 from hw1), pif_f (show ¬ isW B n p 4 from hw5), pif_f (show ¬ isW B n p 5 from hw9), pif_t (show isW B n p 6 from hw13)]; exact hsp15, hp15, tk15, rep15, rfl⟩ | exact Or.inr ⟨kf15, qf15, by unfold sLine; rw [pif_f (show ¬ isW B n p 0 from hw1), pif_f (show ¬ isW B n p 4 from hw5), pif_f (show ¬ isW B n p 5 from hw9), pif_t (show isW B n p 6 from hw13)]; exact hsp15, hf015, hf115, hf215⟩ | exact Or.inr ⟨1, _, by unfold sLine; rw [pif_f (show ¬ isW B n p 0 from hw1), pif_f (show ¬ isW B n p 4 from hw5), pif_f (show ¬ isW B n p 5 from hw9), pif_t (show isW B n p 6 from hw13), hsp15, bnd_er], by omega, by omega, by omega⟩), (by exact om15)⟩⟩
        · refine r_if_eq hC (tgt := 64) dX10_readLine_54 (by decide) (fun c16 => ?_) (fun c16 => ?_)
          rotate_left
          · exfalso; omega
          refine r_aload_n hC dX10_readLine_64 0 rfl ?_
          refine r_ldcS hC (i := 38) (by decide) rfl rfl dX10_readLine_65 ?_
          refine r_callV hC (As := [.ref (g.2.2.1 38)]) (rest := []) (ci := 10) (f_X10_isWord g (xL X) K len I J R hs a0 ka0 38 (by decide) B n p hp tkm (by first | assumption | decide)) mT_5_223 mT_1_10 mT_5_220 mT_5_222 mP_53 okX10_isWord ⟨by decide, by decide⟩ rfl (by show kO (K a0) = _; rw [ka0]; rfl) rfl rfl (Nat.le_of_ble_eq_true rfl) ⟨by decide, by decide⟩ dX10_readLine_67 (aI0 (F := fun st M => P g X 1 70 [(0, .ref a0)] st _ _ M) (M := (K, len, I, J, R)) fun x17_ h17 => ?_)
          have k17_0 := h17
          show P g X 1 70 [(0, .ref a0)] [.int x17_] _ _ (K, len, I, J, R)
          rcases k17_0 with ⟨hr17, hw17⟩ | ⟨hr17, hw17⟩
          · refine r_if_eq hC (tgt := 80) dX10_readLine_70 (by decide) (fun c18 => ?_) (fun c18 => ?_)
            · exfalso; omega
            refine r_aload_n hC dX10_readLine_73 0 rfl ?_
            refine r_callV hC (As := []) (rest := []) (ci := 10) (f_X10_readStory g (xL X) K len I J R hs a0 ka0 rm hbr krm mt hmt kmt nmt B n (hB.mv9 hF kmt (fun _ => rfl)) hBr hn p hp tkm nr hnr knr lnr ns hns kns lns D hD sm nm pg (hw17.1)) mT_6_52 mT_1_10 mT_6_49 mT_6_51 mP_64 okX10_readStory ⟨by decide, by decide⟩ rfl (by show kO (K a0) = _; rw [ka0]; rfl) rfl rfl (Nat.le_of_ble_eq_true rfl) ⟨by decide, by decide⟩ dX10_readLine_74 (aV2 (F := fun st M => P g X 1 77 [(0, .ref a0)] st _ _ M) (M := (K, len, I, J, R)) fun I19 J19 h19 => ?_)
            obtain ⟨hs19, hf19, hfj19, k19_0, k19_1⟩ := h19
            show P g X 1 77 [(0, .ref a0)] [] _ _ (K, len, I19, J19, R)
            have hF19 : Fr K [(10, 0), (10, 1), (10, 2), (10, 3), (10, 4), (10, 5), (10, 6), (10, 7), (10, 8), (10, 9), (10, 10), (11, 8), (11, 9), (11, 10), (11, 11), (11, 12), (11, 13), (70, 999), (71, 999), (72, 999), (73, 999), (74, 999), (75, 999), (76, 999), (77, 999), (78, 999), (79, 999), (80, 999), (81, 999), (83, 999), (84, 999), (1000, 999)] I I19 := hF.trans hf19 rfl rfl
            have hFJ19 : Fr K [(11, 14), (82, 999)] J J19 := hFJ.trans hfj19 rfl rfl
            have om19 := om.tr k19_1
            rcases k19_0 with ⟨D19, p19, hsp19, hp19, tk19, rep19, fl19⟩ | ⟨kf19, qf19, hsp19, hf019, hf119, hf219⟩
            · have fq19 : I19 a0 12 = I a0 12 := fl19.trans rfl
              refine r_goto hC (tgt := 117) dX10_readLine_77 (by decide) ?_
              exact r_vret hC hQ hlk hr (by decide) (by decide) dX10_readLine_117 ⟨_, _, rfl, rfl, ⟨hs19, hF19, hFJ19, (by first | exact Or.inl ⟨D19, p19, by unfold sLine; rw [pif_f (show ¬ isW B n p 0 from hw1), pif_f (show ¬ isW B n p 4 from hw5), pif_f (show ¬ isW B n p 5 from hw9), pif_f (show ¬ isW B n p 6 from hw13), pif_t (show isW B n p 7 from hw17)]; exact hsp19, hp19, tk19, rep19, fq19⟩ | exact Or.inr ⟨kf19, qf19, by unfold sLine; rw [pif_f (show ¬ isW B n p 0 from hw1), pif_f (show ¬ isW B n p 4 from hw5), pif_f (show ¬ isW B n p 5 from hw9), pif_f (show ¬ isW B n p 6 from hw13), pif_t (show isW B n p 7 from hw17)]; exact hsp19, hf019, hf119, hf219⟩ | exact Or.inr ⟨1, _, by unfold sLine; rw [pif_f (show ¬ isW B n p 0 from hw1), pif_f (show ¬ isW B n p 4 from hw5), pif_f (show ¬ isW B n p 5 from hw9), pif_f (show ¬ isW B n p 6 from hw13), pif_t (show isW B n p 7 from hw17), hsp19, bnd_ok], by omega, by omega, by omega⟩), (by exact om19)⟩⟩
            · refine r_goto hC (tgt := 117) dX10_readLine_77 (by decide) ?_
              exact r_vret hC hQ hlk hr (by decide) (by decide) dX10_readLine_117 ⟨_, _, rfl, rfl, ⟨hs19, hF19, hFJ19, (by first | exact Or.inl ⟨D19, p19, by unfold sLine; rw [pif_f (show ¬ isW B n p 0 from hw1), pif_f (show ¬ isW B n p 4 from hw5), pif_f (show ¬ isW B n p 5 from hw9), pif_f (show ¬ isW B n p 6 from hw13), pif_t (show isW B n p 7 from hw17)]; exact hsp19, hp19, tk19, rep19, rfl⟩ | exact Or.inr ⟨kf19, qf19, by unfold sLine; rw [pif_f (show ¬ isW B n p 0 from hw1), pif_f (show ¬ isW B n p 4 from hw5), pif_f (show ¬ isW B n p 5 from hw9), pif_f (show ¬ isW B n p 6 from hw13), pif_t (show isW B n p 7 from hw17)]; exact hsp19, hf019, hf119, hf219⟩ | exact Or.inr ⟨1, _, by unfold sLine; rw [pif_f (show ¬ isW B n p 0 from hw1), pif_f (show ¬ isW B n p 4 from hw5), pif_f (show ¬ isW B n p 5 from hw9), pif_f (show ¬ isW B n p 6 from hw13), pif_t (show isW B n p 7 from hw17), hsp19, bnd_er], by omega, by omega, by omega⟩), (by exact om19)⟩⟩
          · refine r_if_eq hC (tgt := 80) dX10_readLine_70 (by decide) (fun c20 => ?_) (fun c20 => ?_)
            rotate_left
            · exfalso; omega
            refine r_aload_n hC dX10_readLine_80 0 rfl ?_
            refine r_ldcS hC (i := 39) (by decide) rfl rfl dX10_readLine_81 ?_
            refine r_callV hC (As := [.ref (g.2.2.1 39)]) (rest := []) (ci := 10) (f_X10_isWord g (xL X) K len I J R hs a0 ka0 39 (by decide) B n p hp tkm (by first | assumption | decide)) mT_5_223 mT_1_10 mT_5_220 mT_5_222 mP_53 okX10_isWord ⟨by decide, by decide⟩ rfl (by show kO (K a0) = _; rw [ka0]; rfl) rfl rfl (Nat.le_of_ble_eq_true rfl) ⟨by decide, by decide⟩ dX10_readLine_83 (aI0 (F := fun st M => P g X 1 86 [(0, .ref a0)] st _ _ M) (M := (K, len, I, J, R)) fun x21_ h21 => ?_)
            have k21_0 := h21
            show P g X 1 86 [(0, .ref a0)] [.int x21_] _ _ (K, len, I, J, R)
            rcases k21_0 with ⟨hr21, hw21⟩ | ⟨hr21, hw21⟩
            · refine r_if_eq hC (tgt := 96) dX10_readLine_86 (by decide) (fun c22 => ?_) (fun c22 => ?_)
              · exfalso; omega
              refine r_aload_n hC dX10_readLine_89 0 rfl ?_
              refine r_callV hC (As := []) (rest := []) (ci := 10) (f_X10_readVillage g (xL X) K len I J R hs a0 ka0 rm hbr krm mt hmt kmt nmt B n (hB.mv9 hF kmt (fun _ => rfl)) hBr hn p hp tkm nr hnr knr lnr ns hns kns lns D hD sm nm pg (hw21.1)) mT_6_66 mT_1_10 mT_6_63 mT_6_65 mP_65 okX10_readVillage ⟨by decide, by decide⟩ rfl (by show kO (K a0) = _; rw [ka0]; rfl) rfl rfl (Nat.le_of_ble_eq_true rfl) ⟨by decide, by decide⟩ dX10_readLine_90 (aV2 (F := fun st M => P g X 1 93 [(0, .ref a0)] st _ _ M) (M := (K, len, I, J, R)) fun I23 J23 h23 => ?_)
              obtain ⟨hs23, hf23, hfj23, k23_0, k23_1⟩ := h23
              show P g X 1 93 [(0, .ref a0)] [] _ _ (K, len, I23, J23, R)
              have hF23 : Fr K [(10, 0), (10, 1), (10, 2), (10, 3), (10, 4), (10, 5), (10, 6), (10, 7), (10, 8), (10, 9), (10, 10), (11, 8), (11, 9), (11, 10), (11, 11), (11, 12), (11, 13), (70, 999), (71, 999), (72, 999), (73, 999), (74, 999), (75, 999), (76, 999), (77, 999), (78, 999), (79, 999), (80, 999), (81, 999), (83, 999), (84, 999), (1000, 999)] I I23 := hF.trans hf23 rfl rfl
              have hFJ23 : Fr K [(11, 14), (82, 999)] J J23 := hFJ.trans hfj23 rfl rfl
              have om23 := om.tr k23_1
              rcases k23_0 with ⟨D23, p23, hsp23, hp23, tk23, rep23, fl23⟩ | ⟨kf23, qf23, hsp23, hf023, hf123, hf223⟩
              · have fq23 : I23 a0 12 = I a0 12 := fl23.trans rfl
                refine r_goto hC (tgt := 117) dX10_readLine_93 (by decide) ?_
                exact r_vret hC hQ hlk hr (by decide) (by decide) dX10_readLine_117 ⟨_, _, rfl, rfl, ⟨hs23, hF23, hFJ23, (by first | exact Or.inl ⟨D23, p23, by unfold sLine; rw [pif_f (show ¬ isW B n p 0 from hw1), pif_f (show ¬ isW B n p 4 from hw5), pif_f (show ¬ isW B n p 5 from hw9), pif_f (show ¬ isW B n p 6 from hw13), pif_f (show ¬ isW B n p 7 from hw17), pif_t (show isW B n p 8 from hw21)]; exact hsp23, hp23, tk23, rep23, fq23⟩ | exact Or.inr ⟨kf23, qf23, by unfold sLine; rw [pif_f (show ¬ isW B n p 0 from hw1), pif_f (show ¬ isW B n p 4 from hw5), pif_f (show ¬ isW B n p 5 from hw9), pif_f (show ¬ isW B n p 6 from hw13), pif_f (show ¬ isW B n p 7 from hw17), pif_t (show isW B n p 8 from hw21)]; exact hsp23, hf023, hf123, hf223⟩ | exact Or.inr ⟨1, _, by unfold sLine; rw [pif_f (show ¬ isW B n p 0 from hw1), pif_f (show ¬ isW B n p 4 from hw5), pif_f (show ¬ isW B n p 5 from hw9), pif_f (show ¬ isW B n p 6 from hw13), pif_f (show ¬ isW B n p 7 from hw17), pif_t (show isW B n p 8 from hw21), hsp23, bnd_ok], by omega, by omega, by omega⟩), (by exact om23)⟩⟩
              · refine r_goto hC (tgt := 117) dX10_readLine_93 (by decide) ?_
                exact r_vret hC hQ hlk hr (by decide) (by decide) dX10_readLine_117 ⟨_, _, rfl, rfl, ⟨hs23, hF23, hFJ23, (by first | exact Or.inl ⟨D23, p23, by unfold sLine; rw [pif_f (show ¬ isW B n p 0 from hw1), pif_f (show ¬ isW B n p 4 from hw5), pif_f (show ¬ isW B n p 5 from hw9), pif_f (show ¬ isW B n p 6 from hw13), pif_f (show ¬ isW B n p 7 from hw17), pif_t (show isW B n p 8 from hw21)]; exact hsp23, hp23, tk23, rep23, rfl⟩ | exact Or.inr ⟨kf23, qf23, by unfold sLine; rw [pif_f (show ¬ isW B n p 0 from hw1), pif_f (show ¬ isW B n p 4 from hw5), pif_f (show ¬ isW B n p 5 from hw9), pif_f (show ¬ isW B n p 6 from hw13), pif_f (show ¬ isW B n p 7 from hw17), pif_t (show isW B n p 8 from hw21)]; exact hsp23, hf023, hf123, hf223⟩ | exact Or.inr ⟨1, _, by unfold sLine; rw [pif_f (show ¬ isW B n p 0 from hw1), pif_f (show ¬ isW B n p 4 from hw5), pif_f (show ¬ isW B n p 5 from hw9), pif_f (show ¬ isW B n p 6 from hw13), pif_f (show ¬ isW B n p 7 from hw17), pif_t (show isW B n p 8 from hw21), hsp23, bnd_er], by omega, by omega, by omega⟩), (by exact om23)⟩⟩
            · refine r_if_eq hC (tgt := 96) dX10_readLine_86 (by decide) (fun c24 => ?_) (fun c24 => ?_)
              rotate_left
              · exfalso; omega
              refine r_aload_n hC dX10_readLine_96 0 rfl ?_
              refine r_ldcS hC (i := 40) (by decide) rfl rfl dX10_readLine_97 ?_
              refine r_callV hC (As := [.ref (g.2.2.1 40)]) (rest := []) (ci := 10) (f_X10_isWord g (xL X) K len I J R hs a0 ka0 40 (by decide) B n p hp tkm (by first | assumption | decide)) mT_5_223 mT_1_10 mT_5_220 mT_5_222 mP_53 okX10_isWord ⟨by decide, by decide⟩ rfl (by show kO (K a0) = _; rw [ka0]; rfl) rfl rfl (Nat.le_of_ble_eq_true rfl) ⟨by decide, by decide⟩ dX10_readLine_99 (aI0 (F := fun st M => P g X 1 102 [(0, .ref a0)] st _ _ M) (M := (K, len, I, J, R)) fun x25_ h25 => ?_)
              have k25_0 := h25
              show P g X 1 102 [(0, .ref a0)] [.int x25_] _ _ (K, len, I, J, R)
              rcases k25_0 with ⟨hr25, hw25⟩ | ⟨hr25, hw25⟩
              · refine r_if_eq hC (tgt := 112) dX10_readLine_102 (by decide) (fun c26 => ?_) (fun c26 => ?_)
                · exfalso; omega
                refine r_aload_n hC dX10_readLine_105 0 rfl ?_
                refine r_callV hC (As := []) (rest := []) (ci := 10) (f_X10_readKnower g (xL X) K len I J R hs a0 ka0 rm hbr krm mt hmt kmt nmt B n (hB.mv9 hF kmt (fun _ => rfl)) hBr hn p hp tkm nr hnr knr lnr ns hns kns lns D hD sm nm pg (hw25.1)) mT_6_73 mT_1_10 mT_6_70 mT_6_72 mP_66 okX10_readKnower ⟨by decide, by decide⟩ rfl (by show kO (K a0) = _; rw [ka0]; rfl) rfl rfl (Nat.le_of_ble_eq_true rfl) ⟨by decide, by decide⟩ dX10_readLine_106 (aV2 (F := fun st M => P g X 1 109 [(0, .ref a0)] st _ _ M) (M := (K, len, I, J, R)) fun I27 J27 h27 => ?_)
                obtain ⟨hs27, hf27, hfj27, k27_0, k27_1⟩ := h27
                show P g X 1 109 [(0, .ref a0)] [] _ _ (K, len, I27, J27, R)
                have hF27 : Fr K [(10, 0), (10, 1), (10, 2), (10, 3), (10, 4), (10, 5), (10, 6), (10, 7), (10, 8), (10, 9), (10, 10), (11, 8), (11, 9), (11, 10), (11, 11), (11, 12), (11, 13), (70, 999), (71, 999), (72, 999), (73, 999), (74, 999), (75, 999), (76, 999), (77, 999), (78, 999), (79, 999), (80, 999), (81, 999), (83, 999), (84, 999), (1000, 999)] I I27 := hF.trans hf27 rfl rfl
                have hFJ27 : Fr K [(11, 14), (82, 999)] J J27 := hFJ.trans hfj27 rfl rfl
                have om27 := om.tr k27_1
                rcases k27_0 with ⟨D27, p27, hsp27, hp27, tk27, rep27, fl27⟩ | ⟨kf27, qf27, hsp27, hf027, hf127, hf227⟩
                · have fq27 : I27 a0 12 = I a0 12 := fl27.trans rfl
                  refine r_goto hC (tgt := 117) dX10_readLine_109 (by decide) ?_
                  exact r_vret hC hQ hlk hr (by decide) (by decide) dX10_readLine_117 ⟨_, _, rfl, rfl, ⟨hs27, hF27, hFJ27, (by first | exact Or.inl ⟨D27, p27, by unfold sLine; rw [pif_f (show ¬ isW B n p 0 from hw1), pif_f (show ¬ isW B n p 4 from hw5), pif_f (show ¬ isW B n p 5 from hw9), pif_f (show ¬ isW B n p 6 from hw13), pif_f (show ¬ isW B n p 7 from hw17), pif_f (show ¬ isW B n p 8 from hw21), pif_t (show isW B n p 9 from hw25)]; exact hsp27, hp27, tk27, rep27, fq27⟩ | exact Or.inr ⟨kf27, qf27, by unfold sLine; rw [pif_f (show ¬ isW B n p 0 from hw1), pif_f (show ¬ isW B n p 4 from hw5), pif_f (show ¬ isW B n p 5 from hw9), pif_f (show ¬ isW B n p 6 from hw13), pif_f (show ¬ isW B n p 7 from hw17), pif_f (show ¬ isW B n p 8 from hw21), pif_t (show isW B n p 9 from hw25)]; exact hsp27, hf027, hf127, hf227⟩ | exact Or.inr ⟨1, _, by unfold sLine; rw [pif_f (show ¬ isW B n p 0 from hw1), pif_f (show ¬ isW B n p 4 from hw5), pif_f (show ¬ isW B n p 5 from hw9), pif_f (show ¬ isW B n p 6 from hw13), pif_f (show ¬ isW B n p 7 from hw17), pif_f (show ¬ isW B n p 8 from hw21), pif_t (show isW B n p 9 from hw25), hsp27, bnd_ok], by omega, by omega, by omega⟩), (by exact om27)⟩⟩
                · refine r_goto hC (tgt := 117) dX10_readLine_109 (by decide) ?_
                  exact r_vret hC hQ hlk hr (by decide) (by decide) dX10_readLine_117 ⟨_, _, rfl, rfl, ⟨hs27, hF27, hFJ27, (by first | exact Or.inl ⟨D27, p27, by unfold sLine; rw [pif_f (show ¬ isW B n p 0 from hw1), pif_f (show ¬ isW B n p 4 from hw5), pif_f (show ¬ isW B n p 5 from hw9), pif_f (show ¬ isW B n p 6 from hw13), pif_f (show ¬ isW B n p 7 from hw17), pif_f (show ¬ isW B n p 8 from hw21), pif_t (show isW B n p 9 from hw25)]; exact hsp27, hp27, tk27, rep27, rfl⟩ | exact Or.inr ⟨kf27, qf27, by unfold sLine; rw [pif_f (show ¬ isW B n p 0 from hw1), pif_f (show ¬ isW B n p 4 from hw5), pif_f (show ¬ isW B n p 5 from hw9), pif_f (show ¬ isW B n p 6 from hw13), pif_f (show ¬ isW B n p 7 from hw17), pif_f (show ¬ isW B n p 8 from hw21), pif_t (show isW B n p 9 from hw25)]; exact hsp27, hf027, hf127, hf227⟩ | exact Or.inr ⟨1, _, by unfold sLine; rw [pif_f (show ¬ isW B n p 0 from hw1), pif_f (show ¬ isW B n p 4 from hw5), pif_f (show ¬ isW B n p 5 from hw9), pif_f (show ¬ isW B n p 6 from hw13), pif_f (show ¬ isW B n p 7 from hw17), pif_f (show ¬ isW B n p 8 from hw21), pif_t (show isW B n p 9 from hw25), hsp27, bnd_er], by omega, by omega, by omega⟩), (by exact om27)⟩⟩
              · refine r_if_eq hC (tgt := 112) dX10_readLine_102 (by decide) (fun c28 => ?_) (fun c28 => ?_)
                rotate_left
                · exfalso; omega
                refine r_aload_n hC dX10_readLine_112 0 rfl ?_
                refine r_iconst hC (v := (1)) dX10_readLine_113 (by decide) (by decide) (fun x29_ e29 t29 => ?_)
                refine r_callV hC (As := [.int x29_]) (rest := []) (ci := 10) (f_X10_wrong g (xL X) K len I J R hs a0 ka0 x29_ (tkm.e5)) mT_5_236 mT_1_10 mT_5_233 mT_5_235 mP_55 okX10_wrong ⟨by decide, by decide⟩ rfl (by show kO (K a0) = _; rw [ka0]; rfl) rfl rfl (Nat.le_of_ble_eq_true rfl) ⟨by decide, by decide⟩ dX10_readLine_114 (aV1 (F := fun st M => P g X 1 117 [(0, .ref a0)] st _ _ M) (M := (K, len, I, J, R)) fun I30 h30 => ?_)
                obtain ⟨hs30, hf30, k30_0, k30_1, k30_2⟩ := h30
                show P g X 1 117 [(0, .ref a0)] [] _ _ (K, len, I30, J, R)
                have hF30 : Fr K [(10, 0), (10, 1), (10, 2), (10, 3), (10, 4), (10, 5), (10, 6), (10, 7), (10, 8), (10, 9), (10, 10), (11, 8), (11, 9), (11, 10), (11, 11), (11, 12), (11, 13), (70, 999), (71, 999), (72, 999), (73, 999), (74, 999), (75, 999), (76, 999), (77, 999), (78, 999), (79, 999), (80, 999), (81, 999), (83, 999), (84, 999), (1000, 999)] I I30 := hF.trans hf30 rfl rfl
                have om30 := om.mv hf30 rfl
                have hwp30 := tkm.2.1
                exact r_vret hC hQ hlk hr (by decide) (by decide) dX10_readLine_117 ⟨_, _, rfl, rfl, ⟨hs30, hF30, hFJ, (by first | exact Or.inl ⟨D30, p30, by unfold sLine; rw [pif_f (show ¬ isW B n p 0 from hw1), pif_f (show ¬ isW B n p 4 from hw5), pif_f (show ¬ isW B n p 5 from hw9), pif_f (show ¬ isW B n p 6 from hw13), pif_f (show ¬ isW B n p 7 from hw17), pif_f (show ¬ isW B n p 8 from hw21)]; exact hsp30, hp30, tk30, rep30, rfl⟩ | exact Or.inr ⟨kf30, qf30, by unfold sLine; rw [pif_f (show ¬ isW B n p 0 from hw1), pif_f (show ¬ isW B n p 4 from hw5), pif_f (show ¬ isW B n p 5 from hw9), pif_f (show ¬ isW B n p 6 from hw13), pif_f (show ¬ isW B n p 7 from hw17), pif_f (show ¬ isW B n p 8 from hw21)]; exact hsp30, hf030, hf130, hf230⟩ | exact Or.inr ⟨1, _, by unfold sLine; rw [pif_f (show ¬ isW B n p 0 from hw1), pif_f (show ¬ isW B n p 4 from hw5), pif_f (show ¬ isW B n p 5 from hw9), pif_f (show ¬ isW B n p 6 from hw13), pif_f (show ¬ isW B n p 7 from hw17), pif_f (show ¬ isW B n p 8 from hw21), pif_f (show ¬ isW B n p 9 from hw25)], by omega, by omega, by omega⟩), (by exact om30)⟩⟩

