set_option maxHeartbeats 4000000 in
set_option maxRecDepth 100000 in
theorem f_X10_readStory (g : GG) (l : Launch) (K len : Nat → Nat) (I : Nat → Nat → Int32) (J : Nat → Nat → Int64) (R : Nat → Nat → Option Nat) (hs : Sf K len I R) (a0 : Nat) (ka0 : K a0 = 11) (rm : Nat) (hbr : R a0 4 = some rm) (krm : K rm = 10) (mt : Nat) (hmt : R a0 5 = some mt) (kmt : K mt = 49) (nmt : len mt = 900) (B : Nat → Int) (n : Nat) (hB : BT B n mt I) (hBr : ∀ j : Nat, j < n → -128 ≤ B j ∧ B j ≤ 127) (hn : n ≤ 900) (p : Nat) (hp : p ≤ n) (tkm : TkM B n a0 p I J) (nr : Nat) (hnr : R rm 25 = some nr) (knr : K nr = 82) (lnr : len nr = 19) (ns : Nat) (hns : R rm 26 = some ns) (kns : K ns = 83) (lns : len ns = 19) (nn : Nat) (hnn : R rm 27 = some nn) (knn : K nn = 84) (lnn : len nn = 19) (D : DD) (hD : DI D) (sm : SM D rm I) (nm : NmM D nr J) (pg : PgI D ns I) (ni : NnI D ns nn I) (rwd : RW (CM rm R) (cntN D) D I) (hJ : DJ D) (p0 : kd B n p = 1) : Ct g l yX10_readStory cX10_readStory 5 (Option.none : Option Jvm.ClassFile.FieldType) rmX10_readStory [.ref a0] (K, len, I, J, R) (pV2 (K, len, I, J, R) (fun I' J' => Sf K len I' R ∧ Fr K [(10, 7), (10, 10), (11, 8), (11, 9), (11, 10), (11, 11), (11, 12), (11, 13), (75, 999), (76, 999), (83, 999), (84, 999), (1000, 999)] I I' ∧ Fr K [(11, 14), (82, 999)] J J' ∧ ((∃ (D' : DD) (p' : Nat), sStory B n p D = .ok (D', p') ∧ p' ≤ n ∧ TkM B n a0 p' I' J' ∧ RpM D' rm nr ns I' J' ∧ NnI D' ns nn I' ∧ RW (CM rm R) (cntN D') D' I' ∧ I' a0 12 = I a0 12) ∨ (∃ (kf : Int) (qf : Nat), sStory B n p D = .error (kf, qf) ∧ (I' a0 9).toInt = 5 ∧ (I' a0 12).toInt = kf ∧ (I' a0 13).toInt = qf)) ∧ (OM K rm I I') ∧ (OC (CM rm R) qM K I I'))) := by
  refine Ct_intro (by decide +kernel) (Nat.le_of_ble_eq_true rfl) (fun X hC hL hKK hNm hr hlk hQ => ?_)
  subst hL
  have hC : Cx g X cX10_readStory "HillTapModel" 5 rmX10_readStory := hC
  show P g X 5 0 [(0, .ref a0)] [] 0 0 (K, len, I, J, R)
  have hF : Fr K [(10, 7), (10, 10), (11, 8), (11, 9), (11, 10), (11, 11), (11, 12), (11, 13), (75, 999), (76, 999), (83, 999), (84, 999), (1000, 999)] I I := Fr.refl
  have hFJ : Fr K [(11, 14), (82, 999)] J J := Fr.refl
  have ek1 := tkm.e1
  have ek2 := tkm.e2
  have ek3 := tkm.e3
  have ek4 := tkm.e4
  have ek10 := tkm.2.1
  have ek11 := tkm.2.2.2.2.2
  obtain ⟨hD0, ⟨hD1, hD2⟩, ⟨hD3, hD4⟩, ⟨hD5, hD6⟩, ⟨hD7, hD8⟩, ⟨hD9, hD10⟩, hD11, hD12⟩ := id hD
  obtain ⟨sm0, sm3, sm4, sm5, sm6, sm7, sm8, sm9, sm10⟩ := id sm
  obtain ⟨G0, eG0⟩ : ∃ z : Int32, z = I rm 0 := ⟨_, rfl⟩
  have fG0 : G0.toInt = (I rm 0).toInt := by rw [eG0]
  obtain ⟨G1, eG1⟩ : ∃ z : Int32, z = I rm 1 := ⟨_, rfl⟩
  have fG1 : G1.toInt = (I rm 1).toInt := by rw [eG1]
  obtain ⟨G2, eG2⟩ : ∃ z : Int32, z = I rm 2 := ⟨_, rfl⟩
  have fG2 : G2.toInt = (I rm 2).toInt := by rw [eG2]
  obtain ⟨G3, eG3⟩ : ∃ z : Int32, z = I rm 3 := ⟨_, rfl⟩
  have fG3 : G3.toInt = (I rm 3).toInt := by rw [eG3]
  have rG3 := hs.rng krm rfl eG3
  obtain ⟨G4, eG4⟩ : ∃ z : Int32, z = I rm 4 := ⟨_, rfl⟩
  have fG4 : G4.toInt = (I rm 4).toInt := by rw [eG4]
  have rG4 := hs.rng krm rfl eG4
  obtain ⟨G5, eG5⟩ : ∃ z : Int32, z = I rm 5 := ⟨_, rfl⟩
  have fG5 : G5.toInt = (I rm 5).toInt := by rw [eG5]
  have rG5 := hs.rng krm rfl eG5
  obtain ⟨G6, eG6⟩ : ∃ z : Int32, z = I rm 6 := ⟨_, rfl⟩
  have fG6 : G6.toInt = (I rm 6).toInt := by rw [eG6]
  have rG6 := hs.rng krm rfl eG6
  obtain ⟨G7, eG7⟩ : ∃ z : Int32, z = I rm 7 := ⟨_, rfl⟩
  have fG7 : G7.toInt = (I rm 7).toInt := by rw [eG7]
  have rG7 := hs.rng krm rfl eG7
  obtain ⟨G8, eG8⟩ : ∃ z : Int32, z = I rm 8 := ⟨_, rfl⟩
  have fG8 : G8.toInt = (I rm 8).toInt := by rw [eG8]
  have rG8 := hs.rng krm rfl eG8
  obtain ⟨G9, eG9⟩ : ∃ z : Int32, z = I rm 9 := ⟨_, rfl⟩
  have fG9 : G9.toInt = (I rm 9).toInt := by rw [eG9]
  have rG9 := hs.rng krm rfl eG9
  obtain ⟨G10, eG10⟩ : ∃ z : Int32, z = I rm 10 := ⟨_, rfl⟩
  have fG10 : G10.toInt = (I rm 10).toInt := by rw [eG10]
  have rG10 := hs.rng krm rfl eG10
  have om : OM K rm I I := OM.rf
  have hcx := CM_x hs krm
  have oc : OC (CM rm R) qM K I I := OC.rf
  refine r_aload_n hC dX10_readStory_0 0 rfl ?_
  refine r_aload_n hC dX10_readStory_1 0 rfl ?_
  refine r_getr hC 4 (ci := 10) rfl u10_in (by decide) mT_4_239 dX10_readStory_2 ka0 rfl rfl hbr ?_
  refine r_getiN hC 7 (ci := 9) rfl u9_in (by decide) nF_7 dX10_readStory_5 krm rfl rfl (fun x1_ e1 => ?_)
  have r1 := hs.rng krm rfl e1
  have f1 : x1_.toInt = (I rm 7).toInt := by rw [e1]
  have w1 : x1_ = G7 := by rw [e1]; exact eG7.symm
  have wt1 : x1_.toInt = G7.toInt := by rw [w1]
  refine r_bipush hC (v := (6)) dX10_readStory_8 (by decide) (by decide) (fun x2_ e2 t2 => ?_)
  refine r_callV hC (As := [.int x1_, .int x2_]) (rest := []) (ci := 10) (f_X10_begins g (xL X) K len I J R hs a0 ka0 x1_ x2_ mt hmt kmt nmt B n (hB.mv9 hF kmt (fun _ => rfl)) hBr hn p hp tkm (by omega)) mT_6_19 mT_1_10 mT_6_16 mT_6_18 mP_59 okX10_begins ⟨by decide, by decide⟩ rfl (by show kO (K a0) = _; rw [ka0]; rfl) rfl rfl (Nat.le_of_ble_eq_true rfl) ⟨by decide, by decide⟩ dX10_readStory_10 (aV2 (F := fun st M => P g X 5 13 [(0, .ref a0)] st _ _ M) (M := (K, len, I, J, R)) fun I3 J3 h3 => ?_)
  obtain ⟨hs3, hf3, hfj3, k3_0⟩ := h3
  show P g X 5 13 [(0, .ref a0)] [] _ _ (K, len, I3, J3, R)
  have hF3 : Fr K [(10, 7), (10, 10), (11, 8), (11, 9), (11, 10), (11, 11), (11, 12), (11, 13), (75, 999), (76, 999), (83, 999), (84, 999), (1000, 999)] I I3 := hF.trans hf3 rfl rfl
  have hFJ3 : Fr K [(11, 14), (82, 999)] J J3 := hFJ.trans hfj3 rfl rfl
  have pg3 := pg.mv hf3 kns (fun _ => rfl)
  have nm3 := nm.mv hfj3 knr (fun _ => rfl)
  have oc3 := oc.mv qM_big hf3 rfl
  have rw3 := rwd.mv hcx qM_big hf3 rfl
  have om3 := om.mv hf3 rfl
  have ni3 := ni.mv hf3 kns knn (fun _ => rfl) (fun _ => rfl)
  rcases k3_0 with ⟨hr3, tk3, fl3⟩ | ⟨hr3, hf03, hf13, hf23⟩
  · have fq3 : I3 a0 12 = I a0 12 := fl3.trans rfl
    have hbg : ¬ 6 ≤ D 0 7 := by omega
    refine r_aload_n hC dX10_readStory_13 0 rfl ?_
    refine r_iconst hC (v := (1)) dX10_readStory_14 (by decide) (by decide) (fun x4_ e4 t4 => ?_)
    refine r_aload_n hC dX10_readStory_15 0 rfl ?_
    refine r_getr hC 4 (ci := 10) rfl u10_in (by decide) mT_4_239 dX10_readStory_16 ka0 rfl rfl hbr ?_
    refine r_getiN hC 7 (ci := 9) rfl u9_in (by decide) nF_7 dX10_readStory_19 krm rfl rfl (fun x5_ e5 => ?_)
    have r5 := hs3.rng krm rfl e5
    have f5 : x5_.toInt = (I3 rm 7).toInt := by rw [e5]
    have w5 : x5_ = x1_ := by rw [e5]; exact (Eq.trans (hf3.get krm rfl) e1.symm)
    have wt5 : x5_.toInt = x1_.toInt := by rw [w5]
    have q10 : I3 rm 10 = G10 := (Eq.trans (hf3.get krm rfl) eG10.symm)
    have q10t : (I3 rm 10).toInt = G10.toInt := congrArg Int32.toInt q10
    refine r_callV hC (As := [.int x4_, .int x5_]) (rest := []) (ci := 10) (f_X10_readFresh g (xL X) K len I3 J3 R hs3 a0 ka0 x4_ x5_ rm hbr krm mt hmt kmt nmt B n (hB.mv9 hF3 kmt (fun _ => rfl)) hBr hn (nx B n p) (nx_le hp).2 tk3 nr hnr knr lnr ns hns kns lns nn hnn knn lnn D hD (by omega) nm3 (by omega)) mT_6_23 mT_1_10 mT_6_20 mT_6_22 mP_60 okX10_readFresh ⟨by decide, by decide⟩ rfl (by show kO (K a0) = _; rw [ka0]; rfl) rfl rfl (Nat.le_of_ble_eq_true rfl) ⟨by decide, by decide⟩ dX10_readStory_22 (aV2 (F := fun st M => P g X 5 25 [(0, .ref a0)] st _ _ M) (M := (K, len, I3, J3, R)) fun I6 J6 h6 => ?_)
    obtain ⟨hs6, hf6, hfj6, k6_0, k6_1⟩ := h6
    show P g X 5 25 [(0, .ref a0)] [] _ _ (K, len, I6, J6, R)
    have hF6 : Fr K [(10, 7), (10, 10), (11, 8), (11, 9), (11, 10), (11, 11), (11, 12), (11, 13), (75, 999), (76, 999), (83, 999), (84, 999), (1000, 999)] I I6 := hF3.trans hf6 rfl rfl
    have hFJ6 : Fr K [(11, 14), (82, 999)] J J6 := hFJ3.trans hfj6 rfl rfl
    have oc6 := oc3.mv qM_big hf6 rfl
    have rw6 := rw3.mv hcx qM_big hf6 rfl
    have om6 := om3.tr k6_1
    rcases k6_0 with ⟨hsp6, tk6, nmF6, hten6, od6, nw6, on6, nv6, fl6⟩ | ⟨kf6, qf6, hsp6, hf06, hf16, hf26⟩
    · have fq6 : I6 a0 12 = I a0 12 := fl6.trans fq3
      have pgs6 := PgI.sm (pg3) od6
      have pgf6 := PgI.other (v := (vl B n (nx B n p))) pgs6 (by omega) (sFresh_new hsp6) nw6 (by omega)
      have nis6 := NnI.sm ni3 od6 on6
      have nif6 := NnI.other (v := (vl B n (nx B n p))) nis6 nw6 (by omega)
      clear nw6 nv6
      have rwf6 := rw6.fresh (v := (vl B n (nx B n p)))
      have fz6_7 : (adN D (vl B n (nx B n p))) 0 7 = D 0 7 := adN_n (by decide)
      have G10_6 : (I6 rm 10).toInt = D 0 10 + 1 := hten6
      obtain ⟨N1, eN1⟩ : ∃ z : Int32, z = I6 rm 10 := ⟨_, rfl⟩
      have fN1 : N1.toInt = (I6 rm 10).toInt := by rw [eN1]
      have rN1 := hs6.rng krm rfl eN1
      refine r_aload_n hC dX10_readStory_25 0 rfl ?_
      refine r_ldcS hC (i := 45) (by decide) rfl rfl dX10_readStory_26 ?_
      refine r_iconst hC (v := (1)) dX10_readStory_28 (by decide) (by decide) (fun x7_ e7 t7 => ?_)
      refine r_bipush hC (v := (99)) dX10_readStory_29 (by decide) (by decide) (fun x8_ e8 t8 => ?_)
      refine r_callV hC (As := [.ref (g.2.2.1 45), .int x7_, .int x8_]) (rest := []) (ci := 10) (f_X10_readPart g (xL X) K len I6 J6 R hs6 a0 ka0 45 (by decide) x7_ x8_ mt hmt kmt nmt B n (hB.mv9 hF6 kmt (fun _ => rfl)) hBr hn (nx B n (nx B n p)) (nx_le (nx_le hp).2).2 tk6 (by first | assumption | decide)) mT_6_1 mT_1_10 mT_5_238 mT_6_0 mP_56 okX10_readPart ⟨by decide, by decide⟩ rfl (by show kO (K a0) = _; rw [ka0]; rfl) rfl rfl (Nat.le_of_ble_eq_true rfl) ⟨by decide, by decide⟩ dX10_readStory_31 (aI2 (F := fun st M => P g X 5 34 [(0, .ref a0)] st _ _ M) (M := (K, len, I6, J6, R)) fun x9_ I9 J9 h9 => ?_)
      obtain ⟨hs9, hf9, hfj9, k9_0⟩ := h9
      show P g X 5 34 [(0, .ref a0)] [.int x9_] _ _ (K, len, I9, J9, R)
      have hF9 : Fr K [(10, 7), (10, 10), (11, 8), (11, 9), (11, 10), (11, 11), (11, 12), (11, 13), (75, 999), (76, 999), (83, 999), (84, 999), (1000, 999)] I I9 := hF6.trans hf9 rfl rfl
      have hFJ9 : Fr K [(11, 14), (82, 999)] J J9 := hFJ6.trans hfj9 rfl rfl
      have pg9 := pgf6.mv hf9 kns (fun _ => rfl)
      have nm9 := nmF6.mv hfj9 knr (fun _ => rfl)
      have oc9 := oc6.mv qM_big hf9 rfl
      have rw9 := rwf6.mv hcx qM_big hf9 rfl
      have om9 := om6.mv hf9 rfl
      have ni9 := nif6.mv hf9 kns knn (fun _ => rfl) (fun _ => rfl)
      rcases k9_0 with ⟨v9, p9, hsp9, hp9, tk9, hv9, fl9⟩ | ⟨kf9, qf9, hsp9, hf09, hf19, hf29⟩
      · have fq9 : I9 a0 12 = I a0 12 := fl9.trans fq6
        rw [show x7_.toInt = 1 by omega, show x8_.toInt = 99 by omega] at hsp9
        have rg9 := (sNum_go (nx_le (nx_le hp).2).2 hsp9).2
        refine r_istore_n hC (lv' := [(1, .int x9_), (0, .ref a0)]) dX10_readStory_34 (by decide) rfl ?_
        refine r_aload_n hC dX10_readStory_35 1 rfl ?_
        refine r_ldcS hC (i := 46) (by decide) rfl rfl dX10_readStory_36 ?_
        refine r_callV hC (As := [.ref (g.2.2.1 46)]) (rest := []) (ci := 10) (f_X10_isWord g (xL X) K len I9 J9 R hs9 a0 ka0 46 (by decide) B n p9 hp9 tk9 (by first | assumption | decide)) mT_5_223 mT_1_10 mT_5_220 mT_5_222 mP_53 okX10_isWord ⟨by decide, by decide⟩ rfl (by show kO (K a0) = _; rw [ka0]; rfl) rfl rfl (Nat.le_of_ble_eq_true rfl) ⟨by decide, by decide⟩ dX10_readStory_38 (aI0 (F := fun st M => P g X 5 41 [(1, .int x9_), (0, .ref a0)] st _ _ M) (M := (K, len, I9, J9, R)) fun x10_ h10 => ?_)
        have k10_0 := h10
        clear h10
        show P g X 5 41 [(1, .int x9_), (0, .ref a0)] [.int x10_] _ _ (K, len, I9, J9, R)
        rcases k10_0 with ⟨hr10, hw10⟩ | ⟨hr10, hw10⟩
        · refine r_if_eq hC (tgt := 48) dX10_readStory_41 (by decide) (fun c11 => ?_) (fun c11 => ?_)
          · exfalso; omega
          refine r_iconst hC (v := (0)) dX10_readStory_44 (by decide) (by decide) (fun x12_ e12 t12 => ?_)
          refine r_goto hC (tgt := 115) dX10_readStory_45 (by decide) ?_
          have hkn : sKind B n p9 = 0 := by unfold sKind; rw [pif_t (show isW B n p9 15 from hw10)]
          refine r_istore_n hC (lv' := [(2, .int x12_), (1, .int x9_), (0, .ref a0)]) dX10_readStory_115 (by decide) rfl ?_
          refine r_iload_n hC dX10_readStory_116 0 rfl ?_
          refine r_iconst hC (v := (-1)) dX10_readStory_117 (by decide) (by decide) (fun x13_ e13 t13 => ?_)
          refine r_icmp_ne hC (tgt := 126) dX10_readStory_118 (by decide) (fun c14 => ?_) (fun c14 => ?_)
          rotate_left
          · exfalso; omega
          refine r_aload_n hC dX10_readStory_126 2 rfl ?_
          refine r_callV hC (As := []) (rest := []) (ci := 10) (f_X10_goesOn g (xL X) K len I9 J9 R hs9 a0 ka0 mt hmt kmt nmt B n (hB.mv9 hF9 kmt (fun _ => rfl)) hBr hn (nx B n p9) (nx_le hp9).2 (tk9.e5) (tk9.2.2.1 (by first | omega | (rw [hw10.1]; decide))) (tk9.2.2.2.1)) mT_5_199 mT_1_10 mT_5_196 mT_5_198 mP_49 okX10_goesOn ⟨by decide, by decide⟩ rfl (by show kO (K a0) = _; rw [ka0]; rfl) rfl rfl (Nat.le_of_ble_eq_true rfl) ⟨by decide, by decide⟩ dX10_readStory_127 (aV2 (F := fun st M => P g X 5 130 [(2, .int x12_), (1, .int x9_), (0, .ref a0)] st _ _ M) (M := (K, len, I9, J9, R)) fun I15 J15 h15 => ?_)
          obtain ⟨hs15, hf15, hfj15, k15_0⟩ := h15
          show P g X 5 130 [(2, .int x12_), (1, .int x9_), (0, .ref a0)] [] _ _ (K, len, I15, J15, R)
          have hF15 : Fr K [(10, 7), (10, 10), (11, 8), (11, 9), (11, 10), (11, 11), (11, 12), (11, 13), (75, 999), (76, 999), (83, 999), (84, 999), (1000, 999)] I I15 := hF9.trans hf15 rfl rfl
          have hFJ15 : Fr K [(11, 14), (82, 999)] J J15 := hFJ9.trans hfj15 rfl rfl
          have fp15 : I15 a0 12 = I a0 12 := (hf15.get ka0 rfl).trans fq9
          have pg15 := pg9.mv hf15 kns (fun _ => rfl)
          have nm15 := nm9.mv hfj15 knr (fun _ => rfl)
          have oc15 := oc9.mv qM_big hf15 rfl
          have rw15 := rw9.mv hcx qM_big hf15 rfl
          have om15 := om9.mv hf15 rfl
          have ni15 := ni9.mv hf15 kns knn (fun _ => rfl) (fun _ => rfl)
          refine r_aload_n hC dX10_readStory_130 2 rfl ?_
          refine r_iconst hC (v := (0)) dX10_readStory_131 (by decide) (by decide) (fun x16_ e16 t16 => ?_)
          refine r_bipush hC (v := (99)) dX10_readStory_132 (by decide) (by decide) (fun x17_ e17 t17 => ?_)
          refine r_callV hC (As := [.int x16_, .int x17_]) (rest := []) (ci := 10) (f_X10_readWhole g (xL X) K len I15 J15 R hs15 a0 ka0 x16_ x17_ mt hmt kmt nmt B n (hB.mv9 hF15 kmt (fun _ => rfl)) hBr hn (nx B n p9) (nx_le hp9).2 k15_0) mT_6_5 mT_1_10 mT_6_2 mT_6_4 mP_57 okX10_readWhole ⟨by decide, by decide⟩ rfl (by show kO (K a0) = _; rw [ka0]; rfl) rfl rfl (Nat.le_of_ble_eq_true rfl) ⟨by decide, by decide⟩ dX10_readStory_134 (aI2 (F := fun st M => P g X 5 137 [(2, .int x12_), (1, .int x9_), (0, .ref a0)] st _ _ M) (M := (K, len, I15, J15, R)) fun x18_ I18 J18 h18 => ?_)
          obtain ⟨hs18, hf18, hfj18, k18_0⟩ := h18
          show P g X 5 137 [(2, .int x12_), (1, .int x9_), (0, .ref a0)] [.int x18_] _ _ (K, len, I18, J18, R)
          have hF18 : Fr K [(10, 7), (10, 10), (11, 8), (11, 9), (11, 10), (11, 11), (11, 12), (11, 13), (75, 999), (76, 999), (83, 999), (84, 999), (1000, 999)] I I18 := hF15.trans hf18 rfl rfl
          have hFJ18 : Fr K [(11, 14), (82, 999)] J J18 := hFJ15.trans hfj18 rfl rfl
          have pg18 := pg15.mv hf18 kns (fun _ => rfl)
          have nm18 := nm15.mv hfj18 knr (fun _ => rfl)
          have oc18 := oc15.mv qM_big hf18 rfl
          have rw18 := rw15.mv hcx qM_big hf18 rfl
          have om18 := om15.mv hf18 rfl
          have ni18 := ni15.mv hf18 kns knn (fun _ => rfl) (fun _ => rfl)
          rcases k18_0 with ⟨v18, p18, hsp18, hp18, tk18, hv18, fl18⟩ | ⟨kf18, qf18, hsp18, hf018, hf118, hf218⟩
          · have fq18 : I18 a0 12 = I a0 12 := fl18.trans fp15
            rw [show x16_.toInt = 0 by omega, show x17_.toInt = 99 by omega] at hsp18
            have rg18 := (sWhole_go (nx_le hp9).2 hsp18).2
            refine r_istore_n hC (lv' := [(3, .int x18_), (2, .int x12_), (1, .int x9_), (0, .ref a0)]) dX10_readStory_137 (by decide) rfl ?_
            refine r_iload_n hC dX10_readStory_138 1 rfl ?_
            refine r_iconst hC (v := (2)) dX10_readStory_139 (by decide) (by decide) (fun x19_ e19 t19 => ?_)
            refine r_icmp_ne hC (tgt := 156) dX10_readStory_140 (by decide) (fun c20 => ?_) (fun c20 => ?_)
            rotate_left
            · exfalso; omega
            refine r_iload_n hC dX10_readStory_156 1 rfl ?_
            refine r_iconst hC (v := (3)) dX10_readStory_157 (by decide) (by decide) (fun x21_ e21 t21 => ?_)
            refine r_icmp_ne hC (tgt := 175) dX10_readStory_158 (by decide) (fun c22 => ?_) (fun c22 => ?_)
            rotate_left
            · exfalso; omega
            refine r_iload_n hC dX10_readStory_175 1 rfl ?_
            refine r_iconst hC (v := (4)) dX10_readStory_176 (by decide) (by decide) (fun x23_ e23 t23 => ?_)
            refine r_icmp_ne hC (tgt := 193) dX10_readStory_177 (by decide) (fun c24 => ?_) (fun c24 => ?_)
            rotate_left
            · exfalso; omega
            refine r_iconst hC (v := (0)) dX10_readStory_193 (by decide) (by decide) (fun x25_ e25 t25 => ?_)
            refine r_istore hC (lv' := [(4, .int x25_), (3, .int x18_), (2, .int x12_), (1, .int x9_), (0, .ref a0)]) dX10_readStory_194 (by decide) rfl ?_
            refine r_aload_n hC dX10_readStory_196 4 rfl ?_
            have n5_197 := tk18.e5
            refine r_geti hC 9 (ci := 10) rfl u10_in (by decide) mT_5_4 dX10_readStory_197 ka0 rfl rfl (fun x26_ e26 => ?_)
            have f26 : x26_.toInt = (I18 a0 9).toInt := by rw [e26]
            refine r_iconst hC (v := (5)) dX10_readStory_200 (by decide) (by decide) (fun x27_ e27 t27 => ?_)
            refine r_icmp_ne hC (tgt := 205) dX10_readStory_201 (by decide) (fun c28 => ?_) (fun c28 => ?_)
            rotate_left
            · exfalso; omega
            refine r_aload_n hC dX10_readStory_205 4 rfl ?_
            refine r_getr hC 4 (ci := 10) rfl u10_in (by decide) mT_4_239 dX10_readStory_206 ka0 rfl rfl hbr ?_
            obtain ⟨a29_, hb29, hk29, hn29⟩ := hs18.row krm 16 75 6 (by decide) (by decide)
            refine r_getrN hC 16 (ci := 9) rfl u9_in (by decide) nF_16 dX10_readStory_209 krm rfl rfl hb29 ?_
            refine r_aload_n hC dX10_readStory_212 4 rfl ?_
            refine r_getr hC 4 (ci := 10) rfl u10_in (by decide) mT_4_239 dX10_readStory_213 ka0 rfl rfl hbr ?_
            refine r_getiN hC 7 (ci := 9) rfl u9_in (by decide) nF_7 dX10_readStory_216 krm rfl rfl (fun x30_ e30 => ?_)
            have r30 := hs18.rng krm rfl e30
            have f30 : x30_.toInt = (I18 rm 7).toInt := by rw [e30]
            have w30 : x30_ = x5_ := by rw [e30]; exact (Eq.trans (hf18.get krm rfl) (Eq.trans (hf15.get krm rfl) (Eq.trans (hf9.get krm rfl) (Eq.trans (hf6.get krm rfl) e5.symm))))
            have wt30 : x30_.toInt = x5_.toInt := by rw [w30]
            refine r_iload_n hC dX10_readStory_219 3 rfl ?_
            refine x_iastore hC hk29 hn29 (by decide) rfl rfl dX10_readStory_220 (by omega) (by omega) (fun I31 eI31 => ?_)
            have hs31 := hs18.put0 eI31 hk29 (rng_arr (by decide) _) rfl (xF_arr (by decide) _) (by decide)
            have hF31 := hF18.put eI31 hk29 (inS_arr rfl _)
            have tkp31 := tk18.put eI31 hk29 ka0 (by decide)
            have fp31 : I31 a0 12 = I a0 12 := (up2_kk eI31 hk29 ka0 (by decide)).trans fq18
            have pg31 := pg18.put eI31 hk29 kns (by decide)
            have om31 := om18.put eI31 hk29 (by first | exact Or.inr rfl | exact Or.inl (by decide) | exact Or.inl (by omega))
            have ni31 := ni18.put eI31 hk29 kns knn (by decide) (by decide)
            have nnz : 0 ≤ (adN D (vl B n (nx B n p))) 0 7 := by omega
            have ix31 : x30_.toInt = (adN D (vl B n (nx B n p))) 0 7 := by omega
            have eC31 := eI31
            rw [clx ix31 nnz] at eC31
            have rw31 := rw18.put hcx (r0 := 6) (j0 := ((adN D (vl B n (nx B n p))) 0 7).toNat) (w := v9) (cM (r := 6) (by decide) (by decide) hb29) eC31 hv9 (by rw [cnt_6]; exact Int.toNat_of_nonneg nnz) (fun h9 => absurd h9 (by decide))
            have oc31 := oc18.put (cM (r := 6) (by decide) (by decide) hb29) eC31
            refine r_aload_n hC dX10_readStory_221 4 rfl ?_
            refine r_getr hC 4 (ci := 10) rfl u10_in (by decide) mT_4_239 dX10_readStory_222 ka0 rfl rfl hbr ?_
            obtain ⟨kd32, mo32, hb32, hk32, hn32, hB32, hK32, hN32⟩ := hs31.2.2.1 rm krm
            refine r_getrN hC 17 (ci := 9) rfl u9_in (by decide) nF_17 dX10_readStory_225 krm rfl rfl hb32 ?_
            refine r_aload_n hC dX10_readStory_228 4 rfl ?_
            refine r_getr hC 4 (ci := 10) rfl u10_in (by decide) mT_4_239 dX10_readStory_229 ka0 rfl rfl hbr ?_
            refine r_getiN hC 7 (ci := 9) rfl u9_in (by decide) nF_7 dX10_readStory_232 krm rfl rfl (fun x33_ e33 => ?_)
            have r33 := hs31.rng krm rfl e33
            have f33 : x33_.toInt = (I31 rm 7).toInt := by rw [e33]
            have w33 : x33_ = x30_ := by rw [e33]; exact (Eq.trans (up2_kk eI31 hk29 krm (by decide)) e30.symm)
            have wt33 : x33_.toInt = x30_.toInt := by rw [w33]
            refine r_iload_n hC dX10_readStory_235 2 rfl ?_
            refine x_iastore hC hk32 hn32 (by omega) (kOb (by omega)) (kAb (by omega)) dX10_readStory_236 (by omega) (by omega) (fun I34 eI34 => ?_)
            have hs34 : Sf K len I34 R := hs31.putK (rm := rm) eI34 (Or.inl hk32) (by have h9 := clampI (i := x33_) (by omega); omega)
            have hF34 := hF31.put eI34 hk32 (inS_big rfl (by omega) _)
            have tkp34 := tkp31.put eI34 hk32 ka0 (by omega)
            have fp34 : I34 a0 12 = I a0 12 := (up2_kk eI34 hk32 ka0 (by omega)).trans fp31
            have pg34 := pg31.put eI34 hk32 kns (by omega)
            have om34 := om31.put eI34 hk32 (by first | exact Or.inr rfl | exact Or.inl (by decide) | exact Or.inl (by omega))
            have ni34 := ni31.put eI34 hk32 kns knn (by omega) (by omega)
            have eC34 := eI34
            rw [clx (wt33.trans ix31) nnz] at eC34
            have rw34 := rw31.put hcx (r0 := 7) (j0 := ((adN D (vl B n (nx B n p))) 0 7).toNat) (w := sKind B n p9) (cM (r := 7) (by decide) (by decide) hb32) eC34 (by omega) (by rw [upN_o (by decide), cnt_7]; exact Int.toNat_of_nonneg nnz) (fun _ => by rw [upN_o (by decide), cnt_9]; exact Int.le_of_eq (Int.toNat_of_nonneg nnz).symm)
            have oc34 := oc31.put (cM (r := 7) (by decide) (by decide) hb32) eC34
            refine r_aload_n hC dX10_readStory_237 4 rfl ?_
            refine r_getr hC 4 (ci := 10) rfl u10_in (by decide) mT_4_239 dX10_readStory_238 ka0 rfl rfl hbr ?_
            obtain ⟨a35_, hb35, hk35, hn35⟩ := hs34.row krm 18 76 6 (by decide) (by decide)
            refine r_getrN hC 18 (ci := 9) rfl u9_in (by decide) nF_18 dX10_readStory_241 krm rfl rfl hb35 ?_
            refine r_aload_n hC dX10_readStory_244 4 rfl ?_
            refine r_getr hC 4 (ci := 10) rfl u10_in (by decide) mT_4_239 dX10_readStory_245 ka0 rfl rfl hbr ?_
            refine r_getiN hC 7 (ci := 9) rfl u9_in (by decide) nF_7 dX10_readStory_248 krm rfl rfl (fun x36_ e36 => ?_)
            have r36 := hs34.rng krm rfl e36
            have f36 : x36_.toInt = (I34 rm 7).toInt := by rw [e36]
            have w36 : x36_ = x33_ := by rw [e36]; exact (Eq.trans (up2_kk eI34 hk32 krm (by omega)) e33.symm)
            have wt36 : x36_.toInt = x33_.toInt := by rw [w36]
            refine r_iload_n hC dX10_readStory_251 1 rfl ?_
            refine x_iastore hC hk35 hn35 (by decide) rfl rfl dX10_readStory_252 (by omega) (by omega) (fun I37 eI37 => ?_)
            have hs37 := hs34.put0 eI37 hk35 (rng_arr (by decide) _) rfl (xF_arr (by decide) _) (by decide)
            have hF37 := hF34.put eI37 hk35 (inS_arr rfl _)
            have tkp37 := tkp34.put eI37 hk35 ka0 (by decide)
            have fp37 : I37 a0 12 = I a0 12 := (up2_kk eI37 hk35 ka0 (by decide)).trans fp34
            have pg37 := pg34.put eI37 hk35 kns (by decide)
            have om37 := om34.put eI37 hk35 (by first | exact Or.inr rfl | exact Or.inl (by decide) | exact Or.inl (by omega))
            have ni37 := ni34.put eI37 hk35 kns knn (by decide) (by decide)
            have eC37 := eI37
            rw [clx (wt36.trans (wt33.trans ix31)) nnz] at eC37
            have rw37 := rw34.put hcx (r0 := 8) (j0 := ((adN D (vl B n (nx B n p))) 0 7).toNat) (w := v18) (cM (r := 8) (by decide) (by decide) hb35) eC37 hv18 (by rw [upN_o (by decide), upN_o (by decide), cnt_8]; exact Int.toNat_of_nonneg nnz) (fun h9 => absurd h9 (by decide))
            have oc37 := oc34.put (cM (r := 8) (by decide) (by decide) hb35) eC37
            refine r_aload_n hC dX10_readStory_253 4 rfl ?_
            refine r_getr hC 4 (ci := 10) rfl u10_in (by decide) mT_4_239 dX10_readStory_254 ka0 rfl rfl hbr ?_
            refine r_getrN hC 19 (ci := 9) rfl u9_in (by decide) nF_19 dX10_readStory_257 krm rfl rfl hB32 ?_
            refine r_aload_n hC dX10_readStory_260 4 rfl ?_
            refine r_getr hC 4 (ci := 10) rfl u10_in (by decide) mT_4_239 dX10_readStory_261 ka0 rfl rfl hbr ?_
            refine r_getiN hC 7 (ci := 9) rfl u9_in (by decide) nF_7 dX10_readStory_264 krm rfl rfl (fun x38_ e38 => ?_)
            have r38 := hs37.rng krm rfl e38
            have f38 : x38_.toInt = (I37 rm 7).toInt := by rw [e38]
            have w38 : x38_ = x36_ := by rw [e38]; exact (Eq.trans (up2_kk eI37 hk35 krm (by decide)) e36.symm)
            have wt38 : x38_.toInt = x36_.toInt := by rw [w38]
            refine r_iload hC dX10_readStory_267 0 rfl ?_
            refine x_iastore hC hK32 hN32 (by omega) (kOb (by omega)) (kAb (by omega)) dX10_readStory_269 (by omega) (by omega) (fun I39 eI39 => ?_)
            have hs39 : Sf K len I39 R := hs37.putK (rm := rm) eI39 (Or.inr hK32) (by have h9 := clampI (i := x38_) (by omega); omega)
            have hF39 := hF37.put eI39 hK32 (inS_big rfl (by omega) _)
            have tkp39 := tkp37.put eI39 hK32 ka0 (by omega)
            have fp39 : I39 a0 12 = I a0 12 := (up2_kk eI39 hK32 ka0 (by omega)).trans fp37
            have pg39 := pg37.put eI39 hK32 kns (by omega)
            have om39 := om37.put eI39 hK32 (by first | exact Or.inr rfl | exact Or.inl (by decide) | exact Or.inl (by omega))
            have ni39 := ni37.put eI39 hK32 kns knn (by omega) (by omega)
            have eC39 := eI39
            rw [clx (wt38.trans (wt36.trans (wt33.trans ix31))) nnz] at eC39
            have rw39 := rw37.put hcx (r0 := 9) (j0 := ((adN D (vl B n (nx B n p))) 0 7).toNat) (w := 0) (cM (r := 9) (by decide) (by decide) hB32) eC39 (by omega) (by rw [upN_o (by decide), upN_o (by decide), upN_o (by decide), cnt_9]; exact Int.toNat_of_nonneg nnz) (fun h9 => absurd h9 (by decide))
            have oc39 := oc37.put (cM (r := 9) (by decide) (by decide) hB32) eC39
            refine r_aload_n hC dX10_readStory_270 4 rfl ?_
            refine r_getr hC 4 (ci := 10) rfl u10_in (by decide) mT_4_239 dX10_readStory_271 ka0 rfl rfl hbr ?_
            refine r_dup hC dX10_readStory_274 rfl ?_
            refine r_getiN hC 7 (ci := 9) rfl u9_in (by decide) nF_7 dX10_readStory_275 krm rfl rfl (fun x40_ e40 => ?_)
            have r40 := hs39.rng krm rfl e40
            have f40 : x40_.toInt = (I39 rm 7).toInt := by rw [e40]
            have w40 : x40_ = x38_ := by rw [e40]; exact (Eq.trans (up2_kk eI39 hK32 krm (by omega)) e38.symm)
            have wt40 : x40_.toInt = x38_.toInt := by rw [w40]
            refine r_iconst hC (v := (1)) dX10_readStory_278 (by decide) (by decide) (fun x41_ e41 t41 => ?_)
            refine r_iadd hC dX10_readStory_279 (fun x42_ e42 => ?_)
            try have t42 : x42_.toInt = x40_.toInt + x41_.toInt := by rw [e42]; exact ti_add (by omega) (by omega)
            refine r_putiN hC 7 (ci := 9) rfl u9_in tyX9_ok nmX9 (by decide) nF_7 rfl rfl rfl dX10_readStory_280 krm rfl rfl (fun I43 eI43 => ?_)
            have hs43 : Sf K len I43 R := hs39.putA7 eI43 krm hb32 hB32 (by omega) (by omega) (j := x33_.toNatClampNeg) (by have h9 := clampI (i := x33_) (by omega); omega) (by omega) (by rw [(show I39 kd32 x33_.toNatClampNeg = x12_ from (Eq.trans (up2_kk eI39 hK32 hk32 (by omega)) (Eq.trans (up2_kk eI37 hk35 hk32 (by omega)) (by rw [eI34]; exact up2_self _ _ _ _)))), cl_eq (show x33_.toInt = x38_.toInt by omega), (show I39 mo32 x38_.toNatClampNeg = x25_ from (by rw [eI39]; exact up2_self _ _ _ _))]; omega)
            have hF43 := hF39.put eI43 krm rfl
            have tkp43 := tkp39.put eI43 krm ka0 (by decide)
            have fp43 : I43 a0 12 = I a0 12 := (up2_kk eI43 krm ka0 (by decide)).trans fp39
            have pg43 := pg39.put eI43 krm kns (by decide)
            have om43 := om39.put eI43 krm (by first | exact Or.inr rfl | exact Or.inl (by decide) | exact Or.inl (by omega))
            have ni43 := ni39.put eI43 krm kns knn (by decide) (by decide)
            have rw43 := rw39.putO hcx eI43 krm rfl
            have oc43 := oc39.putO eI43 krm rfl
            have hG0 : I43 rm 0 = G0 := (Eq.trans (up2_at (Or.inr (by decide)) eI43) (Eq.trans (up2_kk eI39 hK32 krm (by omega)) (Eq.trans (up2_kk eI37 hk35 krm (by decide)) (Eq.trans (up2_kk eI34 hk32 krm (by omega)) (Eq.trans (up2_kk eI31 hk29 krm (by decide)) (Eq.trans (hf18.get krm rfl) (Eq.trans (hf15.get krm rfl) (Eq.trans (hf9.get krm rfl) (Eq.trans (hf6.get krm rfl) (Eq.trans (hf3.get krm rfl) eG0.symm))))))))))
            have hG0t : (I43 rm 0).toInt = G0.toInt := congrArg Int32.toInt hG0
            have hG1 : I43 rm 1 = G1 := (Eq.trans (up2_at (Or.inr (by decide)) eI43) (Eq.trans (up2_kk eI39 hK32 krm (by omega)) (Eq.trans (up2_kk eI37 hk35 krm (by decide)) (Eq.trans (up2_kk eI34 hk32 krm (by omega)) (Eq.trans (up2_kk eI31 hk29 krm (by decide)) (Eq.trans (hf18.get krm rfl) (Eq.trans (hf15.get krm rfl) (Eq.trans (hf9.get krm rfl) (Eq.trans (hf6.get krm rfl) (Eq.trans (hf3.get krm rfl) eG1.symm))))))))))
            have hG1t : (I43 rm 1).toInt = G1.toInt := congrArg Int32.toInt hG1
            have hG2 : I43 rm 2 = G2 := (Eq.trans (up2_at (Or.inr (by decide)) eI43) (Eq.trans (up2_kk eI39 hK32 krm (by omega)) (Eq.trans (up2_kk eI37 hk35 krm (by decide)) (Eq.trans (up2_kk eI34 hk32 krm (by omega)) (Eq.trans (up2_kk eI31 hk29 krm (by decide)) (Eq.trans (hf18.get krm rfl) (Eq.trans (hf15.get krm rfl) (Eq.trans (hf9.get krm rfl) (Eq.trans (hf6.get krm rfl) (Eq.trans (hf3.get krm rfl) eG2.symm))))))))))
            have hG2t : (I43 rm 2).toInt = G2.toInt := congrArg Int32.toInt hG2
            have hG3 : I43 rm 3 = G3 := (Eq.trans (up2_at (Or.inr (by decide)) eI43) (Eq.trans (up2_kk eI39 hK32 krm (by omega)) (Eq.trans (up2_kk eI37 hk35 krm (by decide)) (Eq.trans (up2_kk eI34 hk32 krm (by omega)) (Eq.trans (up2_kk eI31 hk29 krm (by decide)) (Eq.trans (hf18.get krm rfl) (Eq.trans (hf15.get krm rfl) (Eq.trans (hf9.get krm rfl) (Eq.trans (hf6.get krm rfl) (Eq.trans (hf3.get krm rfl) eG3.symm))))))))))
            have hG3t : (I43 rm 3).toInt = G3.toInt := congrArg Int32.toInt hG3
            have hG4 : I43 rm 4 = G4 := (Eq.trans (up2_at (Or.inr (by decide)) eI43) (Eq.trans (up2_kk eI39 hK32 krm (by omega)) (Eq.trans (up2_kk eI37 hk35 krm (by decide)) (Eq.trans (up2_kk eI34 hk32 krm (by omega)) (Eq.trans (up2_kk eI31 hk29 krm (by decide)) (Eq.trans (hf18.get krm rfl) (Eq.trans (hf15.get krm rfl) (Eq.trans (hf9.get krm rfl) (Eq.trans (hf6.get krm rfl) (Eq.trans (hf3.get krm rfl) eG4.symm))))))))))
            have hG4t : (I43 rm 4).toInt = G4.toInt := congrArg Int32.toInt hG4
            have hG5 : I43 rm 5 = G5 := (Eq.trans (up2_at (Or.inr (by decide)) eI43) (Eq.trans (up2_kk eI39 hK32 krm (by omega)) (Eq.trans (up2_kk eI37 hk35 krm (by decide)) (Eq.trans (up2_kk eI34 hk32 krm (by omega)) (Eq.trans (up2_kk eI31 hk29 krm (by decide)) (Eq.trans (hf18.get krm rfl) (Eq.trans (hf15.get krm rfl) (Eq.trans (hf9.get krm rfl) (Eq.trans (hf6.get krm rfl) (Eq.trans (hf3.get krm rfl) eG5.symm))))))))))
            have hG5t : (I43 rm 5).toInt = G5.toInt := congrArg Int32.toInt hG5
            have hG6 : I43 rm 6 = G6 := (Eq.trans (up2_at (Or.inr (by decide)) eI43) (Eq.trans (up2_kk eI39 hK32 krm (by omega)) (Eq.trans (up2_kk eI37 hk35 krm (by decide)) (Eq.trans (up2_kk eI34 hk32 krm (by omega)) (Eq.trans (up2_kk eI31 hk29 krm (by decide)) (Eq.trans (hf18.get krm rfl) (Eq.trans (hf15.get krm rfl) (Eq.trans (hf9.get krm rfl) (Eq.trans (hf6.get krm rfl) (Eq.trans (hf3.get krm rfl) eG6.symm))))))))))
            have hG6t : (I43 rm 6).toInt = G6.toInt := congrArg Int32.toInt hG6
            have hG7 : I43 rm 7 = x42_ := (by rw [eI43]; exact up2_self _ _ _ _)
            have hG7t : (I43 rm 7).toInt = x42_.toInt := congrArg Int32.toInt hG7
            have hG8 : I43 rm 8 = G8 := (Eq.trans (up2_at (Or.inr (by decide)) eI43) (Eq.trans (up2_kk eI39 hK32 krm (by omega)) (Eq.trans (up2_kk eI37 hk35 krm (by decide)) (Eq.trans (up2_kk eI34 hk32 krm (by omega)) (Eq.trans (up2_kk eI31 hk29 krm (by decide)) (Eq.trans (hf18.get krm rfl) (Eq.trans (hf15.get krm rfl) (Eq.trans (hf9.get krm rfl) (Eq.trans (hf6.get krm rfl) (Eq.trans (hf3.get krm rfl) eG8.symm))))))))))
            have hG8t : (I43 rm 8).toInt = G8.toInt := congrArg Int32.toInt hG8
            have hG9 : I43 rm 9 = G9 := (Eq.trans (up2_at (Or.inr (by decide)) eI43) (Eq.trans (up2_kk eI39 hK32 krm (by omega)) (Eq.trans (up2_kk eI37 hk35 krm (by decide)) (Eq.trans (up2_kk eI34 hk32 krm (by omega)) (Eq.trans (up2_kk eI31 hk29 krm (by decide)) (Eq.trans (hf18.get krm rfl) (Eq.trans (hf15.get krm rfl) (Eq.trans (hf9.get krm rfl) (Eq.trans (hf6.get krm rfl) (Eq.trans (hf3.get krm rfl) eG9.symm))))))))))
            have hG9t : (I43 rm 9).toInt = G9.toInt := congrArg Int32.toInt hG9
            have hG10 : I43 rm 10 = N1 := (Eq.trans (up2_at (Or.inr (by decide)) eI43) (Eq.trans (up2_kk eI39 hK32 krm (by omega)) (Eq.trans (up2_kk eI37 hk35 krm (by decide)) (Eq.trans (up2_kk eI34 hk32 krm (by omega)) (Eq.trans (up2_kk eI31 hk29 krm (by decide)) (Eq.trans (hf18.get krm rfl) (Eq.trans (hf15.get krm rfl) (Eq.trans (hf9.get krm rfl) eN1.symm))))))))
            have hG10t : (I43 rm 10).toInt = N1.toInt := congrArg Int32.toInt hG10
            exact r_vret hC hQ hlk hr (by decide) (by decide) dX10_readStory_283 ⟨_, _, rfl, rfl, ⟨hs43, hF43, hFJ18, (by exact Or.inl ⟨_, _, by unfold sStory sMore; rw [pif_f hbg, hsp6, bnd_ok, hsp9, bnd_ok, pif_f (show ¬ sKind B n p9 = -1 by rw [hkn]; decide), hsp18, bnd_ok, pif_f (show ¬ sKind B n p9 = 2 by rw [hkn]; decide), pif_f (show ¬ sKind B n p9 = 3 by rw [hkn]; decide), pif_f (show ¬ sKind B n p9 = 4 by rw [hkn]; decide), bnd_ok], hp18, tkp43, ⟨sm.st (by omega) (by omega) (by omega) (by simp [upD, adN, aStory]) (by simp [upD, adN, aStory]) (by simp [upD, adN, aStory]) (by simp [upD, adN, aStory]) (by simp [upD, adN, aStory]; omega) (by simp [upD, adN, aStory]; omega) (by simp [upD, adN, aStory]; omega) (by simp [upD, adN, aStory]; omega) (by simp [upD, adN, aStory]; omega) (by simp [upD, adN, aStory]; omega) (by simp [upD, adN, aStory]; omega) (by simp [upD, adN, aStory]; omega), nm18.cg (by simp [upD, aStory]) (by intro j; simp [upD, aStory]), pg43.cg (by simp [upD, aStory]) (by intro j; simp [upD, aStory]) (by simp [upD, aStory]) (by intro j; simp [upD, aStory])⟩, ni43.cg (by simp [upD, aStory]) (by intro j; simp [upD, aStory]) (by simp [upD, aStory]) (by intro j; simp [upD, aStory]), rw43.sto (Int.toNat_of_nonneg nnz) (fun _ => rfl), fp43⟩), (by exact om43), (by exact oc43)⟩⟩
          · rw [show x16_.toInt = 0 by omega, show x17_.toInt = 99 by omega] at hsp18
            refine r_istore_n hC (lv' := [(3, .int x18_), (2, .int x12_), (1, .int x9_), (0, .ref a0)]) dX10_readStory_137 (by decide) rfl ?_
            refine r_iload_n hC dX10_readStory_138 1 rfl ?_
            refine r_iconst hC (v := (2)) dX10_readStory_139 (by decide) (by decide) (fun x44_ e44 t44 => ?_)
            refine r_icmp_ne hC (tgt := 156) dX10_readStory_140 (by decide) (fun c45 => ?_) (fun c45 => ?_)
            rotate_left
            · exfalso; omega
            refine r_iload_n hC dX10_readStory_156 1 rfl ?_
            refine r_iconst hC (v := (3)) dX10_readStory_157 (by decide) (by decide) (fun x46_ e46 t46 => ?_)
            refine r_icmp_ne hC (tgt := 175) dX10_readStory_158 (by decide) (fun c47 => ?_) (fun c47 => ?_)
            rotate_left
            · exfalso; omega
            refine r_iload_n hC dX10_readStory_175 1 rfl ?_
            refine r_iconst hC (v := (4)) dX10_readStory_176 (by decide) (by decide) (fun x48_ e48 t48 => ?_)
            refine r_icmp_ne hC (tgt := 193) dX10_readStory_177 (by decide) (fun c49 => ?_) (fun c49 => ?_)
            rotate_left
            · exfalso; omega
            refine r_iconst hC (v := (0)) dX10_readStory_193 (by decide) (by decide) (fun x50_ e50 t50 => ?_)
            refine r_istore hC (lv' := [(4, .int x50_), (3, .int x18_), (2, .int x12_), (1, .int x9_), (0, .ref a0)]) dX10_readStory_194 (by decide) rfl ?_
            refine r_aload_n hC dX10_readStory_196 4 rfl ?_
            refine r_geti hC 9 (ci := 10) rfl u10_in (by decide) mT_5_4 dX10_readStory_197 ka0 rfl rfl (fun x51_ e51 => ?_)
            have f51 : x51_.toInt = (I18 a0 9).toInt := by rw [e51]
            refine r_iconst hC (v := (5)) dX10_readStory_200 (by decide) (by decide) (fun x52_ e52 t52 => ?_)
            refine r_icmp_ne hC (tgt := 205) dX10_readStory_201 (by decide) (fun c53 => ?_) (fun c53 => ?_)
            · exfalso; omega
            have hG0 : I18 rm 0 = G0 := (Eq.trans (hf18.get krm rfl) (Eq.trans (hf15.get krm rfl) (Eq.trans (hf9.get krm rfl) (Eq.trans (hf6.get krm rfl) (Eq.trans (hf3.get krm rfl) eG0.symm)))))
            have hG0t : (I18 rm 0).toInt = G0.toInt := congrArg Int32.toInt hG0
            have hG1 : I18 rm 1 = G1 := (Eq.trans (hf18.get krm rfl) (Eq.trans (hf15.get krm rfl) (Eq.trans (hf9.get krm rfl) (Eq.trans (hf6.get krm rfl) (Eq.trans (hf3.get krm rfl) eG1.symm)))))
            have hG1t : (I18 rm 1).toInt = G1.toInt := congrArg Int32.toInt hG1
            have hG2 : I18 rm 2 = G2 := (Eq.trans (hf18.get krm rfl) (Eq.trans (hf15.get krm rfl) (Eq.trans (hf9.get krm rfl) (Eq.trans (hf6.get krm rfl) (Eq.trans (hf3.get krm rfl) eG2.symm)))))
            have hG2t : (I18 rm 2).toInt = G2.toInt := congrArg Int32.toInt hG2
            have hG3 : I18 rm 3 = G3 := (Eq.trans (hf18.get krm rfl) (Eq.trans (hf15.get krm rfl) (Eq.trans (hf9.get krm rfl) (Eq.trans (hf6.get krm rfl) (Eq.trans (hf3.get krm rfl) eG3.symm)))))
            have hG3t : (I18 rm 3).toInt = G3.toInt := congrArg Int32.toInt hG3
            have hG4 : I18 rm 4 = G4 := (Eq.trans (hf18.get krm rfl) (Eq.trans (hf15.get krm rfl) (Eq.trans (hf9.get krm rfl) (Eq.trans (hf6.get krm rfl) (Eq.trans (hf3.get krm rfl) eG4.symm)))))
            have hG4t : (I18 rm 4).toInt = G4.toInt := congrArg Int32.toInt hG4
            have hG5 : I18 rm 5 = G5 := (Eq.trans (hf18.get krm rfl) (Eq.trans (hf15.get krm rfl) (Eq.trans (hf9.get krm rfl) (Eq.trans (hf6.get krm rfl) (Eq.trans (hf3.get krm rfl) eG5.symm)))))
            have hG5t : (I18 rm 5).toInt = G5.toInt := congrArg Int32.toInt hG5
            have hG6 : I18 rm 6 = G6 := (Eq.trans (hf18.get krm rfl) (Eq.trans (hf15.get krm rfl) (Eq.trans (hf9.get krm rfl) (Eq.trans (hf6.get krm rfl) (Eq.trans (hf3.get krm rfl) eG6.symm)))))
            have hG6t : (I18 rm 6).toInt = G6.toInt := congrArg Int32.toInt hG6
            have hG7 : I18 rm 7 = x5_ := (Eq.trans (hf18.get krm rfl) (Eq.trans (hf15.get krm rfl) (Eq.trans (hf9.get krm rfl) (Eq.trans (hf6.get krm rfl) e5.symm))))
            have hG7t : (I18 rm 7).toInt = x5_.toInt := congrArg Int32.toInt hG7
            have hG8 : I18 rm 8 = G8 := (Eq.trans (hf18.get krm rfl) (Eq.trans (hf15.get krm rfl) (Eq.trans (hf9.get krm rfl) (Eq.trans (hf6.get krm rfl) (Eq.trans (hf3.get krm rfl) eG8.symm)))))
            have hG8t : (I18 rm 8).toInt = G8.toInt := congrArg Int32.toInt hG8
            have hG9 : I18 rm 9 = G9 := (Eq.trans (hf18.get krm rfl) (Eq.trans (hf15.get krm rfl) (Eq.trans (hf9.get krm rfl) (Eq.trans (hf6.get krm rfl) (Eq.trans (hf3.get krm rfl) eG9.symm)))))
            have hG9t : (I18 rm 9).toInt = G9.toInt := congrArg Int32.toInt hG9
            have hG10 : I18 rm 10 = N1 := (Eq.trans (hf18.get krm rfl) (Eq.trans (hf15.get krm rfl) (Eq.trans (hf9.get krm rfl) eN1.symm)))
            have hG10t : (I18 rm 10).toInt = N1.toInt := congrArg Int32.toInt hG10
            exact r_vret hC hQ hlk hr (by decide) (by decide) dX10_readStory_204 ⟨_, _, rfl, rfl, ⟨hs18, hF18, hFJ18, (by exact Or.inr ⟨kf18, qf18, by unfold sStory sMore; rw [pif_f hbg, hsp6, bnd_ok, hsp9, bnd_ok, pif_f (show ¬ sKind B n p9 = -1 by rw [hkn]; decide), hsp18, bnd_er], by omega, by omega, by omega⟩), (by exact om18), (by exact oc18)⟩⟩
        · refine r_if_eq hC (tgt := 48) dX10_readStory_41 (by decide) (fun c54 => ?_) (fun c54 => ?_)
          rotate_left
          · exfalso; omega
          refine r_aload_n hC dX10_readStory_48 1 rfl ?_
          refine r_ldcS hC (i := 47) (by decide) rfl rfl dX10_readStory_49 ?_
          refine r_callV hC (As := [.ref (g.2.2.1 47)]) (rest := []) (ci := 10) (f_X10_isWord g (xL X) K len I9 J9 R hs9 a0 ka0 47 (by decide) B n p9 hp9 tk9 (by first | assumption | decide)) mT_5_223 mT_1_10 mT_5_220 mT_5_222 mP_53 okX10_isWord ⟨by decide, by decide⟩ rfl (by show kO (K a0) = _; rw [ka0]; rfl) rfl rfl (Nat.le_of_ble_eq_true rfl) ⟨by decide, by decide⟩ dX10_readStory_51 (aI0 (F := fun st M => P g X 5 54 [(1, .int x9_), (0, .ref a0)] st _ _ M) (M := (K, len, I9, J9, R)) fun x55_ h55 => ?_)
          have k55_0 := h55
          clear h55
          show P g X 5 54 [(1, .int x9_), (0, .ref a0)] [.int x55_] _ _ (K, len, I9, J9, R)
          rcases k55_0 with ⟨hr55, hw55⟩ | ⟨hr55, hw55⟩
          · refine r_if_eq hC (tgt := 61) dX10_readStory_54 (by decide) (fun c56 => ?_) (fun c56 => ?_)
            · exfalso; omega
            refine r_iconst hC (v := (1)) dX10_readStory_57 (by decide) (by decide) (fun x57_ e57 t57 => ?_)
            refine r_goto hC (tgt := 115) dX10_readStory_58 (by decide) ?_
            have hkn : sKind B n p9 = 1 := by unfold sKind; rw [pif_f (show ¬ isW B n p9 15 from hw10), pif_t (show isW B n p9 16 from hw55)]
            refine r_istore_n hC (lv' := [(2, .int x57_), (1, .int x9_), (0, .ref a0)]) dX10_readStory_115 (by decide) rfl ?_
            refine r_iload_n hC dX10_readStory_116 0 rfl ?_
            refine r_iconst hC (v := (-1)) dX10_readStory_117 (by decide) (by decide) (fun x58_ e58 t58 => ?_)
            refine r_icmp_ne hC (tgt := 126) dX10_readStory_118 (by decide) (fun c59 => ?_) (fun c59 => ?_)
            rotate_left
            · exfalso; omega
            refine r_aload_n hC dX10_readStory_126 2 rfl ?_
            refine r_callV hC (As := []) (rest := []) (ci := 10) (f_X10_goesOn g (xL X) K len I9 J9 R hs9 a0 ka0 mt hmt kmt nmt B n (hB.mv9 hF9 kmt (fun _ => rfl)) hBr hn (nx B n p9) (nx_le hp9).2 (tk9.e5) (tk9.2.2.1 (by first | omega | (rw [hw55.1]; decide))) (tk9.2.2.2.1)) mT_5_199 mT_1_10 mT_5_196 mT_5_198 mP_49 okX10_goesOn ⟨by decide, by decide⟩ rfl (by show kO (K a0) = _; rw [ka0]; rfl) rfl rfl (Nat.le_of_ble_eq_true rfl) ⟨by decide, by decide⟩ dX10_readStory_127 (aV2 (F := fun st M => P g X 5 130 [(2, .int x57_), (1, .int x9_), (0, .ref a0)] st _ _ M) (M := (K, len, I9, J9, R)) fun I60 J60 h60 => ?_)
            obtain ⟨hs60, hf60, hfj60, k60_0⟩ := h60
            show P g X 5 130 [(2, .int x57_), (1, .int x9_), (0, .ref a0)] [] _ _ (K, len, I60, J60, R)
            have hF60 : Fr K [(10, 7), (10, 10), (11, 8), (11, 9), (11, 10), (11, 11), (11, 12), (11, 13), (75, 999), (76, 999), (83, 999), (84, 999), (1000, 999)] I I60 := hF9.trans hf60 rfl rfl
            have hFJ60 : Fr K [(11, 14), (82, 999)] J J60 := hFJ9.trans hfj60 rfl rfl
            have fp60 : I60 a0 12 = I a0 12 := (hf60.get ka0 rfl).trans fq9
            have pg60 := pg9.mv hf60 kns (fun _ => rfl)
            have nm60 := nm9.mv hfj60 knr (fun _ => rfl)
            have oc60 := oc9.mv qM_big hf60 rfl
            have rw60 := rw9.mv hcx qM_big hf60 rfl
            have om60 := om9.mv hf60 rfl
            have ni60 := ni9.mv hf60 kns knn (fun _ => rfl) (fun _ => rfl)
            refine r_aload_n hC dX10_readStory_130 2 rfl ?_
            refine r_iconst hC (v := (0)) dX10_readStory_131 (by decide) (by decide) (fun x61_ e61 t61 => ?_)
            refine r_bipush hC (v := (99)) dX10_readStory_132 (by decide) (by decide) (fun x62_ e62 t62 => ?_)
            refine r_callV hC (As := [.int x61_, .int x62_]) (rest := []) (ci := 10) (f_X10_readWhole g (xL X) K len I60 J60 R hs60 a0 ka0 x61_ x62_ mt hmt kmt nmt B n (hB.mv9 hF60 kmt (fun _ => rfl)) hBr hn (nx B n p9) (nx_le hp9).2 k60_0) mT_6_5 mT_1_10 mT_6_2 mT_6_4 mP_57 okX10_readWhole ⟨by decide, by decide⟩ rfl (by show kO (K a0) = _; rw [ka0]; rfl) rfl rfl (Nat.le_of_ble_eq_true rfl) ⟨by decide, by decide⟩ dX10_readStory_134 (aI2 (F := fun st M => P g X 5 137 [(2, .int x57_), (1, .int x9_), (0, .ref a0)] st _ _ M) (M := (K, len, I60, J60, R)) fun x63_ I63 J63 h63 => ?_)
            obtain ⟨hs63, hf63, hfj63, k63_0⟩ := h63
            show P g X 5 137 [(2, .int x57_), (1, .int x9_), (0, .ref a0)] [.int x63_] _ _ (K, len, I63, J63, R)
            have hF63 : Fr K [(10, 7), (10, 10), (11, 8), (11, 9), (11, 10), (11, 11), (11, 12), (11, 13), (75, 999), (76, 999), (83, 999), (84, 999), (1000, 999)] I I63 := hF60.trans hf63 rfl rfl
            have hFJ63 : Fr K [(11, 14), (82, 999)] J J63 := hFJ60.trans hfj63 rfl rfl
            have pg63 := pg60.mv hf63 kns (fun _ => rfl)
            have nm63 := nm60.mv hfj63 knr (fun _ => rfl)
            have oc63 := oc60.mv qM_big hf63 rfl
            have rw63 := rw60.mv hcx qM_big hf63 rfl
            have om63 := om60.mv hf63 rfl
            have ni63 := ni60.mv hf63 kns knn (fun _ => rfl) (fun _ => rfl)
            rcases k63_0 with ⟨v63, p63, hsp63, hp63, tk63, hv63, fl63⟩ | ⟨kf63, qf63, hsp63, hf063, hf163, hf263⟩
            · have fq63 : I63 a0 12 = I a0 12 := fl63.trans fp60
              rw [show x61_.toInt = 0 by omega, show x62_.toInt = 99 by omega] at hsp63
              have rg63 := (sWhole_go (nx_le hp9).2 hsp63).2
              refine r_istore_n hC (lv' := [(3, .int x63_), (2, .int x57_), (1, .int x9_), (0, .ref a0)]) dX10_readStory_137 (by decide) rfl ?_
              refine r_iload_n hC dX10_readStory_138 1 rfl ?_
              refine r_iconst hC (v := (2)) dX10_readStory_139 (by decide) (by decide) (fun x64_ e64 t64 => ?_)
              refine r_icmp_ne hC (tgt := 156) dX10_readStory_140 (by decide) (fun c65 => ?_) (fun c65 => ?_)
              rotate_left
              · exfalso; omega
              refine r_iload_n hC dX10_readStory_156 1 rfl ?_
              refine r_iconst hC (v := (3)) dX10_readStory_157 (by decide) (by decide) (fun x66_ e66 t66 => ?_)
              refine r_icmp_ne hC (tgt := 175) dX10_readStory_158 (by decide) (fun c67 => ?_) (fun c67 => ?_)
              rotate_left
              · exfalso; omega
              refine r_iload_n hC dX10_readStory_175 1 rfl ?_
              refine r_iconst hC (v := (4)) dX10_readStory_176 (by decide) (by decide) (fun x68_ e68 t68 => ?_)
              refine r_icmp_ne hC (tgt := 193) dX10_readStory_177 (by decide) (fun c69 => ?_) (fun c69 => ?_)
              rotate_left
              · exfalso; omega
              refine r_iconst hC (v := (0)) dX10_readStory_193 (by decide) (by decide) (fun x70_ e70 t70 => ?_)
              refine r_istore hC (lv' := [(4, .int x70_), (3, .int x63_), (2, .int x57_), (1, .int x9_), (0, .ref a0)]) dX10_readStory_194 (by decide) rfl ?_
              refine r_aload_n hC dX10_readStory_196 4 rfl ?_
              have n5_197 := tk63.e5
              refine r_geti hC 9 (ci := 10) rfl u10_in (by decide) mT_5_4 dX10_readStory_197 ka0 rfl rfl (fun x71_ e71 => ?_)
              have f71 : x71_.toInt = (I63 a0 9).toInt := by rw [e71]
              refine r_iconst hC (v := (5)) dX10_readStory_200 (by decide) (by decide) (fun x72_ e72 t72 => ?_)
              refine r_icmp_ne hC (tgt := 205) dX10_readStory_201 (by decide) (fun c73 => ?_) (fun c73 => ?_)
              rotate_left
              · exfalso; omega
              refine r_aload_n hC dX10_readStory_205 4 rfl ?_
              refine r_getr hC 4 (ci := 10) rfl u10_in (by decide) mT_4_239 dX10_readStory_206 ka0 rfl rfl hbr ?_
              obtain ⟨a74_, hb74, hk74, hn74⟩ := hs63.row krm 16 75 6 (by decide) (by decide)
              refine r_getrN hC 16 (ci := 9) rfl u9_in (by decide) nF_16 dX10_readStory_209 krm rfl rfl hb74 ?_
              refine r_aload_n hC dX10_readStory_212 4 rfl ?_
              refine r_getr hC 4 (ci := 10) rfl u10_in (by decide) mT_4_239 dX10_readStory_213 ka0 rfl rfl hbr ?_
              refine r_getiN hC 7 (ci := 9) rfl u9_in (by decide) nF_7 dX10_readStory_216 krm rfl rfl (fun x75_ e75 => ?_)
              have r75 := hs63.rng krm rfl e75
              have f75 : x75_.toInt = (I63 rm 7).toInt := by rw [e75]
              have w75 : x75_ = x5_ := by rw [e75]; exact (Eq.trans (hf63.get krm rfl) (Eq.trans (hf60.get krm rfl) (Eq.trans (hf9.get krm rfl) (Eq.trans (hf6.get krm rfl) e5.symm))))
              have wt75 : x75_.toInt = x5_.toInt := by rw [w75]
              refine r_iload_n hC dX10_readStory_219 3 rfl ?_
              refine x_iastore hC hk74 hn74 (by decide) rfl rfl dX10_readStory_220 (by omega) (by omega) (fun I76 eI76 => ?_)
              have hs76 := hs63.put0 eI76 hk74 (rng_arr (by decide) _) rfl (xF_arr (by decide) _) (by decide)
              have hF76 := hF63.put eI76 hk74 (inS_arr rfl _)
              have tkp76 := tk63.put eI76 hk74 ka0 (by decide)
              have fp76 : I76 a0 12 = I a0 12 := (up2_kk eI76 hk74 ka0 (by decide)).trans fq63
              have pg76 := pg63.put eI76 hk74 kns (by decide)
              have om76 := om63.put eI76 hk74 (by first | exact Or.inr rfl | exact Or.inl (by decide) | exact Or.inl (by omega))
              have ni76 := ni63.put eI76 hk74 kns knn (by decide) (by decide)
              have nnz : 0 ≤ (adN D (vl B n (nx B n p))) 0 7 := by omega
              have ix76 : x75_.toInt = (adN D (vl B n (nx B n p))) 0 7 := by omega
              have eC76 := eI76
              rw [clx ix76 nnz] at eC76
              have rw76 := rw63.put hcx (r0 := 6) (j0 := ((adN D (vl B n (nx B n p))) 0 7).toNat) (w := v9) (cM (r := 6) (by decide) (by decide) hb74) eC76 hv9 (by rw [cnt_6]; exact Int.toNat_of_nonneg nnz) (fun h9 => absurd h9 (by decide))
              have oc76 := oc63.put (cM (r := 6) (by decide) (by decide) hb74) eC76
              refine r_aload_n hC dX10_readStory_221 4 rfl ?_
              refine r_getr hC 4 (ci := 10) rfl u10_in (by decide) mT_4_239 dX10_readStory_222 ka0 rfl rfl hbr ?_
              obtain ⟨kd77, mo77, hb77, hk77, hn77, hB77, hK77, hN77⟩ := hs76.2.2.1 rm krm
              refine r_getrN hC 17 (ci := 9) rfl u9_in (by decide) nF_17 dX10_readStory_225 krm rfl rfl hb77 ?_
              refine r_aload_n hC dX10_readStory_228 4 rfl ?_
              refine r_getr hC 4 (ci := 10) rfl u10_in (by decide) mT_4_239 dX10_readStory_229 ka0 rfl rfl hbr ?_
              refine r_getiN hC 7 (ci := 9) rfl u9_in (by decide) nF_7 dX10_readStory_232 krm rfl rfl (fun x78_ e78 => ?_)
              have r78 := hs76.rng krm rfl e78
              have f78 : x78_.toInt = (I76 rm 7).toInt := by rw [e78]
              have w78 : x78_ = x75_ := by rw [e78]; exact (Eq.trans (up2_kk eI76 hk74 krm (by decide)) e75.symm)
              have wt78 : x78_.toInt = x75_.toInt := by rw [w78]
              refine r_iload_n hC dX10_readStory_235 2 rfl ?_
              refine x_iastore hC hk77 hn77 (by omega) (kOb (by omega)) (kAb (by omega)) dX10_readStory_236 (by omega) (by omega) (fun I79 eI79 => ?_)
              have hs79 : Sf K len I79 R := hs76.putK (rm := rm) eI79 (Or.inl hk77) (by have h9 := clampI (i := x78_) (by omega); omega)
              have hF79 := hF76.put eI79 hk77 (inS_big rfl (by omega) _)
              have tkp79 := tkp76.put eI79 hk77 ka0 (by omega)
              have fp79 : I79 a0 12 = I a0 12 := (up2_kk eI79 hk77 ka0 (by omega)).trans fp76
              have pg79 := pg76.put eI79 hk77 kns (by omega)
              have om79 := om76.put eI79 hk77 (by first | exact Or.inr rfl | exact Or.inl (by decide) | exact Or.inl (by omega))
              have ni79 := ni76.put eI79 hk77 kns knn (by omega) (by omega)
              have eC79 := eI79
              rw [clx (wt78.trans ix76) nnz] at eC79
              have rw79 := rw76.put hcx (r0 := 7) (j0 := ((adN D (vl B n (nx B n p))) 0 7).toNat) (w := sKind B n p9) (cM (r := 7) (by decide) (by decide) hb77) eC79 (by omega) (by rw [upN_o (by decide), cnt_7]; exact Int.toNat_of_nonneg nnz) (fun _ => by rw [upN_o (by decide), cnt_9]; exact Int.le_of_eq (Int.toNat_of_nonneg nnz).symm)
              have oc79 := oc76.put (cM (r := 7) (by decide) (by decide) hb77) eC79
              refine r_aload_n hC dX10_readStory_237 4 rfl ?_
              refine r_getr hC 4 (ci := 10) rfl u10_in (by decide) mT_4_239 dX10_readStory_238 ka0 rfl rfl hbr ?_
              obtain ⟨a80_, hb80, hk80, hn80⟩ := hs79.row krm 18 76 6 (by decide) (by decide)
              refine r_getrN hC 18 (ci := 9) rfl u9_in (by decide) nF_18 dX10_readStory_241 krm rfl rfl hb80 ?_
              refine r_aload_n hC dX10_readStory_244 4 rfl ?_
              refine r_getr hC 4 (ci := 10) rfl u10_in (by decide) mT_4_239 dX10_readStory_245 ka0 rfl rfl hbr ?_
              refine r_getiN hC 7 (ci := 9) rfl u9_in (by decide) nF_7 dX10_readStory_248 krm rfl rfl (fun x81_ e81 => ?_)
              have r81 := hs79.rng krm rfl e81
              have f81 : x81_.toInt = (I79 rm 7).toInt := by rw [e81]
              have w81 : x81_ = x78_ := by rw [e81]; exact (Eq.trans (up2_kk eI79 hk77 krm (by omega)) e78.symm)
              have wt81 : x81_.toInt = x78_.toInt := by rw [w81]
              refine r_iload_n hC dX10_readStory_251 1 rfl ?_
              refine x_iastore hC hk80 hn80 (by decide) rfl rfl dX10_readStory_252 (by omega) (by omega) (fun I82 eI82 => ?_)
              have hs82 := hs79.put0 eI82 hk80 (rng_arr (by decide) _) rfl (xF_arr (by decide) _) (by decide)
              have hF82 := hF79.put eI82 hk80 (inS_arr rfl _)
              have tkp82 := tkp79.put eI82 hk80 ka0 (by decide)
              have fp82 : I82 a0 12 = I a0 12 := (up2_kk eI82 hk80 ka0 (by decide)).trans fp79
              have pg82 := pg79.put eI82 hk80 kns (by decide)
              have om82 := om79.put eI82 hk80 (by first | exact Or.inr rfl | exact Or.inl (by decide) | exact Or.inl (by omega))
              have ni82 := ni79.put eI82 hk80 kns knn (by decide) (by decide)
              have eC82 := eI82
              rw [clx (wt81.trans (wt78.trans ix76)) nnz] at eC82
              have rw82 := rw79.put hcx (r0 := 8) (j0 := ((adN D (vl B n (nx B n p))) 0 7).toNat) (w := v63) (cM (r := 8) (by decide) (by decide) hb80) eC82 hv63 (by rw [upN_o (by decide), upN_o (by decide), cnt_8]; exact Int.toNat_of_nonneg nnz) (fun h9 => absurd h9 (by decide))
              have oc82 := oc79.put (cM (r := 8) (by decide) (by decide) hb80) eC82
              refine r_aload_n hC dX10_readStory_253 4 rfl ?_
              refine r_getr hC 4 (ci := 10) rfl u10_in (by decide) mT_4_239 dX10_readStory_254 ka0 rfl rfl hbr ?_
              refine r_getrN hC 19 (ci := 9) rfl u9_in (by decide) nF_19 dX10_readStory_257 krm rfl rfl hB77 ?_
              refine r_aload_n hC dX10_readStory_260 4 rfl ?_
              refine r_getr hC 4 (ci := 10) rfl u10_in (by decide) mT_4_239 dX10_readStory_261 ka0 rfl rfl hbr ?_
              refine r_getiN hC 7 (ci := 9) rfl u9_in (by decide) nF_7 dX10_readStory_264 krm rfl rfl (fun x83_ e83 => ?_)
              have r83 := hs82.rng krm rfl e83
              have f83 : x83_.toInt = (I82 rm 7).toInt := by rw [e83]
              have w83 : x83_ = x81_ := by rw [e83]; exact (Eq.trans (up2_kk eI82 hk80 krm (by decide)) e81.symm)
              have wt83 : x83_.toInt = x81_.toInt := by rw [w83]
              refine r_iload hC dX10_readStory_267 0 rfl ?_
              refine x_iastore hC hK77 hN77 (by omega) (kOb (by omega)) (kAb (by omega)) dX10_readStory_269 (by omega) (by omega) (fun I84 eI84 => ?_)
              have hs84 : Sf K len I84 R := hs82.putK (rm := rm) eI84 (Or.inr hK77) (by have h9 := clampI (i := x83_) (by omega); omega)
              have hF84 := hF82.put eI84 hK77 (inS_big rfl (by omega) _)
              have tkp84 := tkp82.put eI84 hK77 ka0 (by omega)
              have fp84 : I84 a0 12 = I a0 12 := (up2_kk eI84 hK77 ka0 (by omega)).trans fp82
              have pg84 := pg82.put eI84 hK77 kns (by omega)
              have om84 := om82.put eI84 hK77 (by first | exact Or.inr rfl | exact Or.inl (by decide) | exact Or.inl (by omega))
              have ni84 := ni82.put eI84 hK77 kns knn (by omega) (by omega)
              have eC84 := eI84
              rw [clx (wt83.trans (wt81.trans (wt78.trans ix76))) nnz] at eC84
              have rw84 := rw82.put hcx (r0 := 9) (j0 := ((adN D (vl B n (nx B n p))) 0 7).toNat) (w := 0) (cM (r := 9) (by decide) (by decide) hB77) eC84 (by omega) (by rw [upN_o (by decide), upN_o (by decide), upN_o (by decide), cnt_9]; exact Int.toNat_of_nonneg nnz) (fun h9 => absurd h9 (by decide))
              have oc84 := oc82.put (cM (r := 9) (by decide) (by decide) hB77) eC84
              refine r_aload_n hC dX10_readStory_270 4 rfl ?_
              refine r_getr hC 4 (ci := 10) rfl u10_in (by decide) mT_4_239 dX10_readStory_271 ka0 rfl rfl hbr ?_
              refine r_dup hC dX10_readStory_274 rfl ?_
              refine r_getiN hC 7 (ci := 9) rfl u9_in (by decide) nF_7 dX10_readStory_275 krm rfl rfl (fun x85_ e85 => ?_)
              have r85 := hs84.rng krm rfl e85
              have f85 : x85_.toInt = (I84 rm 7).toInt := by rw [e85]
              have w85 : x85_ = x83_ := by rw [e85]; exact (Eq.trans (up2_kk eI84 hK77 krm (by omega)) e83.symm)
              have wt85 : x85_.toInt = x83_.toInt := by rw [w85]
              refine r_iconst hC (v := (1)) dX10_readStory_278 (by decide) (by decide) (fun x86_ e86 t86 => ?_)
              refine r_iadd hC dX10_readStory_279 (fun x87_ e87 => ?_)
              try have t87 : x87_.toInt = x85_.toInt + x86_.toInt := by rw [e87]; exact ti_add (by omega) (by omega)
              refine r_putiN hC 7 (ci := 9) rfl u9_in tyX9_ok nmX9 (by decide) nF_7 rfl rfl rfl dX10_readStory_280 krm rfl rfl (fun I88 eI88 => ?_)
              have hs88 : Sf K len I88 R := hs84.putA7 eI88 krm hb77 hB77 (by omega) (by omega) (j := x78_.toNatClampNeg) (by have h9 := clampI (i := x78_) (by omega); omega) (by omega) (by rw [(show I84 kd77 x78_.toNatClampNeg = x57_ from (Eq.trans (up2_kk eI84 hK77 hk77 (by omega)) (Eq.trans (up2_kk eI82 hk80 hk77 (by omega)) (by rw [eI79]; exact up2_self _ _ _ _)))), cl_eq (show x78_.toInt = x83_.toInt by omega), (show I84 mo77 x83_.toNatClampNeg = x70_ from (by rw [eI84]; exact up2_self _ _ _ _))]; omega)
              have hF88 := hF84.put eI88 krm rfl
              have tkp88 := tkp84.put eI88 krm ka0 (by decide)
              have fp88 : I88 a0 12 = I a0 12 := (up2_kk eI88 krm ka0 (by decide)).trans fp84
              have pg88 := pg84.put eI88 krm kns (by decide)
              have om88 := om84.put eI88 krm (by first | exact Or.inr rfl | exact Or.inl (by decide) | exact Or.inl (by omega))
              have ni88 := ni84.put eI88 krm kns knn (by decide) (by decide)
              have rw88 := rw84.putO hcx eI88 krm rfl
              have oc88 := oc84.putO eI88 krm rfl
              have hG0 : I88 rm 0 = G0 := (Eq.trans (up2_at (Or.inr (by decide)) eI88) (Eq.trans (up2_kk eI84 hK77 krm (by omega)) (Eq.trans (up2_kk eI82 hk80 krm (by decide)) (Eq.trans (up2_kk eI79 hk77 krm (by omega)) (Eq.trans (up2_kk eI76 hk74 krm (by decide)) (Eq.trans (hf63.get krm rfl) (Eq.trans (hf60.get krm rfl) (Eq.trans (hf9.get krm rfl) (Eq.trans (hf6.get krm rfl) (Eq.trans (hf3.get krm rfl) eG0.symm))))))))))
              have hG0t : (I88 rm 0).toInt = G0.toInt := congrArg Int32.toInt hG0
              have hG1 : I88 rm 1 = G1 := (Eq.trans (up2_at (Or.inr (by decide)) eI88) (Eq.trans (up2_kk eI84 hK77 krm (by omega)) (Eq.trans (up2_kk eI82 hk80 krm (by decide)) (Eq.trans (up2_kk eI79 hk77 krm (by omega)) (Eq.trans (up2_kk eI76 hk74 krm (by decide)) (Eq.trans (hf63.get krm rfl) (Eq.trans (hf60.get krm rfl) (Eq.trans (hf9.get krm rfl) (Eq.trans (hf6.get krm rfl) (Eq.trans (hf3.get krm rfl) eG1.symm))))))))))
              have hG1t : (I88 rm 1).toInt = G1.toInt := congrArg Int32.toInt hG1
              have hG2 : I88 rm 2 = G2 := (Eq.trans (up2_at (Or.inr (by decide)) eI88) (Eq.trans (up2_kk eI84 hK77 krm (by omega)) (Eq.trans (up2_kk eI82 hk80 krm (by decide)) (Eq.trans (up2_kk eI79 hk77 krm (by omega)) (Eq.trans (up2_kk eI76 hk74 krm (by decide)) (Eq.trans (hf63.get krm rfl) (Eq.trans (hf60.get krm rfl) (Eq.trans (hf9.get krm rfl) (Eq.trans (hf6.get krm rfl) (Eq.trans (hf3.get krm rfl) eG2.symm))))))))))
              have hG2t : (I88 rm 2).toInt = G2.toInt := congrArg Int32.toInt hG2
              have hG3 : I88 rm 3 = G3 := (Eq.trans (up2_at (Or.inr (by decide)) eI88) (Eq.trans (up2_kk eI84 hK77 krm (by omega)) (Eq.trans (up2_kk eI82 hk80 krm (by decide)) (Eq.trans (up2_kk eI79 hk77 krm (by omega)) (Eq.trans (up2_kk eI76 hk74 krm (by decide)) (Eq.trans (hf63.get krm rfl) (Eq.trans (hf60.get krm rfl) (Eq.trans (hf9.get krm rfl) (Eq.trans (hf6.get krm rfl) (Eq.trans (hf3.get krm rfl) eG3.symm))))))))))
              have hG3t : (I88 rm 3).toInt = G3.toInt := congrArg Int32.toInt hG3
              have hG4 : I88 rm 4 = G4 := (Eq.trans (up2_at (Or.inr (by decide)) eI88) (Eq.trans (up2_kk eI84 hK77 krm (by omega)) (Eq.trans (up2_kk eI82 hk80 krm (by decide)) (Eq.trans (up2_kk eI79 hk77 krm (by omega)) (Eq.trans (up2_kk eI76 hk74 krm (by decide)) (Eq.trans (hf63.get krm rfl) (Eq.trans (hf60.get krm rfl) (Eq.trans (hf9.get krm rfl) (Eq.trans (hf6.get krm rfl) (Eq.trans (hf3.get krm rfl) eG4.symm))))))))))
              have hG4t : (I88 rm 4).toInt = G4.toInt := congrArg Int32.toInt hG4
              have hG5 : I88 rm 5 = G5 := (Eq.trans (up2_at (Or.inr (by decide)) eI88) (Eq.trans (up2_kk eI84 hK77 krm (by omega)) (Eq.trans (up2_kk eI82 hk80 krm (by decide)) (Eq.trans (up2_kk eI79 hk77 krm (by omega)) (Eq.trans (up2_kk eI76 hk74 krm (by decide)) (Eq.trans (hf63.get krm rfl) (Eq.trans (hf60.get krm rfl) (Eq.trans (hf9.get krm rfl) (Eq.trans (hf6.get krm rfl) (Eq.trans (hf3.get krm rfl) eG5.symm))))))))))
              have hG5t : (I88 rm 5).toInt = G5.toInt := congrArg Int32.toInt hG5
              have hG6 : I88 rm 6 = G6 := (Eq.trans (up2_at (Or.inr (by decide)) eI88) (Eq.trans (up2_kk eI84 hK77 krm (by omega)) (Eq.trans (up2_kk eI82 hk80 krm (by decide)) (Eq.trans (up2_kk eI79 hk77 krm (by omega)) (Eq.trans (up2_kk eI76 hk74 krm (by decide)) (Eq.trans (hf63.get krm rfl) (Eq.trans (hf60.get krm rfl) (Eq.trans (hf9.get krm rfl) (Eq.trans (hf6.get krm rfl) (Eq.trans (hf3.get krm rfl) eG6.symm))))))))))
              have hG6t : (I88 rm 6).toInt = G6.toInt := congrArg Int32.toInt hG6
              have hG7 : I88 rm 7 = x87_ := (by rw [eI88]; exact up2_self _ _ _ _)
              have hG7t : (I88 rm 7).toInt = x87_.toInt := congrArg Int32.toInt hG7
              have hG8 : I88 rm 8 = G8 := (Eq.trans (up2_at (Or.inr (by decide)) eI88) (Eq.trans (up2_kk eI84 hK77 krm (by omega)) (Eq.trans (up2_kk eI82 hk80 krm (by decide)) (Eq.trans (up2_kk eI79 hk77 krm (by omega)) (Eq.trans (up2_kk eI76 hk74 krm (by decide)) (Eq.trans (hf63.get krm rfl) (Eq.trans (hf60.get krm rfl) (Eq.trans (hf9.get krm rfl) (Eq.trans (hf6.get krm rfl) (Eq.trans (hf3.get krm rfl) eG8.symm))))))))))
              have hG8t : (I88 rm 8).toInt = G8.toInt := congrArg Int32.toInt hG8
              have hG9 : I88 rm 9 = G9 := (Eq.trans (up2_at (Or.inr (by decide)) eI88) (Eq.trans (up2_kk eI84 hK77 krm (by omega)) (Eq.trans (up2_kk eI82 hk80 krm (by decide)) (Eq.trans (up2_kk eI79 hk77 krm (by omega)) (Eq.trans (up2_kk eI76 hk74 krm (by decide)) (Eq.trans (hf63.get krm rfl) (Eq.trans (hf60.get krm rfl) (Eq.trans (hf9.get krm rfl) (Eq.trans (hf6.get krm rfl) (Eq.trans (hf3.get krm rfl) eG9.symm))))))))))
              have hG9t : (I88 rm 9).toInt = G9.toInt := congrArg Int32.toInt hG9
              have hG10 : I88 rm 10 = N1 := (Eq.trans (up2_at (Or.inr (by decide)) eI88) (Eq.trans (up2_kk eI84 hK77 krm (by omega)) (Eq.trans (up2_kk eI82 hk80 krm (by decide)) (Eq.trans (up2_kk eI79 hk77 krm (by omega)) (Eq.trans (up2_kk eI76 hk74 krm (by decide)) (Eq.trans (hf63.get krm rfl) (Eq.trans (hf60.get krm rfl) (Eq.trans (hf9.get krm rfl) eN1.symm))))))))
              have hG10t : (I88 rm 10).toInt = N1.toInt := congrArg Int32.toInt hG10
              exact r_vret hC hQ hlk hr (by decide) (by decide) dX10_readStory_283 ⟨_, _, rfl, rfl, ⟨hs88, hF88, hFJ63, (by exact Or.inl ⟨_, _, by unfold sStory sMore; rw [pif_f hbg, hsp6, bnd_ok, hsp9, bnd_ok, pif_f (show ¬ sKind B n p9 = -1 by rw [hkn]; decide), hsp63, bnd_ok, pif_f (show ¬ sKind B n p9 = 2 by rw [hkn]; decide), pif_f (show ¬ sKind B n p9 = 3 by rw [hkn]; decide), pif_f (show ¬ sKind B n p9 = 4 by rw [hkn]; decide), bnd_ok], hp63, tkp88, ⟨sm.st (by omega) (by omega) (by omega) (by simp [upD, adN, aStory]) (by simp [upD, adN, aStory]) (by simp [upD, adN, aStory]) (by simp [upD, adN, aStory]) (by simp [upD, adN, aStory]; omega) (by simp [upD, adN, aStory]; omega) (by simp [upD, adN, aStory]; omega) (by simp [upD, adN, aStory]; omega) (by simp [upD, adN, aStory]; omega) (by simp [upD, adN, aStory]; omega) (by simp [upD, adN, aStory]; omega) (by simp [upD, adN, aStory]; omega), nm63.cg (by simp [upD, aStory]) (by intro j; simp [upD, aStory]), pg88.cg (by simp [upD, aStory]) (by intro j; simp [upD, aStory]) (by simp [upD, aStory]) (by intro j; simp [upD, aStory])⟩, ni88.cg (by simp [upD, aStory]) (by intro j; simp [upD, aStory]) (by simp [upD, aStory]) (by intro j; simp [upD, aStory]), rw88.sto (Int.toNat_of_nonneg nnz) (fun _ => rfl), fp88⟩), (by exact om88), (by exact oc88)⟩⟩
            · rw [show x61_.toInt = 0 by omega, show x62_.toInt = 99 by omega] at hsp63
              refine r_istore_n hC (lv' := [(3, .int x63_), (2, .int x57_), (1, .int x9_), (0, .ref a0)]) dX10_readStory_137 (by decide) rfl ?_
              refine r_iload_n hC dX10_readStory_138 1 rfl ?_
              refine r_iconst hC (v := (2)) dX10_readStory_139 (by decide) (by decide) (fun x89_ e89 t89 => ?_)
              refine r_icmp_ne hC (tgt := 156) dX10_readStory_140 (by decide) (fun c90 => ?_) (fun c90 => ?_)
              rotate_left
              · exfalso; omega
              refine r_iload_n hC dX10_readStory_156 1 rfl ?_
              refine r_iconst hC (v := (3)) dX10_readStory_157 (by decide) (by decide) (fun x91_ e91 t91 => ?_)
              refine r_icmp_ne hC (tgt := 175) dX10_readStory_158 (by decide) (fun c92 => ?_) (fun c92 => ?_)
              rotate_left
              · exfalso; omega
              refine r_iload_n hC dX10_readStory_175 1 rfl ?_
              refine r_iconst hC (v := (4)) dX10_readStory_176 (by decide) (by decide) (fun x93_ e93 t93 => ?_)
              refine r_icmp_ne hC (tgt := 193) dX10_readStory_177 (by decide) (fun c94 => ?_) (fun c94 => ?_)
              rotate_left
              · exfalso; omega
              refine r_iconst hC (v := (0)) dX10_readStory_193 (by decide) (by decide) (fun x95_ e95 t95 => ?_)
              refine r_istore hC (lv' := [(4, .int x95_), (3, .int x63_), (2, .int x57_), (1, .int x9_), (0, .ref a0)]) dX10_readStory_194 (by decide) rfl ?_
              refine r_aload_n hC dX10_readStory_196 4 rfl ?_
              refine r_geti hC 9 (ci := 10) rfl u10_in (by decide) mT_5_4 dX10_readStory_197 ka0 rfl rfl (fun x96_ e96 => ?_)
              have f96 : x96_.toInt = (I63 a0 9).toInt := by rw [e96]
              refine r_iconst hC (v := (5)) dX10_readStory_200 (by decide) (by decide) (fun x97_ e97 t97 => ?_)
              refine r_icmp_ne hC (tgt := 205) dX10_readStory_201 (by decide) (fun c98 => ?_) (fun c98 => ?_)
              · exfalso; omega
              have hG0 : I63 rm 0 = G0 := (Eq.trans (hf63.get krm rfl) (Eq.trans (hf60.get krm rfl) (Eq.trans (hf9.get krm rfl) (Eq.trans (hf6.get krm rfl) (Eq.trans (hf3.get krm rfl) eG0.symm)))))
              have hG0t : (I63 rm 0).toInt = G0.toInt := congrArg Int32.toInt hG0
              have hG1 : I63 rm 1 = G1 := (Eq.trans (hf63.get krm rfl) (Eq.trans (hf60.get krm rfl) (Eq.trans (hf9.get krm rfl) (Eq.trans (hf6.get krm rfl) (Eq.trans (hf3.get krm rfl) eG1.symm)))))
              have hG1t : (I63 rm 1).toInt = G1.toInt := congrArg Int32.toInt hG1
              have hG2 : I63 rm 2 = G2 := (Eq.trans (hf63.get krm rfl) (Eq.trans (hf60.get krm rfl) (Eq.trans (hf9.get krm rfl) (Eq.trans (hf6.get krm rfl) (Eq.trans (hf3.get krm rfl) eG2.symm)))))
              have hG2t : (I63 rm 2).toInt = G2.toInt := congrArg Int32.toInt hG2
              have hG3 : I63 rm 3 = G3 := (Eq.trans (hf63.get krm rfl) (Eq.trans (hf60.get krm rfl) (Eq.trans (hf9.get krm rfl) (Eq.trans (hf6.get krm rfl) (Eq.trans (hf3.get krm rfl) eG3.symm)))))
              have hG3t : (I63 rm 3).toInt = G3.toInt := congrArg Int32.toInt hG3
              have hG4 : I63 rm 4 = G4 := (Eq.trans (hf63.get krm rfl) (Eq.trans (hf60.get krm rfl) (Eq.trans (hf9.get krm rfl) (Eq.trans (hf6.get krm rfl) (Eq.trans (hf3.get krm rfl) eG4.symm)))))
              have hG4t : (I63 rm 4).toInt = G4.toInt := congrArg Int32.toInt hG4
              have hG5 : I63 rm 5 = G5 := (Eq.trans (hf63.get krm rfl) (Eq.trans (hf60.get krm rfl) (Eq.trans (hf9.get krm rfl) (Eq.trans (hf6.get krm rfl) (Eq.trans (hf3.get krm rfl) eG5.symm)))))
              have hG5t : (I63 rm 5).toInt = G5.toInt := congrArg Int32.toInt hG5
              have hG6 : I63 rm 6 = G6 := (Eq.trans (hf63.get krm rfl) (Eq.trans (hf60.get krm rfl) (Eq.trans (hf9.get krm rfl) (Eq.trans (hf6.get krm rfl) (Eq.trans (hf3.get krm rfl) eG6.symm)))))
              have hG6t : (I63 rm 6).toInt = G6.toInt := congrArg Int32.toInt hG6
              have hG7 : I63 rm 7 = x5_ := (Eq.trans (hf63.get krm rfl) (Eq.trans (hf60.get krm rfl) (Eq.trans (hf9.get krm rfl) (Eq.trans (hf6.get krm rfl) e5.symm))))
              have hG7t : (I63 rm 7).toInt = x5_.toInt := congrArg Int32.toInt hG7
              have hG8 : I63 rm 8 = G8 := (Eq.trans (hf63.get krm rfl) (Eq.trans (hf60.get krm rfl) (Eq.trans (hf9.get krm rfl) (Eq.trans (hf6.get krm rfl) (Eq.trans (hf3.get krm rfl) eG8.symm)))))
              have hG8t : (I63 rm 8).toInt = G8.toInt := congrArg Int32.toInt hG8
              have hG9 : I63 rm 9 = G9 := (Eq.trans (hf63.get krm rfl) (Eq.trans (hf60.get krm rfl) (Eq.trans (hf9.get krm rfl) (Eq.trans (hf6.get krm rfl) (Eq.trans (hf3.get krm rfl) eG9.symm)))))
              have hG9t : (I63 rm 9).toInt = G9.toInt := congrArg Int32.toInt hG9
              have hG10 : I63 rm 10 = N1 := (Eq.trans (hf63.get krm rfl) (Eq.trans (hf60.get krm rfl) (Eq.trans (hf9.get krm rfl) eN1.symm)))
              have hG10t : (I63 rm 10).toInt = N1.toInt := congrArg Int32.toInt hG10
              exact r_vret hC hQ hlk hr (by decide) (by decide) dX10_readStory_204 ⟨_, _, rfl, rfl, ⟨hs63, hF63, hFJ63, (by exact Or.inr ⟨kf63, qf63, by unfold sStory sMore; rw [pif_f hbg, hsp6, bnd_ok, hsp9, bnd_ok, pif_f (show ¬ sKind B n p9 = -1 by rw [hkn]; decide), hsp63, bnd_er], by omega, by omega, by omega⟩), (by exact om63), (by exact oc63)⟩⟩
          · refine r_if_eq hC (tgt := 61) dX10_readStory_54 (by decide) (fun c99 => ?_) (fun c99 => ?_)
            rotate_left
            · exfalso; omega
            refine r_aload_n hC dX10_readStory_61 1 rfl ?_
            refine r_ldcS hC (i := 48) (by decide) rfl rfl dX10_readStory_62 ?_
            refine r_callV hC (As := [.ref (g.2.2.1 48)]) (rest := []) (ci := 10) (f_X10_isWord g (xL X) K len I9 J9 R hs9 a0 ka0 48 (by decide) B n p9 hp9 tk9 (by first | assumption | decide)) mT_5_223 mT_1_10 mT_5_220 mT_5_222 mP_53 okX10_isWord ⟨by decide, by decide⟩ rfl (by show kO (K a0) = _; rw [ka0]; rfl) rfl rfl (Nat.le_of_ble_eq_true rfl) ⟨by decide, by decide⟩ dX10_readStory_64 (aI0 (F := fun st M => P g X 5 67 [(1, .int x9_), (0, .ref a0)] st _ _ M) (M := (K, len, I9, J9, R)) fun x100_ h100 => ?_)
            have k100_0 := h100
            clear h100
            show P g X 5 67 [(1, .int x9_), (0, .ref a0)] [.int x100_] _ _ (K, len, I9, J9, R)
            rcases k100_0 with ⟨hr100, hw100⟩ | ⟨hr100, hw100⟩
            · refine r_if_eq hC (tgt := 74) dX10_readStory_67 (by decide) (fun c101 => ?_) (fun c101 => ?_)
              · exfalso; omega
              refine r_iconst hC (v := (2)) dX10_readStory_70 (by decide) (by decide) (fun x102_ e102 t102 => ?_)
              refine r_goto hC (tgt := 115) dX10_readStory_71 (by decide) ?_
              have hkn : sKind B n p9 = 2 := by unfold sKind; rw [pif_f (show ¬ isW B n p9 15 from hw10), pif_f (show ¬ isW B n p9 16 from hw55), pif_t (show isW B n p9 17 from hw100)]
              refine r_istore_n hC (lv' := [(2, .int x102_), (1, .int x9_), (0, .ref a0)]) dX10_readStory_115 (by decide) rfl ?_
              refine r_iload_n hC dX10_readStory_116 0 rfl ?_
              refine r_iconst hC (v := (-1)) dX10_readStory_117 (by decide) (by decide) (fun x103_ e103 t103 => ?_)
              refine r_icmp_ne hC (tgt := 126) dX10_readStory_118 (by decide) (fun c104 => ?_) (fun c104 => ?_)
              rotate_left
              · exfalso; omega
              refine r_aload_n hC dX10_readStory_126 2 rfl ?_
              refine r_callV hC (As := []) (rest := []) (ci := 10) (f_X10_goesOn g (xL X) K len I9 J9 R hs9 a0 ka0 mt hmt kmt nmt B n (hB.mv9 hF9 kmt (fun _ => rfl)) hBr hn (nx B n p9) (nx_le hp9).2 (tk9.e5) (tk9.2.2.1 (by first | omega | (rw [hw100.1]; decide))) (tk9.2.2.2.1)) mT_5_199 mT_1_10 mT_5_196 mT_5_198 mP_49 okX10_goesOn ⟨by decide, by decide⟩ rfl (by show kO (K a0) = _; rw [ka0]; rfl) rfl rfl (Nat.le_of_ble_eq_true rfl) ⟨by decide, by decide⟩ dX10_readStory_127 (aV2 (F := fun st M => P g X 5 130 [(2, .int x102_), (1, .int x9_), (0, .ref a0)] st _ _ M) (M := (K, len, I9, J9, R)) fun I105 J105 h105 => ?_)
              obtain ⟨hs105, hf105, hfj105, k105_0⟩ := h105
              show P g X 5 130 [(2, .int x102_), (1, .int x9_), (0, .ref a0)] [] _ _ (K, len, I105, J105, R)
              have hF105 : Fr K [(10, 7), (10, 10), (11, 8), (11, 9), (11, 10), (11, 11), (11, 12), (11, 13), (75, 999), (76, 999), (83, 999), (84, 999), (1000, 999)] I I105 := hF9.trans hf105 rfl rfl
              have hFJ105 : Fr K [(11, 14), (82, 999)] J J105 := hFJ9.trans hfj105 rfl rfl
              have fp105 : I105 a0 12 = I a0 12 := (hf105.get ka0 rfl).trans fq9
              have pg105 := pg9.mv hf105 kns (fun _ => rfl)
              have nm105 := nm9.mv hfj105 knr (fun _ => rfl)
              have oc105 := oc9.mv qM_big hf105 rfl
              have rw105 := rw9.mv hcx qM_big hf105 rfl
              have om105 := om9.mv hf105 rfl
              have ni105 := ni9.mv hf105 kns knn (fun _ => rfl) (fun _ => rfl)
              refine r_aload_n hC dX10_readStory_130 2 rfl ?_
              refine r_iconst hC (v := (0)) dX10_readStory_131 (by decide) (by decide) (fun x106_ e106 t106 => ?_)
              refine r_bipush hC (v := (99)) dX10_readStory_132 (by decide) (by decide) (fun x107_ e107 t107 => ?_)
              refine r_callV hC (As := [.int x106_, .int x107_]) (rest := []) (ci := 10) (f_X10_readWhole g (xL X) K len I105 J105 R hs105 a0 ka0 x106_ x107_ mt hmt kmt nmt B n (hB.mv9 hF105 kmt (fun _ => rfl)) hBr hn (nx B n p9) (nx_le hp9).2 k105_0) mT_6_5 mT_1_10 mT_6_2 mT_6_4 mP_57 okX10_readWhole ⟨by decide, by decide⟩ rfl (by show kO (K a0) = _; rw [ka0]; rfl) rfl rfl (Nat.le_of_ble_eq_true rfl) ⟨by decide, by decide⟩ dX10_readStory_134 (aI2 (F := fun st M => P g X 5 137 [(2, .int x102_), (1, .int x9_), (0, .ref a0)] st _ _ M) (M := (K, len, I105, J105, R)) fun x108_ I108 J108 h108 => ?_)
              obtain ⟨hs108, hf108, hfj108, k108_0⟩ := h108
              show P g X 5 137 [(2, .int x102_), (1, .int x9_), (0, .ref a0)] [.int x108_] _ _ (K, len, I108, J108, R)
              have hF108 : Fr K [(10, 7), (10, 10), (11, 8), (11, 9), (11, 10), (11, 11), (11, 12), (11, 13), (75, 999), (76, 999), (83, 999), (84, 999), (1000, 999)] I I108 := hF105.trans hf108 rfl rfl
              have hFJ108 : Fr K [(11, 14), (82, 999)] J J108 := hFJ105.trans hfj108 rfl rfl
              have pg108 := pg105.mv hf108 kns (fun _ => rfl)
              have nm108 := nm105.mv hfj108 knr (fun _ => rfl)
              have oc108 := oc105.mv qM_big hf108 rfl
              have rw108 := rw105.mv hcx qM_big hf108 rfl
              have om108 := om105.mv hf108 rfl
              have ni108 := ni105.mv hf108 kns knn (fun _ => rfl) (fun _ => rfl)
              rcases k108_0 with ⟨v108, p108, hsp108, hp108, tk108, hv108, fl108⟩ | ⟨kf108, qf108, hsp108, hf0108, hf1108, hf2108⟩
              · have fq108 : I108 a0 12 = I a0 12 := fl108.trans fp105
                rw [show x106_.toInt = 0 by omega, show x107_.toInt = 99 by omega] at hsp108
                have rg108 := (sWhole_go (nx_le hp9).2 hsp108).2
                refine r_istore_n hC (lv' := [(3, .int x108_), (2, .int x102_), (1, .int x9_), (0, .ref a0)]) dX10_readStory_137 (by decide) rfl ?_
                refine r_iload_n hC dX10_readStory_138 1 rfl ?_
                refine r_iconst hC (v := (2)) dX10_readStory_139 (by decide) (by decide) (fun x109_ e109 t109 => ?_)
                refine r_icmp_ne hC (tgt := 156) dX10_readStory_140 (by decide) (fun c110 => ?_) (fun c110 => ?_)
                · exfalso; omega
                refine r_aload_n hC dX10_readStory_143 3 rfl ?_
                refine r_ldcwS hC (i := 52) (by decide) rfl rfl dX10_readStory_144 ?_
                refine r_iconst hC (v := (1)) dX10_readStory_147 (by decide) (by decide) (fun x111_ e111 t111 => ?_)
                refine r_bipush hC (v := (20)) dX10_readStory_148 (by decide) (by decide) (fun x112_ e112 t112 => ?_)
                refine r_callV hC (As := [.ref (g.2.2.1 52), .int x111_, .int x112_]) (rest := []) (ci := 10) (f_X10_readPart g (xL X) K len I108 J108 R hs108 a0 ka0 52 (by decide) x111_ x112_ mt hmt kmt nmt B n (hB.mv9 hF108 kmt (fun _ => rfl)) hBr hn p108 hp108 tk108 (by first | assumption | decide)) mT_6_1 mT_1_10 mT_5_238 mT_6_0 mP_56 okX10_readPart ⟨by decide, by decide⟩ rfl (by show kO (K a0) = _; rw [ka0]; rfl) rfl rfl (Nat.le_of_ble_eq_true rfl) ⟨by decide, by decide⟩ dX10_readStory_150 (aI2 (F := fun st M => P g X 5 153 [(3, .int x108_), (2, .int x102_), (1, .int x9_), (0, .ref a0)] st _ _ M) (M := (K, len, I108, J108, R)) fun x113_ I113 J113 h113 => ?_)
                obtain ⟨hs113, hf113, hfj113, k113_0⟩ := h113
                show P g X 5 153 [(3, .int x108_), (2, .int x102_), (1, .int x9_), (0, .ref a0)] [.int x113_] _ _ (K, len, I113, J113, R)
                have hF113 : Fr K [(10, 7), (10, 10), (11, 8), (11, 9), (11, 10), (11, 11), (11, 12), (11, 13), (75, 999), (76, 999), (83, 999), (84, 999), (1000, 999)] I I113 := hF108.trans hf113 rfl rfl
                have hFJ113 : Fr K [(11, 14), (82, 999)] J J113 := hFJ108.trans hfj113 rfl rfl
                have pg113 := pg108.mv hf113 kns (fun _ => rfl)
                have nm113 := nm108.mv hfj113 knr (fun _ => rfl)
                have oc113 := oc108.mv qM_big hf113 rfl
                have rw113 := rw108.mv hcx qM_big hf113 rfl
                have om113 := om108.mv hf113 rfl
                have ni113 := ni108.mv hf113 kns knn (fun _ => rfl) (fun _ => rfl)
                rcases k113_0 with ⟨v113, p113, hsp113, hp113, tk113, hv113, fl113⟩ | ⟨kf113, qf113, hsp113, hf0113, hf1113, hf2113⟩
                · have fq113 : I113 a0 12 = I a0 12 := fl113.trans fq108
                  rw [show x111_.toInt = 1 by omega, show x112_.toInt = 20 by omega] at hsp113
                  have rg113 := (sNum_go hp108 hsp113).2
                  refine r_goto hC (tgt := 194) dX10_readStory_153 (by decide) ?_
                  refine r_istore hC (lv' := [(4, .int x113_), (3, .int x108_), (2, .int x102_), (1, .int x9_), (0, .ref a0)]) dX10_readStory_194 (by decide) rfl ?_
                  refine r_aload_n hC dX10_readStory_196 4 rfl ?_
                  have n5_197 := tk113.e5
                  refine r_geti hC 9 (ci := 10) rfl u10_in (by decide) mT_5_4 dX10_readStory_197 ka0 rfl rfl (fun x114_ e114 => ?_)
                  have f114 : x114_.toInt = (I113 a0 9).toInt := by rw [e114]
                  refine r_iconst hC (v := (5)) dX10_readStory_200 (by decide) (by decide) (fun x115_ e115 t115 => ?_)
                  refine r_icmp_ne hC (tgt := 205) dX10_readStory_201 (by decide) (fun c116 => ?_) (fun c116 => ?_)
                  rotate_left
                  · exfalso; omega
                  refine r_aload_n hC dX10_readStory_205 4 rfl ?_
                  refine r_getr hC 4 (ci := 10) rfl u10_in (by decide) mT_4_239 dX10_readStory_206 ka0 rfl rfl hbr ?_
                  obtain ⟨a117_, hb117, hk117, hn117⟩ := hs113.row krm 16 75 6 (by decide) (by decide)
                  refine r_getrN hC 16 (ci := 9) rfl u9_in (by decide) nF_16 dX10_readStory_209 krm rfl rfl hb117 ?_
                  refine r_aload_n hC dX10_readStory_212 4 rfl ?_
                  refine r_getr hC 4 (ci := 10) rfl u10_in (by decide) mT_4_239 dX10_readStory_213 ka0 rfl rfl hbr ?_
                  refine r_getiN hC 7 (ci := 9) rfl u9_in (by decide) nF_7 dX10_readStory_216 krm rfl rfl (fun x118_ e118 => ?_)
                  have r118 := hs113.rng krm rfl e118
                  have f118 : x118_.toInt = (I113 rm 7).toInt := by rw [e118]
                  have w118 : x118_ = x5_ := by rw [e118]; exact (Eq.trans (hf113.get krm rfl) (Eq.trans (hf108.get krm rfl) (Eq.trans (hf105.get krm rfl) (Eq.trans (hf9.get krm rfl) (Eq.trans (hf6.get krm rfl) e5.symm)))))
                  have wt118 : x118_.toInt = x5_.toInt := by rw [w118]
                  refine r_iload_n hC dX10_readStory_219 3 rfl ?_
                  refine x_iastore hC hk117 hn117 (by decide) rfl rfl dX10_readStory_220 (by omega) (by omega) (fun I119 eI119 => ?_)
                  have hs119 := hs113.put0 eI119 hk117 (rng_arr (by decide) _) rfl (xF_arr (by decide) _) (by decide)
                  have hF119 := hF113.put eI119 hk117 (inS_arr rfl _)
                  have tkp119 := tk113.put eI119 hk117 ka0 (by decide)
                  have fp119 : I119 a0 12 = I a0 12 := (up2_kk eI119 hk117 ka0 (by decide)).trans fq113
                  have pg119 := pg113.put eI119 hk117 kns (by decide)
                  have om119 := om113.put eI119 hk117 (by first | exact Or.inr rfl | exact Or.inl (by decide) | exact Or.inl (by omega))
                  have ni119 := ni113.put eI119 hk117 kns knn (by decide) (by decide)
                  have nnz : 0 ≤ (adN D (vl B n (nx B n p))) 0 7 := by omega
                  have ix119 : x118_.toInt = (adN D (vl B n (nx B n p))) 0 7 := by omega
                  have eC119 := eI119
                  rw [clx ix119 nnz] at eC119
                  have rw119 := rw113.put hcx (r0 := 6) (j0 := ((adN D (vl B n (nx B n p))) 0 7).toNat) (w := v9) (cM (r := 6) (by decide) (by decide) hb117) eC119 hv9 (by rw [cnt_6]; exact Int.toNat_of_nonneg nnz) (fun h9 => absurd h9 (by decide))
                  have oc119 := oc113.put (cM (r := 6) (by decide) (by decide) hb117) eC119
                  refine r_aload_n hC dX10_readStory_221 4 rfl ?_
                  refine r_getr hC 4 (ci := 10) rfl u10_in (by decide) mT_4_239 dX10_readStory_222 ka0 rfl rfl hbr ?_
                  obtain ⟨kd120, mo120, hb120, hk120, hn120, hB120, hK120, hN120⟩ := hs119.2.2.1 rm krm
                  refine r_getrN hC 17 (ci := 9) rfl u9_in (by decide) nF_17 dX10_readStory_225 krm rfl rfl hb120 ?_
                  refine r_aload_n hC dX10_readStory_228 4 rfl ?_
                  refine r_getr hC 4 (ci := 10) rfl u10_in (by decide) mT_4_239 dX10_readStory_229 ka0 rfl rfl hbr ?_
                  refine r_getiN hC 7 (ci := 9) rfl u9_in (by decide) nF_7 dX10_readStory_232 krm rfl rfl (fun x121_ e121 => ?_)
                  have r121 := hs119.rng krm rfl e121
                  have f121 : x121_.toInt = (I119 rm 7).toInt := by rw [e121]
                  have w121 : x121_ = x118_ := by rw [e121]; exact (Eq.trans (up2_kk eI119 hk117 krm (by decide)) e118.symm)
                  have wt121 : x121_.toInt = x118_.toInt := by rw [w121]
                  refine r_iload_n hC dX10_readStory_235 2 rfl ?_
                  refine x_iastore hC hk120 hn120 (by omega) (kOb (by omega)) (kAb (by omega)) dX10_readStory_236 (by omega) (by omega) (fun I122 eI122 => ?_)
                  have hs122 : Sf K len I122 R := hs119.putK (rm := rm) eI122 (Or.inl hk120) (by have h9 := clampI (i := x121_) (by omega); omega)
                  have hF122 := hF119.put eI122 hk120 (inS_big rfl (by omega) _)
                  have tkp122 := tkp119.put eI122 hk120 ka0 (by omega)
                  have fp122 : I122 a0 12 = I a0 12 := (up2_kk eI122 hk120 ka0 (by omega)).trans fp119
                  have pg122 := pg119.put eI122 hk120 kns (by omega)
                  have om122 := om119.put eI122 hk120 (by first | exact Or.inr rfl | exact Or.inl (by decide) | exact Or.inl (by omega))
                  have ni122 := ni119.put eI122 hk120 kns knn (by omega) (by omega)
                  have eC122 := eI122
                  rw [clx (wt121.trans ix119) nnz] at eC122
                  have rw122 := rw119.put hcx (r0 := 7) (j0 := ((adN D (vl B n (nx B n p))) 0 7).toNat) (w := sKind B n p9) (cM (r := 7) (by decide) (by decide) hb120) eC122 (by omega) (by rw [upN_o (by decide), cnt_7]; exact Int.toNat_of_nonneg nnz) (fun _ => by rw [upN_o (by decide), cnt_9]; exact Int.le_of_eq (Int.toNat_of_nonneg nnz).symm)
                  have oc122 := oc119.put (cM (r := 7) (by decide) (by decide) hb120) eC122
                  refine r_aload_n hC dX10_readStory_237 4 rfl ?_
                  refine r_getr hC 4 (ci := 10) rfl u10_in (by decide) mT_4_239 dX10_readStory_238 ka0 rfl rfl hbr ?_
                  obtain ⟨a123_, hb123, hk123, hn123⟩ := hs122.row krm 18 76 6 (by decide) (by decide)
                  refine r_getrN hC 18 (ci := 9) rfl u9_in (by decide) nF_18 dX10_readStory_241 krm rfl rfl hb123 ?_
                  refine r_aload_n hC dX10_readStory_244 4 rfl ?_
                  refine r_getr hC 4 (ci := 10) rfl u10_in (by decide) mT_4_239 dX10_readStory_245 ka0 rfl rfl hbr ?_
                  refine r_getiN hC 7 (ci := 9) rfl u9_in (by decide) nF_7 dX10_readStory_248 krm rfl rfl (fun x124_ e124 => ?_)
                  have r124 := hs122.rng krm rfl e124
                  have f124 : x124_.toInt = (I122 rm 7).toInt := by rw [e124]
                  have w124 : x124_ = x121_ := by rw [e124]; exact (Eq.trans (up2_kk eI122 hk120 krm (by omega)) e121.symm)
                  have wt124 : x124_.toInt = x121_.toInt := by rw [w124]
                  refine r_iload_n hC dX10_readStory_251 1 rfl ?_
                  refine x_iastore hC hk123 hn123 (by decide) rfl rfl dX10_readStory_252 (by omega) (by omega) (fun I125 eI125 => ?_)
                  have hs125 := hs122.put0 eI125 hk123 (rng_arr (by decide) _) rfl (xF_arr (by decide) _) (by decide)
                  have hF125 := hF122.put eI125 hk123 (inS_arr rfl _)
                  have tkp125 := tkp122.put eI125 hk123 ka0 (by decide)
                  have fp125 : I125 a0 12 = I a0 12 := (up2_kk eI125 hk123 ka0 (by decide)).trans fp122
                  have pg125 := pg122.put eI125 hk123 kns (by decide)
                  have om125 := om122.put eI125 hk123 (by first | exact Or.inr rfl | exact Or.inl (by decide) | exact Or.inl (by omega))
                  have ni125 := ni122.put eI125 hk123 kns knn (by decide) (by decide)
                  have eC125 := eI125
                  rw [clx (wt124.trans (wt121.trans ix119)) nnz] at eC125
                  have rw125 := rw122.put hcx (r0 := 8) (j0 := ((adN D (vl B n (nx B n p))) 0 7).toNat) (w := v108) (cM (r := 8) (by decide) (by decide) hb123) eC125 hv108 (by rw [upN_o (by decide), upN_o (by decide), cnt_8]; exact Int.toNat_of_nonneg nnz) (fun h9 => absurd h9 (by decide))
                  have oc125 := oc122.put (cM (r := 8) (by decide) (by decide) hb123) eC125
                  refine r_aload_n hC dX10_readStory_253 4 rfl ?_
                  refine r_getr hC 4 (ci := 10) rfl u10_in (by decide) mT_4_239 dX10_readStory_254 ka0 rfl rfl hbr ?_
                  refine r_getrN hC 19 (ci := 9) rfl u9_in (by decide) nF_19 dX10_readStory_257 krm rfl rfl hB120 ?_
                  refine r_aload_n hC dX10_readStory_260 4 rfl ?_
                  refine r_getr hC 4 (ci := 10) rfl u10_in (by decide) mT_4_239 dX10_readStory_261 ka0 rfl rfl hbr ?_
                  refine r_getiN hC 7 (ci := 9) rfl u9_in (by decide) nF_7 dX10_readStory_264 krm rfl rfl (fun x126_ e126 => ?_)
                  have r126 := hs125.rng krm rfl e126
                  have f126 : x126_.toInt = (I125 rm 7).toInt := by rw [e126]
                  have w126 : x126_ = x124_ := by rw [e126]; exact (Eq.trans (up2_kk eI125 hk123 krm (by decide)) e124.symm)
                  have wt126 : x126_.toInt = x124_.toInt := by rw [w126]
                  refine r_iload hC dX10_readStory_267 0 rfl ?_
                  refine x_iastore hC hK120 hN120 (by omega) (kOb (by omega)) (kAb (by omega)) dX10_readStory_269 (by omega) (by omega) (fun I127 eI127 => ?_)
                  have hs127 : Sf K len I127 R := hs125.putK (rm := rm) eI127 (Or.inr hK120) (by have h9 := clampI (i := x126_) (by omega); omega)
                  have hF127 := hF125.put eI127 hK120 (inS_big rfl (by omega) _)
                  have tkp127 := tkp125.put eI127 hK120 ka0 (by omega)
                  have fp127 : I127 a0 12 = I a0 12 := (up2_kk eI127 hK120 ka0 (by omega)).trans fp125
                  have pg127 := pg125.put eI127 hK120 kns (by omega)
                  have om127 := om125.put eI127 hK120 (by first | exact Or.inr rfl | exact Or.inl (by decide) | exact Or.inl (by omega))
                  have ni127 := ni125.put eI127 hK120 kns knn (by omega) (by omega)
                  have eC127 := eI127
                  rw [clx (wt126.trans (wt124.trans (wt121.trans ix119))) nnz] at eC127
                  have rw127 := rw125.put hcx (r0 := 9) (j0 := ((adN D (vl B n (nx B n p))) 0 7).toNat) (w := v113) (cM (r := 9) (by decide) (by decide) hB120) eC127 hv113 (by rw [upN_o (by decide), upN_o (by decide), upN_o (by decide), cnt_9]; exact Int.toNat_of_nonneg nnz) (fun h9 => absurd h9 (by decide))
                  have oc127 := oc125.put (cM (r := 9) (by decide) (by decide) hB120) eC127
                  refine r_aload_n hC dX10_readStory_270 4 rfl ?_
                  refine r_getr hC 4 (ci := 10) rfl u10_in (by decide) mT_4_239 dX10_readStory_271 ka0 rfl rfl hbr ?_
                  refine r_dup hC dX10_readStory_274 rfl ?_
                  refine r_getiN hC 7 (ci := 9) rfl u9_in (by decide) nF_7 dX10_readStory_275 krm rfl rfl (fun x128_ e128 => ?_)
                  have r128 := hs127.rng krm rfl e128
                  have f128 : x128_.toInt = (I127 rm 7).toInt := by rw [e128]
                  have w128 : x128_ = x126_ := by rw [e128]; exact (Eq.trans (up2_kk eI127 hK120 krm (by omega)) e126.symm)
                  have wt128 : x128_.toInt = x126_.toInt := by rw [w128]
                  refine r_iconst hC (v := (1)) dX10_readStory_278 (by decide) (by decide) (fun x129_ e129 t129 => ?_)
                  refine r_iadd hC dX10_readStory_279 (fun x130_ e130 => ?_)
                  try have t130 : x130_.toInt = x128_.toInt + x129_.toInt := by rw [e130]; exact ti_add (by omega) (by omega)
                  refine r_putiN hC 7 (ci := 9) rfl u9_in tyX9_ok nmX9 (by decide) nF_7 rfl rfl rfl dX10_readStory_280 krm rfl rfl (fun I131 eI131 => ?_)
                  have hs131 : Sf K len I131 R := hs127.putA7 eI131 krm hb120 hB120 (by omega) (by omega) (j := x121_.toNatClampNeg) (by have h9 := clampI (i := x121_) (by omega); omega) (by omega) (by rw [(show I127 kd120 x121_.toNatClampNeg = x102_ from (Eq.trans (up2_kk eI127 hK120 hk120 (by omega)) (Eq.trans (up2_kk eI125 hk123 hk120 (by omega)) (by rw [eI122]; exact up2_self _ _ _ _)))), cl_eq (show x121_.toInt = x126_.toInt by omega), (show I127 mo120 x126_.toNatClampNeg = x113_ from (by rw [eI127]; exact up2_self _ _ _ _))]; omega)
                  have hF131 := hF127.put eI131 krm rfl
                  have tkp131 := tkp127.put eI131 krm ka0 (by decide)
                  have fp131 : I131 a0 12 = I a0 12 := (up2_kk eI131 krm ka0 (by decide)).trans fp127
                  have pg131 := pg127.put eI131 krm kns (by decide)
                  have om131 := om127.put eI131 krm (by first | exact Or.inr rfl | exact Or.inl (by decide) | exact Or.inl (by omega))
                  have ni131 := ni127.put eI131 krm kns knn (by decide) (by decide)
                  have rw131 := rw127.putO hcx eI131 krm rfl
                  have oc131 := oc127.putO eI131 krm rfl
                  have hG0 : I131 rm 0 = G0 := (Eq.trans (up2_at (Or.inr (by decide)) eI131) (Eq.trans (up2_kk eI127 hK120 krm (by omega)) (Eq.trans (up2_kk eI125 hk123 krm (by decide)) (Eq.trans (up2_kk eI122 hk120 krm (by omega)) (Eq.trans (up2_kk eI119 hk117 krm (by decide)) (Eq.trans (hf113.get krm rfl) (Eq.trans (hf108.get krm rfl) (Eq.trans (hf105.get krm rfl) (Eq.trans (hf9.get krm rfl) (Eq.trans (hf6.get krm rfl) (Eq.trans (hf3.get krm rfl) eG0.symm)))))))))))
                  have hG0t : (I131 rm 0).toInt = G0.toInt := congrArg Int32.toInt hG0
                  have hG1 : I131 rm 1 = G1 := (Eq.trans (up2_at (Or.inr (by decide)) eI131) (Eq.trans (up2_kk eI127 hK120 krm (by omega)) (Eq.trans (up2_kk eI125 hk123 krm (by decide)) (Eq.trans (up2_kk eI122 hk120 krm (by omega)) (Eq.trans (up2_kk eI119 hk117 krm (by decide)) (Eq.trans (hf113.get krm rfl) (Eq.trans (hf108.get krm rfl) (Eq.trans (hf105.get krm rfl) (Eq.trans (hf9.get krm rfl) (Eq.trans (hf6.get krm rfl) (Eq.trans (hf3.get krm rfl) eG1.symm)))))))))))
                  have hG1t : (I131 rm 1).toInt = G1.toInt := congrArg Int32.toInt hG1
                  have hG2 : I131 rm 2 = G2 := (Eq.trans (up2_at (Or.inr (by decide)) eI131) (Eq.trans (up2_kk eI127 hK120 krm (by omega)) (Eq.trans (up2_kk eI125 hk123 krm (by decide)) (Eq.trans (up2_kk eI122 hk120 krm (by omega)) (Eq.trans (up2_kk eI119 hk117 krm (by decide)) (Eq.trans (hf113.get krm rfl) (Eq.trans (hf108.get krm rfl) (Eq.trans (hf105.get krm rfl) (Eq.trans (hf9.get krm rfl) (Eq.trans (hf6.get krm rfl) (Eq.trans (hf3.get krm rfl) eG2.symm)))))))))))
                  have hG2t : (I131 rm 2).toInt = G2.toInt := congrArg Int32.toInt hG2
                  have hG3 : I131 rm 3 = G3 := (Eq.trans (up2_at (Or.inr (by decide)) eI131) (Eq.trans (up2_kk eI127 hK120 krm (by omega)) (Eq.trans (up2_kk eI125 hk123 krm (by decide)) (Eq.trans (up2_kk eI122 hk120 krm (by omega)) (Eq.trans (up2_kk eI119 hk117 krm (by decide)) (Eq.trans (hf113.get krm rfl) (Eq.trans (hf108.get krm rfl) (Eq.trans (hf105.get krm rfl) (Eq.trans (hf9.get krm rfl) (Eq.trans (hf6.get krm rfl) (Eq.trans (hf3.get krm rfl) eG3.symm)))))))))))
                  have hG3t : (I131 rm 3).toInt = G3.toInt := congrArg Int32.toInt hG3
                  have hG4 : I131 rm 4 = G4 := (Eq.trans (up2_at (Or.inr (by decide)) eI131) (Eq.trans (up2_kk eI127 hK120 krm (by omega)) (Eq.trans (up2_kk eI125 hk123 krm (by decide)) (Eq.trans (up2_kk eI122 hk120 krm (by omega)) (Eq.trans (up2_kk eI119 hk117 krm (by decide)) (Eq.trans (hf113.get krm rfl) (Eq.trans (hf108.get krm rfl) (Eq.trans (hf105.get krm rfl) (Eq.trans (hf9.get krm rfl) (Eq.trans (hf6.get krm rfl) (Eq.trans (hf3.get krm rfl) eG4.symm)))))))))))
                  have hG4t : (I131 rm 4).toInt = G4.toInt := congrArg Int32.toInt hG4
                  have hG5 : I131 rm 5 = G5 := (Eq.trans (up2_at (Or.inr (by decide)) eI131) (Eq.trans (up2_kk eI127 hK120 krm (by omega)) (Eq.trans (up2_kk eI125 hk123 krm (by decide)) (Eq.trans (up2_kk eI122 hk120 krm (by omega)) (Eq.trans (up2_kk eI119 hk117 krm (by decide)) (Eq.trans (hf113.get krm rfl) (Eq.trans (hf108.get krm rfl) (Eq.trans (hf105.get krm rfl) (Eq.trans (hf9.get krm rfl) (Eq.trans (hf6.get krm rfl) (Eq.trans (hf3.get krm rfl) eG5.symm)))))))))))
                  have hG5t : (I131 rm 5).toInt = G5.toInt := congrArg Int32.toInt hG5
                  have hG6 : I131 rm 6 = G6 := (Eq.trans (up2_at (Or.inr (by decide)) eI131) (Eq.trans (up2_kk eI127 hK120 krm (by omega)) (Eq.trans (up2_kk eI125 hk123 krm (by decide)) (Eq.trans (up2_kk eI122 hk120 krm (by omega)) (Eq.trans (up2_kk eI119 hk117 krm (by decide)) (Eq.trans (hf113.get krm rfl) (Eq.trans (hf108.get krm rfl) (Eq.trans (hf105.get krm rfl) (Eq.trans (hf9.get krm rfl) (Eq.trans (hf6.get krm rfl) (Eq.trans (hf3.get krm rfl) eG6.symm)))))))))))
                  have hG6t : (I131 rm 6).toInt = G6.toInt := congrArg Int32.toInt hG6
                  have hG7 : I131 rm 7 = x130_ := (by rw [eI131]; exact up2_self _ _ _ _)
                  have hG7t : (I131 rm 7).toInt = x130_.toInt := congrArg Int32.toInt hG7
                  have hG8 : I131 rm 8 = G8 := (Eq.trans (up2_at (Or.inr (by decide)) eI131) (Eq.trans (up2_kk eI127 hK120 krm (by omega)) (Eq.trans (up2_kk eI125 hk123 krm (by decide)) (Eq.trans (up2_kk eI122 hk120 krm (by omega)) (Eq.trans (up2_kk eI119 hk117 krm (by decide)) (Eq.trans (hf113.get krm rfl) (Eq.trans (hf108.get krm rfl) (Eq.trans (hf105.get krm rfl) (Eq.trans (hf9.get krm rfl) (Eq.trans (hf6.get krm rfl) (Eq.trans (hf3.get krm rfl) eG8.symm)))))))))))
                  have hG8t : (I131 rm 8).toInt = G8.toInt := congrArg Int32.toInt hG8
                  have hG9 : I131 rm 9 = G9 := (Eq.trans (up2_at (Or.inr (by decide)) eI131) (Eq.trans (up2_kk eI127 hK120 krm (by omega)) (Eq.trans (up2_kk eI125 hk123 krm (by decide)) (Eq.trans (up2_kk eI122 hk120 krm (by omega)) (Eq.trans (up2_kk eI119 hk117 krm (by decide)) (Eq.trans (hf113.get krm rfl) (Eq.trans (hf108.get krm rfl) (Eq.trans (hf105.get krm rfl) (Eq.trans (hf9.get krm rfl) (Eq.trans (hf6.get krm rfl) (Eq.trans (hf3.get krm rfl) eG9.symm)))))))))))
                  have hG9t : (I131 rm 9).toInt = G9.toInt := congrArg Int32.toInt hG9
                  have hG10 : I131 rm 10 = N1 := (Eq.trans (up2_at (Or.inr (by decide)) eI131) (Eq.trans (up2_kk eI127 hK120 krm (by omega)) (Eq.trans (up2_kk eI125 hk123 krm (by decide)) (Eq.trans (up2_kk eI122 hk120 krm (by omega)) (Eq.trans (up2_kk eI119 hk117 krm (by decide)) (Eq.trans (hf113.get krm rfl) (Eq.trans (hf108.get krm rfl) (Eq.trans (hf105.get krm rfl) (Eq.trans (hf9.get krm rfl) eN1.symm)))))))))
                  have hG10t : (I131 rm 10).toInt = N1.toInt := congrArg Int32.toInt hG10
                  exact r_vret hC hQ hlk hr (by decide) (by decide) dX10_readStory_283 ⟨_, _, rfl, rfl, ⟨hs131, hF131, hFJ113, (by exact Or.inl ⟨_, _, by unfold sStory sMore; rw [pif_f hbg, hsp6, bnd_ok, hsp9, bnd_ok, pif_f (show ¬ sKind B n p9 = -1 by rw [hkn]; decide), hsp108, bnd_ok, pif_t (show sKind B n p9 = 2 from hkn), hsp113, bnd_ok], hp113, tkp131, ⟨sm.st (by omega) (by omega) (by omega) (by simp [upD, adN, aStory]) (by simp [upD, adN, aStory]) (by simp [upD, adN, aStory]) (by simp [upD, adN, aStory]) (by simp [upD, adN, aStory]; omega) (by simp [upD, adN, aStory]; omega) (by simp [upD, adN, aStory]; omega) (by simp [upD, adN, aStory]; omega) (by simp [upD, adN, aStory]; omega) (by simp [upD, adN, aStory]; omega) (by simp [upD, adN, aStory]; omega) (by simp [upD, adN, aStory]; omega), nm113.cg (by simp [upD, aStory]) (by intro j; simp [upD, aStory]), pg131.cg (by simp [upD, aStory]) (by intro j; simp [upD, aStory]) (by simp [upD, aStory]) (by intro j; simp [upD, aStory])⟩, ni131.cg (by simp [upD, aStory]) (by intro j; simp [upD, aStory]) (by simp [upD, aStory]) (by intro j; simp [upD, aStory]), rw131.sto (Int.toNat_of_nonneg nnz) (fun _ => rfl), fp131⟩), (by exact om131), (by exact oc131)⟩⟩
                · rw [show x111_.toInt = 1 by omega, show x112_.toInt = 20 by omega] at hsp113
                  refine r_goto hC (tgt := 194) dX10_readStory_153 (by decide) ?_
                  refine r_istore hC (lv' := [(4, .int x113_), (3, .int x108_), (2, .int x102_), (1, .int x9_), (0, .ref a0)]) dX10_readStory_194 (by decide) rfl ?_
                  refine r_aload_n hC dX10_readStory_196 4 rfl ?_
                  refine r_geti hC 9 (ci := 10) rfl u10_in (by decide) mT_5_4 dX10_readStory_197 ka0 rfl rfl (fun x132_ e132 => ?_)
                  have f132 : x132_.toInt = (I113 a0 9).toInt := by rw [e132]
                  refine r_iconst hC (v := (5)) dX10_readStory_200 (by decide) (by decide) (fun x133_ e133 t133 => ?_)
                  refine r_icmp_ne hC (tgt := 205) dX10_readStory_201 (by decide) (fun c134 => ?_) (fun c134 => ?_)
                  · exfalso; omega
                  have hG0 : I113 rm 0 = G0 := (Eq.trans (hf113.get krm rfl) (Eq.trans (hf108.get krm rfl) (Eq.trans (hf105.get krm rfl) (Eq.trans (hf9.get krm rfl) (Eq.trans (hf6.get krm rfl) (Eq.trans (hf3.get krm rfl) eG0.symm))))))
                  have hG0t : (I113 rm 0).toInt = G0.toInt := congrArg Int32.toInt hG0
                  have hG1 : I113 rm 1 = G1 := (Eq.trans (hf113.get krm rfl) (Eq.trans (hf108.get krm rfl) (Eq.trans (hf105.get krm rfl) (Eq.trans (hf9.get krm rfl) (Eq.trans (hf6.get krm rfl) (Eq.trans (hf3.get krm rfl) eG1.symm))))))
                  have hG1t : (I113 rm 1).toInt = G1.toInt := congrArg Int32.toInt hG1
                  have hG2 : I113 rm 2 = G2 := (Eq.trans (hf113.get krm rfl) (Eq.trans (hf108.get krm rfl) (Eq.trans (hf105.get krm rfl) (Eq.trans (hf9.get krm rfl) (Eq.trans (hf6.get krm rfl) (Eq.trans (hf3.get krm rfl) eG2.symm))))))
                  have hG2t : (I113 rm 2).toInt = G2.toInt := congrArg Int32.toInt hG2
                  have hG3 : I113 rm 3 = G3 := (Eq.trans (hf113.get krm rfl) (Eq.trans (hf108.get krm rfl) (Eq.trans (hf105.get krm rfl) (Eq.trans (hf9.get krm rfl) (Eq.trans (hf6.get krm rfl) (Eq.trans (hf3.get krm rfl) eG3.symm))))))
                  have hG3t : (I113 rm 3).toInt = G3.toInt := congrArg Int32.toInt hG3
                  have hG4 : I113 rm 4 = G4 := (Eq.trans (hf113.get krm rfl) (Eq.trans (hf108.get krm rfl) (Eq.trans (hf105.get krm rfl) (Eq.trans (hf9.get krm rfl) (Eq.trans (hf6.get krm rfl) (Eq.trans (hf3.get krm rfl) eG4.symm))))))
                  have hG4t : (I113 rm 4).toInt = G4.toInt := congrArg Int32.toInt hG4
                  have hG5 : I113 rm 5 = G5 := (Eq.trans (hf113.get krm rfl) (Eq.trans (hf108.get krm rfl) (Eq.trans (hf105.get krm rfl) (Eq.trans (hf9.get krm rfl) (Eq.trans (hf6.get krm rfl) (Eq.trans (hf3.get krm rfl) eG5.symm))))))
                  have hG5t : (I113 rm 5).toInt = G5.toInt := congrArg Int32.toInt hG5
                  have hG6 : I113 rm 6 = G6 := (Eq.trans (hf113.get krm rfl) (Eq.trans (hf108.get krm rfl) (Eq.trans (hf105.get krm rfl) (Eq.trans (hf9.get krm rfl) (Eq.trans (hf6.get krm rfl) (Eq.trans (hf3.get krm rfl) eG6.symm))))))
                  have hG6t : (I113 rm 6).toInt = G6.toInt := congrArg Int32.toInt hG6
                  have hG7 : I113 rm 7 = x5_ := (Eq.trans (hf113.get krm rfl) (Eq.trans (hf108.get krm rfl) (Eq.trans (hf105.get krm rfl) (Eq.trans (hf9.get krm rfl) (Eq.trans (hf6.get krm rfl) e5.symm)))))
                  have hG7t : (I113 rm 7).toInt = x5_.toInt := congrArg Int32.toInt hG7
                  have hG8 : I113 rm 8 = G8 := (Eq.trans (hf113.get krm rfl) (Eq.trans (hf108.get krm rfl) (Eq.trans (hf105.get krm rfl) (Eq.trans (hf9.get krm rfl) (Eq.trans (hf6.get krm rfl) (Eq.trans (hf3.get krm rfl) eG8.symm))))))
                  have hG8t : (I113 rm 8).toInt = G8.toInt := congrArg Int32.toInt hG8
                  have hG9 : I113 rm 9 = G9 := (Eq.trans (hf113.get krm rfl) (Eq.trans (hf108.get krm rfl) (Eq.trans (hf105.get krm rfl) (Eq.trans (hf9.get krm rfl) (Eq.trans (hf6.get krm rfl) (Eq.trans (hf3.get krm rfl) eG9.symm))))))
                  have hG9t : (I113 rm 9).toInt = G9.toInt := congrArg Int32.toInt hG9
                  have hG10 : I113 rm 10 = N1 := (Eq.trans (hf113.get krm rfl) (Eq.trans (hf108.get krm rfl) (Eq.trans (hf105.get krm rfl) (Eq.trans (hf9.get krm rfl) eN1.symm))))
                  have hG10t : (I113 rm 10).toInt = N1.toInt := congrArg Int32.toInt hG10
                  exact r_vret hC hQ hlk hr (by decide) (by decide) dX10_readStory_204 ⟨_, _, rfl, rfl, ⟨hs113, hF113, hFJ113, (by exact Or.inr ⟨kf113, qf113, by unfold sStory sMore; rw [pif_f hbg, hsp6, bnd_ok, hsp9, bnd_ok, pif_f (show ¬ sKind B n p9 = -1 by rw [hkn]; decide), hsp108, bnd_ok, pif_t (show sKind B n p9 = 2 from hkn), hsp113, bnd_er], by omega, by omega, by omega⟩), (by exact om113), (by exact oc113)⟩⟩
              · rw [show x106_.toInt = 0 by omega, show x107_.toInt = 99 by omega] at hsp108
                refine r_istore_n hC (lv' := [(3, .int x108_), (2, .int x102_), (1, .int x9_), (0, .ref a0)]) dX10_readStory_137 (by decide) rfl ?_
                refine r_iload_n hC dX10_readStory_138 1 rfl ?_
                refine r_iconst hC (v := (2)) dX10_readStory_139 (by decide) (by decide) (fun x135_ e135 t135 => ?_)
                refine r_icmp_ne hC (tgt := 156) dX10_readStory_140 (by decide) (fun c136 => ?_) (fun c136 => ?_)
                · exfalso; omega
                refine r_aload_n hC dX10_readStory_143 3 rfl ?_
                refine r_ldcwS hC (i := 52) (by decide) rfl rfl dX10_readStory_144 ?_
                refine r_iconst hC (v := (1)) dX10_readStory_147 (by decide) (by decide) (fun x137_ e137 t137 => ?_)
                refine r_bipush hC (v := (20)) dX10_readStory_148 (by decide) (by decide) (fun x138_ e138 t138 => ?_)
                refine r_callV hC (As := [.ref (g.2.2.1 52), .int x137_, .int x138_]) (rest := []) (ci := 10) (e_X10_readPart g (xL X) K len I108 J108 R hs108 a0 ka0 52 (by decide) x137_ x138_ (by omega)) mT_6_1 mT_1_10 mT_5_238 mT_6_0 mP_56 okX10_readPart ⟨by decide, by decide⟩ rfl (by show kO (K a0) = _; rw [ka0]; rfl) rfl rfl (Nat.le_of_ble_eq_true rfl) ⟨by decide, by decide⟩ dX10_readStory_150 (aI2 (F := fun st M => P g X 5 153 [(3, .int x108_), (2, .int x102_), (1, .int x9_), (0, .ref a0)] st _ _ M) (M := (K, len, I108, J108, R)) fun x139_ I139 J139 h139 => ?_)
                obtain ⟨hs139, hf139, hfj139, k139_0, k139_1, k139_2⟩ := h139
                show P g X 5 153 [(3, .int x108_), (2, .int x102_), (1, .int x9_), (0, .ref a0)] [.int x139_] _ _ (K, len, I139, J139, R)
                have hF139 : Fr K [(10, 7), (10, 10), (11, 8), (11, 9), (11, 10), (11, 11), (11, 12), (11, 13), (75, 999), (76, 999), (83, 999), (84, 999), (1000, 999)] I I139 := hF108.trans hf139 rfl rfl
                have hFJ139 : Fr K [(11, 14), (82, 999)] J J139 := hFJ108.trans hfj139 rfl rfl
                have oc139 := oc108.mv qM_big hf139 rfl
                have om139 := om108.mv hf139 rfl
                refine r_goto hC (tgt := 194) dX10_readStory_153 (by decide) ?_
                refine r_istore hC (lv' := [(4, .int x139_), (3, .int x108_), (2, .int x102_), (1, .int x9_), (0, .ref a0)]) dX10_readStory_194 (by decide) rfl ?_
                refine r_aload_n hC dX10_readStory_196 4 rfl ?_
                refine r_geti hC 9 (ci := 10) rfl u10_in (by decide) mT_5_4 dX10_readStory_197 ka0 rfl rfl (fun x140_ e140 => ?_)
                have f140 : x140_.toInt = (I139 a0 9).toInt := by rw [e140]
                refine r_iconst hC (v := (5)) dX10_readStory_200 (by decide) (by decide) (fun x141_ e141 t141 => ?_)
                refine r_icmp_ne hC (tgt := 205) dX10_readStory_201 (by decide) (fun c142 => ?_) (fun c142 => ?_)
                · exfalso; omega
                have hG0 : I139 rm 0 = G0 := (Eq.trans (hf139.get krm rfl) (Eq.trans (hf108.get krm rfl) (Eq.trans (hf105.get krm rfl) (Eq.trans (hf9.get krm rfl) (Eq.trans (hf6.get krm rfl) (Eq.trans (hf3.get krm rfl) eG0.symm))))))
                have hG0t : (I139 rm 0).toInt = G0.toInt := congrArg Int32.toInt hG0
                have hG1 : I139 rm 1 = G1 := (Eq.trans (hf139.get krm rfl) (Eq.trans (hf108.get krm rfl) (Eq.trans (hf105.get krm rfl) (Eq.trans (hf9.get krm rfl) (Eq.trans (hf6.get krm rfl) (Eq.trans (hf3.get krm rfl) eG1.symm))))))
                have hG1t : (I139 rm 1).toInt = G1.toInt := congrArg Int32.toInt hG1
                have hG2 : I139 rm 2 = G2 := (Eq.trans (hf139.get krm rfl) (Eq.trans (hf108.get krm rfl) (Eq.trans (hf105.get krm rfl) (Eq.trans (hf9.get krm rfl) (Eq.trans (hf6.get krm rfl) (Eq.trans (hf3.get krm rfl) eG2.symm))))))
                have hG2t : (I139 rm 2).toInt = G2.toInt := congrArg Int32.toInt hG2
                have hG3 : I139 rm 3 = G3 := (Eq.trans (hf139.get krm rfl) (Eq.trans (hf108.get krm rfl) (Eq.trans (hf105.get krm rfl) (Eq.trans (hf9.get krm rfl) (Eq.trans (hf6.get krm rfl) (Eq.trans (hf3.get krm rfl) eG3.symm))))))
                have hG3t : (I139 rm 3).toInt = G3.toInt := congrArg Int32.toInt hG3
                have hG4 : I139 rm 4 = G4 := (Eq.trans (hf139.get krm rfl) (Eq.trans (hf108.get krm rfl) (Eq.trans (hf105.get krm rfl) (Eq.trans (hf9.get krm rfl) (Eq.trans (hf6.get krm rfl) (Eq.trans (hf3.get krm rfl) eG4.symm))))))
                have hG4t : (I139 rm 4).toInt = G4.toInt := congrArg Int32.toInt hG4
                have hG5 : I139 rm 5 = G5 := (Eq.trans (hf139.get krm rfl) (Eq.trans (hf108.get krm rfl) (Eq.trans (hf105.get krm rfl) (Eq.trans (hf9.get krm rfl) (Eq.trans (hf6.get krm rfl) (Eq.trans (hf3.get krm rfl) eG5.symm))))))
                have hG5t : (I139 rm 5).toInt = G5.toInt := congrArg Int32.toInt hG5
                have hG6 : I139 rm 6 = G6 := (Eq.trans (hf139.get krm rfl) (Eq.trans (hf108.get krm rfl) (Eq.trans (hf105.get krm rfl) (Eq.trans (hf9.get krm rfl) (Eq.trans (hf6.get krm rfl) (Eq.trans (hf3.get krm rfl) eG6.symm))))))
                have hG6t : (I139 rm 6).toInt = G6.toInt := congrArg Int32.toInt hG6
                have hG7 : I139 rm 7 = x5_ := (Eq.trans (hf139.get krm rfl) (Eq.trans (hf108.get krm rfl) (Eq.trans (hf105.get krm rfl) (Eq.trans (hf9.get krm rfl) (Eq.trans (hf6.get krm rfl) e5.symm)))))
                have hG7t : (I139 rm 7).toInt = x5_.toInt := congrArg Int32.toInt hG7
                have hG8 : I139 rm 8 = G8 := (Eq.trans (hf139.get krm rfl) (Eq.trans (hf108.get krm rfl) (Eq.trans (hf105.get krm rfl) (Eq.trans (hf9.get krm rfl) (Eq.trans (hf6.get krm rfl) (Eq.trans (hf3.get krm rfl) eG8.symm))))))
                have hG8t : (I139 rm 8).toInt = G8.toInt := congrArg Int32.toInt hG8
                have hG9 : I139 rm 9 = G9 := (Eq.trans (hf139.get krm rfl) (Eq.trans (hf108.get krm rfl) (Eq.trans (hf105.get krm rfl) (Eq.trans (hf9.get krm rfl) (Eq.trans (hf6.get krm rfl) (Eq.trans (hf3.get krm rfl) eG9.symm))))))
                have hG9t : (I139 rm 9).toInt = G9.toInt := congrArg Int32.toInt hG9
                have hG10 : I139 rm 10 = N1 := (Eq.trans (hf139.get krm rfl) (Eq.trans (hf108.get krm rfl) (Eq.trans (hf105.get krm rfl) (Eq.trans (hf9.get krm rfl) eN1.symm))))
                have hG10t : (I139 rm 10).toInt = N1.toInt := congrArg Int32.toInt hG10
                exact r_vret hC hQ hlk hr (by decide) (by decide) dX10_readStory_204 ⟨_, _, rfl, rfl, ⟨hs139, hF139, hFJ139, (by exact Or.inr ⟨kf108, qf108, by unfold sStory sMore; rw [pif_f hbg, hsp6, bnd_ok, hsp9, bnd_ok, pif_f (show ¬ sKind B n p9 = -1 by rw [hkn]; decide), hsp108, bnd_er], by omega, by omega, by omega⟩), (by exact om139), (by exact oc139)⟩⟩
            · refine r_if_eq hC (tgt := 74) dX10_readStory_67 (by decide) (fun c143 => ?_) (fun c143 => ?_)
              rotate_left
              · exfalso; omega
              refine r_aload_n hC dX10_readStory_74 1 rfl ?_
              refine r_ldcS hC (i := 49) (by decide) rfl rfl dX10_readStory_75 ?_
              refine r_callV hC (As := [.ref (g.2.2.1 49)]) (rest := []) (ci := 10) (f_X10_isWord g (xL X) K len I9 J9 R hs9 a0 ka0 49 (by decide) B n p9 hp9 tk9 (by first | assumption | decide)) mT_5_223 mT_1_10 mT_5_220 mT_5_222 mP_53 okX10_isWord ⟨by decide, by decide⟩ rfl (by show kO (K a0) = _; rw [ka0]; rfl) rfl rfl (Nat.le_of_ble_eq_true rfl) ⟨by decide, by decide⟩ dX10_readStory_77 (aI0 (F := fun st M => P g X 5 80 [(1, .int x9_), (0, .ref a0)] st _ _ M) (M := (K, len, I9, J9, R)) fun x144_ h144 => ?_)
              have k144_0 := h144
              clear h144
              show P g X 5 80 [(1, .int x9_), (0, .ref a0)] [.int x144_] _ _ (K, len, I9, J9, R)
              rcases k144_0 with ⟨hr144, hw144⟩ | ⟨hr144, hw144⟩
              · refine r_if_eq hC (tgt := 87) dX10_readStory_80 (by decide) (fun c145 => ?_) (fun c145 => ?_)
                · exfalso; omega
                refine r_iconst hC (v := (3)) dX10_readStory_83 (by decide) (by decide) (fun x146_ e146 t146 => ?_)
                refine r_goto hC (tgt := 115) dX10_readStory_84 (by decide) ?_
                have hkn : sKind B n p9 = 3 := by unfold sKind; rw [pif_f (show ¬ isW B n p9 15 from hw10), pif_f (show ¬ isW B n p9 16 from hw55), pif_f (show ¬ isW B n p9 17 from hw100), pif_t (show isW B n p9 18 from hw144)]
                refine r_istore_n hC (lv' := [(2, .int x146_), (1, .int x9_), (0, .ref a0)]) dX10_readStory_115 (by decide) rfl ?_
                refine r_iload_n hC dX10_readStory_116 0 rfl ?_
                refine r_iconst hC (v := (-1)) dX10_readStory_117 (by decide) (by decide) (fun x147_ e147 t147 => ?_)
                refine r_icmp_ne hC (tgt := 126) dX10_readStory_118 (by decide) (fun c148 => ?_) (fun c148 => ?_)
                rotate_left
                · exfalso; omega
                refine r_aload_n hC dX10_readStory_126 2 rfl ?_
                refine r_callV hC (As := []) (rest := []) (ci := 10) (f_X10_goesOn g (xL X) K len I9 J9 R hs9 a0 ka0 mt hmt kmt nmt B n (hB.mv9 hF9 kmt (fun _ => rfl)) hBr hn (nx B n p9) (nx_le hp9).2 (tk9.e5) (tk9.2.2.1 (by first | omega | (rw [hw144.1]; decide))) (tk9.2.2.2.1)) mT_5_199 mT_1_10 mT_5_196 mT_5_198 mP_49 okX10_goesOn ⟨by decide, by decide⟩ rfl (by show kO (K a0) = _; rw [ka0]; rfl) rfl rfl (Nat.le_of_ble_eq_true rfl) ⟨by decide, by decide⟩ dX10_readStory_127 (aV2 (F := fun st M => P g X 5 130 [(2, .int x146_), (1, .int x9_), (0, .ref a0)] st _ _ M) (M := (K, len, I9, J9, R)) fun I149 J149 h149 => ?_)
                obtain ⟨hs149, hf149, hfj149, k149_0⟩ := h149
                show P g X 5 130 [(2, .int x146_), (1, .int x9_), (0, .ref a0)] [] _ _ (K, len, I149, J149, R)
                have hF149 : Fr K [(10, 7), (10, 10), (11, 8), (11, 9), (11, 10), (11, 11), (11, 12), (11, 13), (75, 999), (76, 999), (83, 999), (84, 999), (1000, 999)] I I149 := hF9.trans hf149 rfl rfl
                have hFJ149 : Fr K [(11, 14), (82, 999)] J J149 := hFJ9.trans hfj149 rfl rfl
                have fp149 : I149 a0 12 = I a0 12 := (hf149.get ka0 rfl).trans fq9
                have pg149 := pg9.mv hf149 kns (fun _ => rfl)
                have nm149 := nm9.mv hfj149 knr (fun _ => rfl)
                have oc149 := oc9.mv qM_big hf149 rfl
                have rw149 := rw9.mv hcx qM_big hf149 rfl
                have om149 := om9.mv hf149 rfl
                have ni149 := ni9.mv hf149 kns knn (fun _ => rfl) (fun _ => rfl)
                refine r_aload_n hC dX10_readStory_130 2 rfl ?_
                refine r_iconst hC (v := (0)) dX10_readStory_131 (by decide) (by decide) (fun x150_ e150 t150 => ?_)
                refine r_bipush hC (v := (99)) dX10_readStory_132 (by decide) (by decide) (fun x151_ e151 t151 => ?_)
                refine r_callV hC (As := [.int x150_, .int x151_]) (rest := []) (ci := 10) (f_X10_readWhole g (xL X) K len I149 J149 R hs149 a0 ka0 x150_ x151_ mt hmt kmt nmt B n (hB.mv9 hF149 kmt (fun _ => rfl)) hBr hn (nx B n p9) (nx_le hp9).2 k149_0) mT_6_5 mT_1_10 mT_6_2 mT_6_4 mP_57 okX10_readWhole ⟨by decide, by decide⟩ rfl (by show kO (K a0) = _; rw [ka0]; rfl) rfl rfl (Nat.le_of_ble_eq_true rfl) ⟨by decide, by decide⟩ dX10_readStory_134 (aI2 (F := fun st M => P g X 5 137 [(2, .int x146_), (1, .int x9_), (0, .ref a0)] st _ _ M) (M := (K, len, I149, J149, R)) fun x152_ I152 J152 h152 => ?_)
                obtain ⟨hs152, hf152, hfj152, k152_0⟩ := h152
                show P g X 5 137 [(2, .int x146_), (1, .int x9_), (0, .ref a0)] [.int x152_] _ _ (K, len, I152, J152, R)
                have hF152 : Fr K [(10, 7), (10, 10), (11, 8), (11, 9), (11, 10), (11, 11), (11, 12), (11, 13), (75, 999), (76, 999), (83, 999), (84, 999), (1000, 999)] I I152 := hF149.trans hf152 rfl rfl
                have hFJ152 : Fr K [(11, 14), (82, 999)] J J152 := hFJ149.trans hfj152 rfl rfl
                have pg152 := pg149.mv hf152 kns (fun _ => rfl)
                have nm152 := nm149.mv hfj152 knr (fun _ => rfl)
                have oc152 := oc149.mv qM_big hf152 rfl
                have rw152 := rw149.mv hcx qM_big hf152 rfl
                have om152 := om149.mv hf152 rfl
                have ni152 := ni149.mv hf152 kns knn (fun _ => rfl) (fun _ => rfl)
                rcases k152_0 with ⟨v152, p152, hsp152, hp152, tk152, hv152, fl152⟩ | ⟨kf152, qf152, hsp152, hf0152, hf1152, hf2152⟩
                · have fq152 : I152 a0 12 = I a0 12 := fl152.trans fp149
                  rw [show x150_.toInt = 0 by omega, show x151_.toInt = 99 by omega] at hsp152
                  have rg152 := (sWhole_go (nx_le hp9).2 hsp152).2
                  refine r_istore_n hC (lv' := [(3, .int x152_), (2, .int x146_), (1, .int x9_), (0, .ref a0)]) dX10_readStory_137 (by decide) rfl ?_
                  refine r_iload_n hC dX10_readStory_138 1 rfl ?_
                  refine r_iconst hC (v := (2)) dX10_readStory_139 (by decide) (by decide) (fun x153_ e153 t153 => ?_)
                  refine r_icmp_ne hC (tgt := 156) dX10_readStory_140 (by decide) (fun c154 => ?_) (fun c154 => ?_)
                  rotate_left
                  · exfalso; omega
                  refine r_iload_n hC dX10_readStory_156 1 rfl ?_
                  refine r_iconst hC (v := (3)) dX10_readStory_157 (by decide) (by decide) (fun x155_ e155 t155 => ?_)
                  refine r_icmp_ne hC (tgt := 175) dX10_readStory_158 (by decide) (fun c156 => ?_) (fun c156 => ?_)
                  · exfalso; omega
                  refine r_aload_n hC dX10_readStory_161 3 rfl ?_
                  refine r_ldcwS hC (i := 53) (by decide) rfl rfl dX10_readStory_162 ?_
                  refine r_iconst hC (v := (0)) dX10_readStory_165 (by decide) (by decide) (fun x157_ e157 t157 => ?_)
                  refine r_sipush hC (v := (999)) dX10_readStory_166 (by decide) (by decide) (fun x158_ e158 t158 => ?_)
                  refine r_callV hC (As := [.ref (g.2.2.1 53), .int x157_, .int x158_]) (rest := []) (ci := 10) (f_X10_readPart g (xL X) K len I152 J152 R hs152 a0 ka0 53 (by decide) x157_ x158_ mt hmt kmt nmt B n (hB.mv9 hF152 kmt (fun _ => rfl)) hBr hn p152 hp152 tk152 (by first | assumption | decide)) mT_6_1 mT_1_10 mT_5_238 mT_6_0 mP_56 okX10_readPart ⟨by decide, by decide⟩ rfl (by show kO (K a0) = _; rw [ka0]; rfl) rfl rfl (Nat.le_of_ble_eq_true rfl) ⟨by decide, by decide⟩ dX10_readStory_169 (aI2 (F := fun st M => P g X 5 172 [(3, .int x152_), (2, .int x146_), (1, .int x9_), (0, .ref a0)] st _ _ M) (M := (K, len, I152, J152, R)) fun x159_ I159 J159 h159 => ?_)
                  obtain ⟨hs159, hf159, hfj159, k159_0⟩ := h159
                  show P g X 5 172 [(3, .int x152_), (2, .int x146_), (1, .int x9_), (0, .ref a0)] [.int x159_] _ _ (K, len, I159, J159, R)
                  have hF159 : Fr K [(10, 7), (10, 10), (11, 8), (11, 9), (11, 10), (11, 11), (11, 12), (11, 13), (75, 999), (76, 999), (83, 999), (84, 999), (1000, 999)] I I159 := hF152.trans hf159 rfl rfl
                  have hFJ159 : Fr K [(11, 14), (82, 999)] J J159 := hFJ152.trans hfj159 rfl rfl
                  have pg159 := pg152.mv hf159 kns (fun _ => rfl)
                  have nm159 := nm152.mv hfj159 knr (fun _ => rfl)
                  have oc159 := oc152.mv qM_big hf159 rfl
                  have rw159 := rw152.mv hcx qM_big hf159 rfl
                  have om159 := om152.mv hf159 rfl
                  have ni159 := ni152.mv hf159 kns knn (fun _ => rfl) (fun _ => rfl)
                  rcases k159_0 with ⟨v159, p159, hsp159, hp159, tk159, hv159, fl159⟩ | ⟨kf159, qf159, hsp159, hf0159, hf1159, hf2159⟩
                  · have fq159 : I159 a0 12 = I a0 12 := fl159.trans fq152
                    rw [show x157_.toInt = 0 by omega, show x158_.toInt = 999 by omega] at hsp159
                    have rg159 := (sNum_go hp152 hsp159).2
                    refine r_goto hC (tgt := 194) dX10_readStory_172 (by decide) ?_
                    refine r_istore hC (lv' := [(4, .int x159_), (3, .int x152_), (2, .int x146_), (1, .int x9_), (0, .ref a0)]) dX10_readStory_194 (by decide) rfl ?_
                    refine r_aload_n hC dX10_readStory_196 4 rfl ?_
                    have n5_197 := tk159.e5
                    refine r_geti hC 9 (ci := 10) rfl u10_in (by decide) mT_5_4 dX10_readStory_197 ka0 rfl rfl (fun x160_ e160 => ?_)
                    have f160 : x160_.toInt = (I159 a0 9).toInt := by rw [e160]
                    refine r_iconst hC (v := (5)) dX10_readStory_200 (by decide) (by decide) (fun x161_ e161 t161 => ?_)
                    refine r_icmp_ne hC (tgt := 205) dX10_readStory_201 (by decide) (fun c162 => ?_) (fun c162 => ?_)
                    rotate_left
                    · exfalso; omega
                    refine r_aload_n hC dX10_readStory_205 4 rfl ?_
                    refine r_getr hC 4 (ci := 10) rfl u10_in (by decide) mT_4_239 dX10_readStory_206 ka0 rfl rfl hbr ?_
                    obtain ⟨a163_, hb163, hk163, hn163⟩ := hs159.row krm 16 75 6 (by decide) (by decide)
                    refine r_getrN hC 16 (ci := 9) rfl u9_in (by decide) nF_16 dX10_readStory_209 krm rfl rfl hb163 ?_
                    refine r_aload_n hC dX10_readStory_212 4 rfl ?_
                    refine r_getr hC 4 (ci := 10) rfl u10_in (by decide) mT_4_239 dX10_readStory_213 ka0 rfl rfl hbr ?_
                    refine r_getiN hC 7 (ci := 9) rfl u9_in (by decide) nF_7 dX10_readStory_216 krm rfl rfl (fun x164_ e164 => ?_)
                    have r164 := hs159.rng krm rfl e164
                    have f164 : x164_.toInt = (I159 rm 7).toInt := by rw [e164]
                    have w164 : x164_ = x5_ := by rw [e164]; exact (Eq.trans (hf159.get krm rfl) (Eq.trans (hf152.get krm rfl) (Eq.trans (hf149.get krm rfl) (Eq.trans (hf9.get krm rfl) (Eq.trans (hf6.get krm rfl) e5.symm)))))
                    have wt164 : x164_.toInt = x5_.toInt := by rw [w164]
                    refine r_iload_n hC dX10_readStory_219 3 rfl ?_
                    refine x_iastore hC hk163 hn163 (by decide) rfl rfl dX10_readStory_220 (by omega) (by omega) (fun I165 eI165 => ?_)
                    have hs165 := hs159.put0 eI165 hk163 (rng_arr (by decide) _) rfl (xF_arr (by decide) _) (by decide)
                    have hF165 := hF159.put eI165 hk163 (inS_arr rfl _)
                    have tkp165 := tk159.put eI165 hk163 ka0 (by decide)
                    have fp165 : I165 a0 12 = I a0 12 := (up2_kk eI165 hk163 ka0 (by decide)).trans fq159
                    have pg165 := pg159.put eI165 hk163 kns (by decide)
                    have om165 := om159.put eI165 hk163 (by first | exact Or.inr rfl | exact Or.inl (by decide) | exact Or.inl (by omega))
                    have ni165 := ni159.put eI165 hk163 kns knn (by decide) (by decide)
                    have nnz : 0 ≤ (adN D (vl B n (nx B n p))) 0 7 := by omega
                    have ix165 : x164_.toInt = (adN D (vl B n (nx B n p))) 0 7 := by omega
                    have eC165 := eI165
                    rw [clx ix165 nnz] at eC165
                    have rw165 := rw159.put hcx (r0 := 6) (j0 := ((adN D (vl B n (nx B n p))) 0 7).toNat) (w := v9) (cM (r := 6) (by decide) (by decide) hb163) eC165 hv9 (by rw [cnt_6]; exact Int.toNat_of_nonneg nnz) (fun h9 => absurd h9 (by decide))
                    have oc165 := oc159.put (cM (r := 6) (by decide) (by decide) hb163) eC165
                    refine r_aload_n hC dX10_readStory_221 4 rfl ?_
                    refine r_getr hC 4 (ci := 10) rfl u10_in (by decide) mT_4_239 dX10_readStory_222 ka0 rfl rfl hbr ?_
                    obtain ⟨kd166, mo166, hb166, hk166, hn166, hB166, hK166, hN166⟩ := hs165.2.2.1 rm krm
                    refine r_getrN hC 17 (ci := 9) rfl u9_in (by decide) nF_17 dX10_readStory_225 krm rfl rfl hb166 ?_
                    refine r_aload_n hC dX10_readStory_228 4 rfl ?_
                    refine r_getr hC 4 (ci := 10) rfl u10_in (by decide) mT_4_239 dX10_readStory_229 ka0 rfl rfl hbr ?_
                    refine r_getiN hC 7 (ci := 9) rfl u9_in (by decide) nF_7 dX10_readStory_232 krm rfl rfl (fun x167_ e167 => ?_)
                    have r167 := hs165.rng krm rfl e167
                    have f167 : x167_.toInt = (I165 rm 7).toInt := by rw [e167]
                    have w167 : x167_ = x164_ := by rw [e167]; exact (Eq.trans (up2_kk eI165 hk163 krm (by decide)) e164.symm)
                    have wt167 : x167_.toInt = x164_.toInt := by rw [w167]
                    refine r_iload_n hC dX10_readStory_235 2 rfl ?_
                    refine x_iastore hC hk166 hn166 (by omega) (kOb (by omega)) (kAb (by omega)) dX10_readStory_236 (by omega) (by omega) (fun I168 eI168 => ?_)
                    have hs168 : Sf K len I168 R := hs165.putK (rm := rm) eI168 (Or.inl hk166) (by have h9 := clampI (i := x167_) (by omega); omega)
                    have hF168 := hF165.put eI168 hk166 (inS_big rfl (by omega) _)
                    have tkp168 := tkp165.put eI168 hk166 ka0 (by omega)
                    have fp168 : I168 a0 12 = I a0 12 := (up2_kk eI168 hk166 ka0 (by omega)).trans fp165
                    have pg168 := pg165.put eI168 hk166 kns (by omega)
                    have om168 := om165.put eI168 hk166 (by first | exact Or.inr rfl | exact Or.inl (by decide) | exact Or.inl (by omega))
                    have ni168 := ni165.put eI168 hk166 kns knn (by omega) (by omega)
                    have eC168 := eI168
                    rw [clx (wt167.trans ix165) nnz] at eC168
                    have rw168 := rw165.put hcx (r0 := 7) (j0 := ((adN D (vl B n (nx B n p))) 0 7).toNat) (w := sKind B n p9) (cM (r := 7) (by decide) (by decide) hb166) eC168 (by omega) (by rw [upN_o (by decide), cnt_7]; exact Int.toNat_of_nonneg nnz) (fun _ => by rw [upN_o (by decide), cnt_9]; exact Int.le_of_eq (Int.toNat_of_nonneg nnz).symm)
                    have oc168 := oc165.put (cM (r := 7) (by decide) (by decide) hb166) eC168
                    refine r_aload_n hC dX10_readStory_237 4 rfl ?_
                    refine r_getr hC 4 (ci := 10) rfl u10_in (by decide) mT_4_239 dX10_readStory_238 ka0 rfl rfl hbr ?_
                    obtain ⟨a169_, hb169, hk169, hn169⟩ := hs168.row krm 18 76 6 (by decide) (by decide)
                    refine r_getrN hC 18 (ci := 9) rfl u9_in (by decide) nF_18 dX10_readStory_241 krm rfl rfl hb169 ?_
                    refine r_aload_n hC dX10_readStory_244 4 rfl ?_
                    refine r_getr hC 4 (ci := 10) rfl u10_in (by decide) mT_4_239 dX10_readStory_245 ka0 rfl rfl hbr ?_
                    refine r_getiN hC 7 (ci := 9) rfl u9_in (by decide) nF_7 dX10_readStory_248 krm rfl rfl (fun x170_ e170 => ?_)
                    have r170 := hs168.rng krm rfl e170
                    have f170 : x170_.toInt = (I168 rm 7).toInt := by rw [e170]
                    have w170 : x170_ = x167_ := by rw [e170]; exact (Eq.trans (up2_kk eI168 hk166 krm (by omega)) e167.symm)
                    have wt170 : x170_.toInt = x167_.toInt := by rw [w170]
                    refine r_iload_n hC dX10_readStory_251 1 rfl ?_
                    refine x_iastore hC hk169 hn169 (by decide) rfl rfl dX10_readStory_252 (by omega) (by omega) (fun I171 eI171 => ?_)
                    have hs171 := hs168.put0 eI171 hk169 (rng_arr (by decide) _) rfl (xF_arr (by decide) _) (by decide)
                    have hF171 := hF168.put eI171 hk169 (inS_arr rfl _)
                    have tkp171 := tkp168.put eI171 hk169 ka0 (by decide)
                    have fp171 : I171 a0 12 = I a0 12 := (up2_kk eI171 hk169 ka0 (by decide)).trans fp168
                    have pg171 := pg168.put eI171 hk169 kns (by decide)
                    have om171 := om168.put eI171 hk169 (by first | exact Or.inr rfl | exact Or.inl (by decide) | exact Or.inl (by omega))
                    have ni171 := ni168.put eI171 hk169 kns knn (by decide) (by decide)
                    have eC171 := eI171
                    rw [clx (wt170.trans (wt167.trans ix165)) nnz] at eC171
                    have rw171 := rw168.put hcx (r0 := 8) (j0 := ((adN D (vl B n (nx B n p))) 0 7).toNat) (w := v152) (cM (r := 8) (by decide) (by decide) hb169) eC171 hv152 (by rw [upN_o (by decide), upN_o (by decide), cnt_8]; exact Int.toNat_of_nonneg nnz) (fun h9 => absurd h9 (by decide))
                    have oc171 := oc168.put (cM (r := 8) (by decide) (by decide) hb169) eC171
                    refine r_aload_n hC dX10_readStory_253 4 rfl ?_
                    refine r_getr hC 4 (ci := 10) rfl u10_in (by decide) mT_4_239 dX10_readStory_254 ka0 rfl rfl hbr ?_
                    refine r_getrN hC 19 (ci := 9) rfl u9_in (by decide) nF_19 dX10_readStory_257 krm rfl rfl hB166 ?_
                    refine r_aload_n hC dX10_readStory_260 4 rfl ?_
                    refine r_getr hC 4 (ci := 10) rfl u10_in (by decide) mT_4_239 dX10_readStory_261 ka0 rfl rfl hbr ?_
                    refine r_getiN hC 7 (ci := 9) rfl u9_in (by decide) nF_7 dX10_readStory_264 krm rfl rfl (fun x172_ e172 => ?_)
                    have r172 := hs171.rng krm rfl e172
                    have f172 : x172_.toInt = (I171 rm 7).toInt := by rw [e172]
                    have w172 : x172_ = x170_ := by rw [e172]; exact (Eq.trans (up2_kk eI171 hk169 krm (by decide)) e170.symm)
                    have wt172 : x172_.toInt = x170_.toInt := by rw [w172]
                    refine r_iload hC dX10_readStory_267 0 rfl ?_
                    refine x_iastore hC hK166 hN166 (by omega) (kOb (by omega)) (kAb (by omega)) dX10_readStory_269 (by omega) (by omega) (fun I173 eI173 => ?_)
                    have hs173 : Sf K len I173 R := hs171.putK (rm := rm) eI173 (Or.inr hK166) (by have h9 := clampI (i := x172_) (by omega); omega)
                    have hF173 := hF171.put eI173 hK166 (inS_big rfl (by omega) _)
                    have tkp173 := tkp171.put eI173 hK166 ka0 (by omega)
                    have fp173 : I173 a0 12 = I a0 12 := (up2_kk eI173 hK166 ka0 (by omega)).trans fp171
                    have pg173 := pg171.put eI173 hK166 kns (by omega)
                    have om173 := om171.put eI173 hK166 (by first | exact Or.inr rfl | exact Or.inl (by decide) | exact Or.inl (by omega))
                    have ni173 := ni171.put eI173 hK166 kns knn (by omega) (by omega)
                    have eC173 := eI173
                    rw [clx (wt172.trans (wt170.trans (wt167.trans ix165))) nnz] at eC173
                    have rw173 := rw171.put hcx (r0 := 9) (j0 := ((adN D (vl B n (nx B n p))) 0 7).toNat) (w := v159) (cM (r := 9) (by decide) (by decide) hB166) eC173 hv159 (by rw [upN_o (by decide), upN_o (by decide), upN_o (by decide), cnt_9]; exact Int.toNat_of_nonneg nnz) (fun h9 => absurd h9 (by decide))
                    have oc173 := oc171.put (cM (r := 9) (by decide) (by decide) hB166) eC173
                    refine r_aload_n hC dX10_readStory_270 4 rfl ?_
                    refine r_getr hC 4 (ci := 10) rfl u10_in (by decide) mT_4_239 dX10_readStory_271 ka0 rfl rfl hbr ?_
                    refine r_dup hC dX10_readStory_274 rfl ?_
                    refine r_getiN hC 7 (ci := 9) rfl u9_in (by decide) nF_7 dX10_readStory_275 krm rfl rfl (fun x174_ e174 => ?_)
                    have r174 := hs173.rng krm rfl e174
                    have f174 : x174_.toInt = (I173 rm 7).toInt := by rw [e174]
                    have w174 : x174_ = x172_ := by rw [e174]; exact (Eq.trans (up2_kk eI173 hK166 krm (by omega)) e172.symm)
                    have wt174 : x174_.toInt = x172_.toInt := by rw [w174]
                    refine r_iconst hC (v := (1)) dX10_readStory_278 (by decide) (by decide) (fun x175_ e175 t175 => ?_)
                    refine r_iadd hC dX10_readStory_279 (fun x176_ e176 => ?_)
                    try have t176 : x176_.toInt = x174_.toInt + x175_.toInt := by rw [e176]; exact ti_add (by omega) (by omega)
                    refine r_putiN hC 7 (ci := 9) rfl u9_in tyX9_ok nmX9 (by decide) nF_7 rfl rfl rfl dX10_readStory_280 krm rfl rfl (fun I177 eI177 => ?_)
                    have hs177 : Sf K len I177 R := hs173.putA7 eI177 krm hb166 hB166 (by omega) (by omega) (j := x167_.toNatClampNeg) (by have h9 := clampI (i := x167_) (by omega); omega) (by omega) (by rw [(show I173 kd166 x167_.toNatClampNeg = x146_ from (Eq.trans (up2_kk eI173 hK166 hk166 (by omega)) (Eq.trans (up2_kk eI171 hk169 hk166 (by omega)) (by rw [eI168]; exact up2_self _ _ _ _)))), cl_eq (show x167_.toInt = x172_.toInt by omega), (show I173 mo166 x172_.toNatClampNeg = x159_ from (by rw [eI173]; exact up2_self _ _ _ _))]; omega)
                    have hF177 := hF173.put eI177 krm rfl
                    have tkp177 := tkp173.put eI177 krm ka0 (by decide)
                    have fp177 : I177 a0 12 = I a0 12 := (up2_kk eI177 krm ka0 (by decide)).trans fp173
                    have pg177 := pg173.put eI177 krm kns (by decide)
                    have om177 := om173.put eI177 krm (by first | exact Or.inr rfl | exact Or.inl (by decide) | exact Or.inl (by omega))
                    have ni177 := ni173.put eI177 krm kns knn (by decide) (by decide)
                    have rw177 := rw173.putO hcx eI177 krm rfl
                    have oc177 := oc173.putO eI177 krm rfl
                    have hG0 : I177 rm 0 = G0 := (Eq.trans (up2_at (Or.inr (by decide)) eI177) (Eq.trans (up2_kk eI173 hK166 krm (by omega)) (Eq.trans (up2_kk eI171 hk169 krm (by decide)) (Eq.trans (up2_kk eI168 hk166 krm (by omega)) (Eq.trans (up2_kk eI165 hk163 krm (by decide)) (Eq.trans (hf159.get krm rfl) (Eq.trans (hf152.get krm rfl) (Eq.trans (hf149.get krm rfl) (Eq.trans (hf9.get krm rfl) (Eq.trans (hf6.get krm rfl) (Eq.trans (hf3.get krm rfl) eG0.symm)))))))))))
                    have hG0t : (I177 rm 0).toInt = G0.toInt := congrArg Int32.toInt hG0
                    have hG1 : I177 rm 1 = G1 := (Eq.trans (up2_at (Or.inr (by decide)) eI177) (Eq.trans (up2_kk eI173 hK166 krm (by omega)) (Eq.trans (up2_kk eI171 hk169 krm (by decide)) (Eq.trans (up2_kk eI168 hk166 krm (by omega)) (Eq.trans (up2_kk eI165 hk163 krm (by decide)) (Eq.trans (hf159.get krm rfl) (Eq.trans (hf152.get krm rfl) (Eq.trans (hf149.get krm rfl) (Eq.trans (hf9.get krm rfl) (Eq.trans (hf6.get krm rfl) (Eq.trans (hf3.get krm rfl) eG1.symm)))))))))))
                    have hG1t : (I177 rm 1).toInt = G1.toInt := congrArg Int32.toInt hG1
                    have hG2 : I177 rm 2 = G2 := (Eq.trans (up2_at (Or.inr (by decide)) eI177) (Eq.trans (up2_kk eI173 hK166 krm (by omega)) (Eq.trans (up2_kk eI171 hk169 krm (by decide)) (Eq.trans (up2_kk eI168 hk166 krm (by omega)) (Eq.trans (up2_kk eI165 hk163 krm (by decide)) (Eq.trans (hf159.get krm rfl) (Eq.trans (hf152.get krm rfl) (Eq.trans (hf149.get krm rfl) (Eq.trans (hf9.get krm rfl) (Eq.trans (hf6.get krm rfl) (Eq.trans (hf3.get krm rfl) eG2.symm)))))))))))
                    have hG2t : (I177 rm 2).toInt = G2.toInt := congrArg Int32.toInt hG2
                    have hG3 : I177 rm 3 = G3 := (Eq.trans (up2_at (Or.inr (by decide)) eI177) (Eq.trans (up2_kk eI173 hK166 krm (by omega)) (Eq.trans (up2_kk eI171 hk169 krm (by decide)) (Eq.trans (up2_kk eI168 hk166 krm (by omega)) (Eq.trans (up2_kk eI165 hk163 krm (by decide)) (Eq.trans (hf159.get krm rfl) (Eq.trans (hf152.get krm rfl) (Eq.trans (hf149.get krm rfl) (Eq.trans (hf9.get krm rfl) (Eq.trans (hf6.get krm rfl) (Eq.trans (hf3.get krm rfl) eG3.symm)))))))))))
                    have hG3t : (I177 rm 3).toInt = G3.toInt := congrArg Int32.toInt hG3
                    have hG4 : I177 rm 4 = G4 := (Eq.trans (up2_at (Or.inr (by decide)) eI177) (Eq.trans (up2_kk eI173 hK166 krm (by omega)) (Eq.trans (up2_kk eI171 hk169 krm (by decide)) (Eq.trans (up2_kk eI168 hk166 krm (by omega)) (Eq.trans (up2_kk eI165 hk163 krm (by decide)) (Eq.trans (hf159.get krm rfl) (Eq.trans (hf152.get krm rfl) (Eq.trans (hf149.get krm rfl) (Eq.trans (hf9.get krm rfl) (Eq.trans (hf6.get krm rfl) (Eq.trans (hf3.get krm rfl) eG4.symm)))))))))))
                    have hG4t : (I177 rm 4).toInt = G4.toInt := congrArg Int32.toInt hG4
                    have hG5 : I177 rm 5 = G5 := (Eq.trans (up2_at (Or.inr (by decide)) eI177) (Eq.trans (up2_kk eI173 hK166 krm (by omega)) (Eq.trans (up2_kk eI171 hk169 krm (by decide)) (Eq.trans (up2_kk eI168 hk166 krm (by omega)) (Eq.trans (up2_kk eI165 hk163 krm (by decide)) (Eq.trans (hf159.get krm rfl) (Eq.trans (hf152.get krm rfl) (Eq.trans (hf149.get krm rfl) (Eq.trans (hf9.get krm rfl) (Eq.trans (hf6.get krm rfl) (Eq.trans (hf3.get krm rfl) eG5.symm)))))))))))
                    have hG5t : (I177 rm 5).toInt = G5.toInt := congrArg Int32.toInt hG5
                    have hG6 : I177 rm 6 = G6 := (Eq.trans (up2_at (Or.inr (by decide)) eI177) (Eq.trans (up2_kk eI173 hK166 krm (by omega)) (Eq.trans (up2_kk eI171 hk169 krm (by decide)) (Eq.trans (up2_kk eI168 hk166 krm (by omega)) (Eq.trans (up2_kk eI165 hk163 krm (by decide)) (Eq.trans (hf159.get krm rfl) (Eq.trans (hf152.get krm rfl) (Eq.trans (hf149.get krm rfl) (Eq.trans (hf9.get krm rfl) (Eq.trans (hf6.get krm rfl) (Eq.trans (hf3.get krm rfl) eG6.symm)))))))))))
                    have hG6t : (I177 rm 6).toInt = G6.toInt := congrArg Int32.toInt hG6
                    have hG7 : I177 rm 7 = x176_ := (by rw [eI177]; exact up2_self _ _ _ _)
                    have hG7t : (I177 rm 7).toInt = x176_.toInt := congrArg Int32.toInt hG7
                    have hG8 : I177 rm 8 = G8 := (Eq.trans (up2_at (Or.inr (by decide)) eI177) (Eq.trans (up2_kk eI173 hK166 krm (by omega)) (Eq.trans (up2_kk eI171 hk169 krm (by decide)) (Eq.trans (up2_kk eI168 hk166 krm (by omega)) (Eq.trans (up2_kk eI165 hk163 krm (by decide)) (Eq.trans (hf159.get krm rfl) (Eq.trans (hf152.get krm rfl) (Eq.trans (hf149.get krm rfl) (Eq.trans (hf9.get krm rfl) (Eq.trans (hf6.get krm rfl) (Eq.trans (hf3.get krm rfl) eG8.symm)))))))))))
                    have hG8t : (I177 rm 8).toInt = G8.toInt := congrArg Int32.toInt hG8
                    have hG9 : I177 rm 9 = G9 := (Eq.trans (up2_at (Or.inr (by decide)) eI177) (Eq.trans (up2_kk eI173 hK166 krm (by omega)) (Eq.trans (up2_kk eI171 hk169 krm (by decide)) (Eq.trans (up2_kk eI168 hk166 krm (by omega)) (Eq.trans (up2_kk eI165 hk163 krm (by decide)) (Eq.trans (hf159.get krm rfl) (Eq.trans (hf152.get krm rfl) (Eq.trans (hf149.get krm rfl) (Eq.trans (hf9.get krm rfl) (Eq.trans (hf6.get krm rfl) (Eq.trans (hf3.get krm rfl) eG9.symm)))))))))))
                    have hG9t : (I177 rm 9).toInt = G9.toInt := congrArg Int32.toInt hG9
                    have hG10 : I177 rm 10 = N1 := (Eq.trans (up2_at (Or.inr (by decide)) eI177) (Eq.trans (up2_kk eI173 hK166 krm (by omega)) (Eq.trans (up2_kk eI171 hk169 krm (by decide)) (Eq.trans (up2_kk eI168 hk166 krm (by omega)) (Eq.trans (up2_kk eI165 hk163 krm (by decide)) (Eq.trans (hf159.get krm rfl) (Eq.trans (hf152.get krm rfl) (Eq.trans (hf149.get krm rfl) (Eq.trans (hf9.get krm rfl) eN1.symm)))))))))
                    have hG10t : (I177 rm 10).toInt = N1.toInt := congrArg Int32.toInt hG10
                    exact r_vret hC hQ hlk hr (by decide) (by decide) dX10_readStory_283 ⟨_, _, rfl, rfl, ⟨hs177, hF177, hFJ159, (by exact Or.inl ⟨_, _, by unfold sStory sMore; rw [pif_f hbg, hsp6, bnd_ok, hsp9, bnd_ok, pif_f (show ¬ sKind B n p9 = -1 by rw [hkn]; decide), hsp152, bnd_ok, pif_f (show ¬ sKind B n p9 = 2 by rw [hkn]; decide), pif_t (show sKind B n p9 = 3 from hkn), hsp159, bnd_ok], hp159, tkp177, ⟨sm.st (by omega) (by omega) (by omega) (by simp [upD, adN, aStory]) (by simp [upD, adN, aStory]) (by simp [upD, adN, aStory]) (by simp [upD, adN, aStory]) (by simp [upD, adN, aStory]; omega) (by simp [upD, adN, aStory]; omega) (by simp [upD, adN, aStory]; omega) (by simp [upD, adN, aStory]; omega) (by simp [upD, adN, aStory]; omega) (by simp [upD, adN, aStory]; omega) (by simp [upD, adN, aStory]; omega) (by simp [upD, adN, aStory]; omega), nm159.cg (by simp [upD, aStory]) (by intro j; simp [upD, aStory]), pg177.cg (by simp [upD, aStory]) (by intro j; simp [upD, aStory]) (by simp [upD, aStory]) (by intro j; simp [upD, aStory])⟩, ni177.cg (by simp [upD, aStory]) (by intro j; simp [upD, aStory]) (by simp [upD, aStory]) (by intro j; simp [upD, aStory]), rw177.sto (Int.toNat_of_nonneg nnz) (fun _ => rfl), fp177⟩), (by exact om177), (by exact oc177)⟩⟩
                  · rw [show x157_.toInt = 0 by omega, show x158_.toInt = 999 by omega] at hsp159
                    refine r_goto hC (tgt := 194) dX10_readStory_172 (by decide) ?_
                    refine r_istore hC (lv' := [(4, .int x159_), (3, .int x152_), (2, .int x146_), (1, .int x9_), (0, .ref a0)]) dX10_readStory_194 (by decide) rfl ?_
                    refine r_aload_n hC dX10_readStory_196 4 rfl ?_
                    refine r_geti hC 9 (ci := 10) rfl u10_in (by decide) mT_5_4 dX10_readStory_197 ka0 rfl rfl (fun x178_ e178 => ?_)
                    have f178 : x178_.toInt = (I159 a0 9).toInt := by rw [e178]
                    refine r_iconst hC (v := (5)) dX10_readStory_200 (by decide) (by decide) (fun x179_ e179 t179 => ?_)
                    refine r_icmp_ne hC (tgt := 205) dX10_readStory_201 (by decide) (fun c180 => ?_) (fun c180 => ?_)
                    · exfalso; omega
                    have hG0 : I159 rm 0 = G0 := (Eq.trans (hf159.get krm rfl) (Eq.trans (hf152.get krm rfl) (Eq.trans (hf149.get krm rfl) (Eq.trans (hf9.get krm rfl) (Eq.trans (hf6.get krm rfl) (Eq.trans (hf3.get krm rfl) eG0.symm))))))
                    have hG0t : (I159 rm 0).toInt = G0.toInt := congrArg Int32.toInt hG0
                    have hG1 : I159 rm 1 = G1 := (Eq.trans (hf159.get krm rfl) (Eq.trans (hf152.get krm rfl) (Eq.trans (hf149.get krm rfl) (Eq.trans (hf9.get krm rfl) (Eq.trans (hf6.get krm rfl) (Eq.trans (hf3.get krm rfl) eG1.symm))))))
                    have hG1t : (I159 rm 1).toInt = G1.toInt := congrArg Int32.toInt hG1
                    have hG2 : I159 rm 2 = G2 := (Eq.trans (hf159.get krm rfl) (Eq.trans (hf152.get krm rfl) (Eq.trans (hf149.get krm rfl) (Eq.trans (hf9.get krm rfl) (Eq.trans (hf6.get krm rfl) (Eq.trans (hf3.get krm rfl) eG2.symm))))))
                    have hG2t : (I159 rm 2).toInt = G2.toInt := congrArg Int32.toInt hG2
                    have hG3 : I159 rm 3 = G3 := (Eq.trans (hf159.get krm rfl) (Eq.trans (hf152.get krm rfl) (Eq.trans (hf149.get krm rfl) (Eq.trans (hf9.get krm rfl) (Eq.trans (hf6.get krm rfl) (Eq.trans (hf3.get krm rfl) eG3.symm))))))
                    have hG3t : (I159 rm 3).toInt = G3.toInt := congrArg Int32.toInt hG3
                    have hG4 : I159 rm 4 = G4 := (Eq.trans (hf159.get krm rfl) (Eq.trans (hf152.get krm rfl) (Eq.trans (hf149.get krm rfl) (Eq.trans (hf9.get krm rfl) (Eq.trans (hf6.get krm rfl) (Eq.trans (hf3.get krm rfl) eG4.symm))))))
                    have hG4t : (I159 rm 4).toInt = G4.toInt := congrArg Int32.toInt hG4
                    have hG5 : I159 rm 5 = G5 := (Eq.trans (hf159.get krm rfl) (Eq.trans (hf152.get krm rfl) (Eq.trans (hf149.get krm rfl) (Eq.trans (hf9.get krm rfl) (Eq.trans (hf6.get krm rfl) (Eq.trans (hf3.get krm rfl) eG5.symm))))))
                    have hG5t : (I159 rm 5).toInt = G5.toInt := congrArg Int32.toInt hG5
                    have hG6 : I159 rm 6 = G6 := (Eq.trans (hf159.get krm rfl) (Eq.trans (hf152.get krm rfl) (Eq.trans (hf149.get krm rfl) (Eq.trans (hf9.get krm rfl) (Eq.trans (hf6.get krm rfl) (Eq.trans (hf3.get krm rfl) eG6.symm))))))
                    have hG6t : (I159 rm 6).toInt = G6.toInt := congrArg Int32.toInt hG6
                    have hG7 : I159 rm 7 = x5_ := (Eq.trans (hf159.get krm rfl) (Eq.trans (hf152.get krm rfl) (Eq.trans (hf149.get krm rfl) (Eq.trans (hf9.get krm rfl) (Eq.trans (hf6.get krm rfl) e5.symm)))))
                    have hG7t : (I159 rm 7).toInt = x5_.toInt := congrArg Int32.toInt hG7
                    have hG8 : I159 rm 8 = G8 := (Eq.trans (hf159.get krm rfl) (Eq.trans (hf152.get krm rfl) (Eq.trans (hf149.get krm rfl) (Eq.trans (hf9.get krm rfl) (Eq.trans (hf6.get krm rfl) (Eq.trans (hf3.get krm rfl) eG8.symm))))))
                    have hG8t : (I159 rm 8).toInt = G8.toInt := congrArg Int32.toInt hG8
                    have hG9 : I159 rm 9 = G9 := (Eq.trans (hf159.get krm rfl) (Eq.trans (hf152.get krm rfl) (Eq.trans (hf149.get krm rfl) (Eq.trans (hf9.get krm rfl) (Eq.trans (hf6.get krm rfl) (Eq.trans (hf3.get krm rfl) eG9.symm))))))
                    have hG9t : (I159 rm 9).toInt = G9.toInt := congrArg Int32.toInt hG9
                    have hG10 : I159 rm 10 = N1 := (Eq.trans (hf159.get krm rfl) (Eq.trans (hf152.get krm rfl) (Eq.trans (hf149.get krm rfl) (Eq.trans (hf9.get krm rfl) eN1.symm))))
                    have hG10t : (I159 rm 10).toInt = N1.toInt := congrArg Int32.toInt hG10
                    exact r_vret hC hQ hlk hr (by decide) (by decide) dX10_readStory_204 ⟨_, _, rfl, rfl, ⟨hs159, hF159, hFJ159, (by exact Or.inr ⟨kf159, qf159, by unfold sStory sMore; rw [pif_f hbg, hsp6, bnd_ok, hsp9, bnd_ok, pif_f (show ¬ sKind B n p9 = -1 by rw [hkn]; decide), hsp152, bnd_ok, pif_f (show ¬ sKind B n p9 = 2 by rw [hkn]; decide), pif_t (show sKind B n p9 = 3 from hkn), hsp159, bnd_er], by omega, by omega, by omega⟩), (by exact om159), (by exact oc159)⟩⟩
                · rw [show x150_.toInt = 0 by omega, show x151_.toInt = 99 by omega] at hsp152
                  refine r_istore_n hC (lv' := [(3, .int x152_), (2, .int x146_), (1, .int x9_), (0, .ref a0)]) dX10_readStory_137 (by decide) rfl ?_
                  refine r_iload_n hC dX10_readStory_138 1 rfl ?_
                  refine r_iconst hC (v := (2)) dX10_readStory_139 (by decide) (by decide) (fun x181_ e181 t181 => ?_)
                  refine r_icmp_ne hC (tgt := 156) dX10_readStory_140 (by decide) (fun c182 => ?_) (fun c182 => ?_)
                  rotate_left
                  · exfalso; omega
                  refine r_iload_n hC dX10_readStory_156 1 rfl ?_
                  refine r_iconst hC (v := (3)) dX10_readStory_157 (by decide) (by decide) (fun x183_ e183 t183 => ?_)
                  refine r_icmp_ne hC (tgt := 175) dX10_readStory_158 (by decide) (fun c184 => ?_) (fun c184 => ?_)
                  · exfalso; omega
                  refine r_aload_n hC dX10_readStory_161 3 rfl ?_
                  refine r_ldcwS hC (i := 53) (by decide) rfl rfl dX10_readStory_162 ?_
                  refine r_iconst hC (v := (0)) dX10_readStory_165 (by decide) (by decide) (fun x185_ e185 t185 => ?_)
                  refine r_sipush hC (v := (999)) dX10_readStory_166 (by decide) (by decide) (fun x186_ e186 t186 => ?_)
                  refine r_callV hC (As := [.ref (g.2.2.1 53), .int x185_, .int x186_]) (rest := []) (ci := 10) (e_X10_readPart g (xL X) K len I152 J152 R hs152 a0 ka0 53 (by decide) x185_ x186_ (by omega)) mT_6_1 mT_1_10 mT_5_238 mT_6_0 mP_56 okX10_readPart ⟨by decide, by decide⟩ rfl (by show kO (K a0) = _; rw [ka0]; rfl) rfl rfl (Nat.le_of_ble_eq_true rfl) ⟨by decide, by decide⟩ dX10_readStory_169 (aI2 (F := fun st M => P g X 5 172 [(3, .int x152_), (2, .int x146_), (1, .int x9_), (0, .ref a0)] st _ _ M) (M := (K, len, I152, J152, R)) fun x187_ I187 J187 h187 => ?_)
                  obtain ⟨hs187, hf187, hfj187, k187_0, k187_1, k187_2⟩ := h187
                  show P g X 5 172 [(3, .int x152_), (2, .int x146_), (1, .int x9_), (0, .ref a0)] [.int x187_] _ _ (K, len, I187, J187, R)
                  have hF187 : Fr K [(10, 7), (10, 10), (11, 8), (11, 9), (11, 10), (11, 11), (11, 12), (11, 13), (75, 999), (76, 999), (83, 999), (84, 999), (1000, 999)] I I187 := hF152.trans hf187 rfl rfl
                  have hFJ187 : Fr K [(11, 14), (82, 999)] J J187 := hFJ152.trans hfj187 rfl rfl
                  have oc187 := oc152.mv qM_big hf187 rfl
                  have om187 := om152.mv hf187 rfl
                  refine r_goto hC (tgt := 194) dX10_readStory_172 (by decide) ?_
                  refine r_istore hC (lv' := [(4, .int x187_), (3, .int x152_), (2, .int x146_), (1, .int x9_), (0, .ref a0)]) dX10_readStory_194 (by decide) rfl ?_
                  refine r_aload_n hC dX10_readStory_196 4 rfl ?_
                  refine r_geti hC 9 (ci := 10) rfl u10_in (by decide) mT_5_4 dX10_readStory_197 ka0 rfl rfl (fun x188_ e188 => ?_)
                  have f188 : x188_.toInt = (I187 a0 9).toInt := by rw [e188]
                  refine r_iconst hC (v := (5)) dX10_readStory_200 (by decide) (by decide) (fun x189_ e189 t189 => ?_)
                  refine r_icmp_ne hC (tgt := 205) dX10_readStory_201 (by decide) (fun c190 => ?_) (fun c190 => ?_)
                  · exfalso; omega
                  have hG0 : I187 rm 0 = G0 := (Eq.trans (hf187.get krm rfl) (Eq.trans (hf152.get krm rfl) (Eq.trans (hf149.get krm rfl) (Eq.trans (hf9.get krm rfl) (Eq.trans (hf6.get krm rfl) (Eq.trans (hf3.get krm rfl) eG0.symm))))))
                  have hG0t : (I187 rm 0).toInt = G0.toInt := congrArg Int32.toInt hG0
                  have hG1 : I187 rm 1 = G1 := (Eq.trans (hf187.get krm rfl) (Eq.trans (hf152.get krm rfl) (Eq.trans (hf149.get krm rfl) (Eq.trans (hf9.get krm rfl) (Eq.trans (hf6.get krm rfl) (Eq.trans (hf3.get krm rfl) eG1.symm))))))
                  have hG1t : (I187 rm 1).toInt = G1.toInt := congrArg Int32.toInt hG1
                  have hG2 : I187 rm 2 = G2 := (Eq.trans (hf187.get krm rfl) (Eq.trans (hf152.get krm rfl) (Eq.trans (hf149.get krm rfl) (Eq.trans (hf9.get krm rfl) (Eq.trans (hf6.get krm rfl) (Eq.trans (hf3.get krm rfl) eG2.symm))))))
                  have hG2t : (I187 rm 2).toInt = G2.toInt := congrArg Int32.toInt hG2
                  have hG3 : I187 rm 3 = G3 := (Eq.trans (hf187.get krm rfl) (Eq.trans (hf152.get krm rfl) (Eq.trans (hf149.get krm rfl) (Eq.trans (hf9.get krm rfl) (Eq.trans (hf6.get krm rfl) (Eq.trans (hf3.get krm rfl) eG3.symm))))))
                  have hG3t : (I187 rm 3).toInt = G3.toInt := congrArg Int32.toInt hG3
                  have hG4 : I187 rm 4 = G4 := (Eq.trans (hf187.get krm rfl) (Eq.trans (hf152.get krm rfl) (Eq.trans (hf149.get krm rfl) (Eq.trans (hf9.get krm rfl) (Eq.trans (hf6.get krm rfl) (Eq.trans (hf3.get krm rfl) eG4.symm))))))
                  have hG4t : (I187 rm 4).toInt = G4.toInt := congrArg Int32.toInt hG4
                  have hG5 : I187 rm 5 = G5 := (Eq.trans (hf187.get krm rfl) (Eq.trans (hf152.get krm rfl) (Eq.trans (hf149.get krm rfl) (Eq.trans (hf9.get krm rfl) (Eq.trans (hf6.get krm rfl) (Eq.trans (hf3.get krm rfl) eG5.symm))))))
                  have hG5t : (I187 rm 5).toInt = G5.toInt := congrArg Int32.toInt hG5
                  have hG6 : I187 rm 6 = G6 := (Eq.trans (hf187.get krm rfl) (Eq.trans (hf152.get krm rfl) (Eq.trans (hf149.get krm rfl) (Eq.trans (hf9.get krm rfl) (Eq.trans (hf6.get krm rfl) (Eq.trans (hf3.get krm rfl) eG6.symm))))))
                  have hG6t : (I187 rm 6).toInt = G6.toInt := congrArg Int32.toInt hG6
                  have hG7 : I187 rm 7 = x5_ := (Eq.trans (hf187.get krm rfl) (Eq.trans (hf152.get krm rfl) (Eq.trans (hf149.get krm rfl) (Eq.trans (hf9.get krm rfl) (Eq.trans (hf6.get krm rfl) e5.symm)))))
                  have hG7t : (I187 rm 7).toInt = x5_.toInt := congrArg Int32.toInt hG7
                  have hG8 : I187 rm 8 = G8 := (Eq.trans (hf187.get krm rfl) (Eq.trans (hf152.get krm rfl) (Eq.trans (hf149.get krm rfl) (Eq.trans (hf9.get krm rfl) (Eq.trans (hf6.get krm rfl) (Eq.trans (hf3.get krm rfl) eG8.symm))))))
                  have hG8t : (I187 rm 8).toInt = G8.toInt := congrArg Int32.toInt hG8
                  have hG9 : I187 rm 9 = G9 := (Eq.trans (hf187.get krm rfl) (Eq.trans (hf152.get krm rfl) (Eq.trans (hf149.get krm rfl) (Eq.trans (hf9.get krm rfl) (Eq.trans (hf6.get krm rfl) (Eq.trans (hf3.get krm rfl) eG9.symm))))))
                  have hG9t : (I187 rm 9).toInt = G9.toInt := congrArg Int32.toInt hG9
                  have hG10 : I187 rm 10 = N1 := (Eq.trans (hf187.get krm rfl) (Eq.trans (hf152.get krm rfl) (Eq.trans (hf149.get krm rfl) (Eq.trans (hf9.get krm rfl) eN1.symm))))
                  have hG10t : (I187 rm 10).toInt = N1.toInt := congrArg Int32.toInt hG10
                  exact r_vret hC hQ hlk hr (by decide) (by decide) dX10_readStory_204 ⟨_, _, rfl, rfl, ⟨hs187, hF187, hFJ187, (by exact Or.inr ⟨kf152, qf152, by unfold sStory sMore; rw [pif_f hbg, hsp6, bnd_ok, hsp9, bnd_ok, pif_f (show ¬ sKind B n p9 = -1 by rw [hkn]; decide), hsp152, bnd_er], by omega, by omega, by omega⟩), (by exact om187), (by exact oc187)⟩⟩
              · refine r_if_eq hC (tgt := 87) dX10_readStory_80 (by decide) (fun c191 => ?_) (fun c191 => ?_)
                rotate_left
                · exfalso; omega
                refine r_aload_n hC dX10_readStory_87 1 rfl ?_
                refine r_ldcS hC (i := 50) (by decide) rfl rfl dX10_readStory_88 ?_
                refine r_callV hC (As := [.ref (g.2.2.1 50)]) (rest := []) (ci := 10) (f_X10_isWord g (xL X) K len I9 J9 R hs9 a0 ka0 50 (by decide) B n p9 hp9 tk9 (by first | assumption | decide)) mT_5_223 mT_1_10 mT_5_220 mT_5_222 mP_53 okX10_isWord ⟨by decide, by decide⟩ rfl (by show kO (K a0) = _; rw [ka0]; rfl) rfl rfl (Nat.le_of_ble_eq_true rfl) ⟨by decide, by decide⟩ dX10_readStory_90 (aI0 (F := fun st M => P g X 5 93 [(1, .int x9_), (0, .ref a0)] st _ _ M) (M := (K, len, I9, J9, R)) fun x192_ h192 => ?_)
                have k192_0 := h192
                clear h192
                show P g X 5 93 [(1, .int x9_), (0, .ref a0)] [.int x192_] _ _ (K, len, I9, J9, R)
                rcases k192_0 with ⟨hr192, hw192⟩ | ⟨hr192, hw192⟩
                · refine r_if_eq hC (tgt := 100) dX10_readStory_93 (by decide) (fun c193 => ?_) (fun c193 => ?_)
                  · exfalso; omega
                  refine r_iconst hC (v := (4)) dX10_readStory_96 (by decide) (by decide) (fun x194_ e194 t194 => ?_)
                  refine r_goto hC (tgt := 115) dX10_readStory_97 (by decide) ?_
                  have hkn : sKind B n p9 = 4 := by unfold sKind; rw [pif_f (show ¬ isW B n p9 15 from hw10), pif_f (show ¬ isW B n p9 16 from hw55), pif_f (show ¬ isW B n p9 17 from hw100), pif_f (show ¬ isW B n p9 18 from hw144), pif_t (show isW B n p9 19 from hw192)]
                  refine r_istore_n hC (lv' := [(2, .int x194_), (1, .int x9_), (0, .ref a0)]) dX10_readStory_115 (by decide) rfl ?_
                  refine r_iload_n hC dX10_readStory_116 0 rfl ?_
                  refine r_iconst hC (v := (-1)) dX10_readStory_117 (by decide) (by decide) (fun x195_ e195 t195 => ?_)
                  refine r_icmp_ne hC (tgt := 126) dX10_readStory_118 (by decide) (fun c196 => ?_) (fun c196 => ?_)
                  rotate_left
                  · exfalso; omega
                  refine r_aload_n hC dX10_readStory_126 2 rfl ?_
                  refine r_callV hC (As := []) (rest := []) (ci := 10) (f_X10_goesOn g (xL X) K len I9 J9 R hs9 a0 ka0 mt hmt kmt nmt B n (hB.mv9 hF9 kmt (fun _ => rfl)) hBr hn (nx B n p9) (nx_le hp9).2 (tk9.e5) (tk9.2.2.1 (by first | omega | (rw [hw192.1]; decide))) (tk9.2.2.2.1)) mT_5_199 mT_1_10 mT_5_196 mT_5_198 mP_49 okX10_goesOn ⟨by decide, by decide⟩ rfl (by show kO (K a0) = _; rw [ka0]; rfl) rfl rfl (Nat.le_of_ble_eq_true rfl) ⟨by decide, by decide⟩ dX10_readStory_127 (aV2 (F := fun st M => P g X 5 130 [(2, .int x194_), (1, .int x9_), (0, .ref a0)] st _ _ M) (M := (K, len, I9, J9, R)) fun I197 J197 h197 => ?_)
                  obtain ⟨hs197, hf197, hfj197, k197_0⟩ := h197
                  show P g X 5 130 [(2, .int x194_), (1, .int x9_), (0, .ref a0)] [] _ _ (K, len, I197, J197, R)
                  have hF197 : Fr K [(10, 7), (10, 10), (11, 8), (11, 9), (11, 10), (11, 11), (11, 12), (11, 13), (75, 999), (76, 999), (83, 999), (84, 999), (1000, 999)] I I197 := hF9.trans hf197 rfl rfl
                  have hFJ197 : Fr K [(11, 14), (82, 999)] J J197 := hFJ9.trans hfj197 rfl rfl
                  have fp197 : I197 a0 12 = I a0 12 := (hf197.get ka0 rfl).trans fq9
                  have pg197 := pg9.mv hf197 kns (fun _ => rfl)
                  have nm197 := nm9.mv hfj197 knr (fun _ => rfl)
                  have oc197 := oc9.mv qM_big hf197 rfl
                  have rw197 := rw9.mv hcx qM_big hf197 rfl
                  have om197 := om9.mv hf197 rfl
                  have ni197 := ni9.mv hf197 kns knn (fun _ => rfl) (fun _ => rfl)
                  refine r_aload_n hC dX10_readStory_130 2 rfl ?_
                  refine r_iconst hC (v := (0)) dX10_readStory_131 (by decide) (by decide) (fun x198_ e198 t198 => ?_)
                  refine r_bipush hC (v := (99)) dX10_readStory_132 (by decide) (by decide) (fun x199_ e199 t199 => ?_)
                  refine r_callV hC (As := [.int x198_, .int x199_]) (rest := []) (ci := 10) (f_X10_readWhole g (xL X) K len I197 J197 R hs197 a0 ka0 x198_ x199_ mt hmt kmt nmt B n (hB.mv9 hF197 kmt (fun _ => rfl)) hBr hn (nx B n p9) (nx_le hp9).2 k197_0) mT_6_5 mT_1_10 mT_6_2 mT_6_4 mP_57 okX10_readWhole ⟨by decide, by decide⟩ rfl (by show kO (K a0) = _; rw [ka0]; rfl) rfl rfl (Nat.le_of_ble_eq_true rfl) ⟨by decide, by decide⟩ dX10_readStory_134 (aI2 (F := fun st M => P g X 5 137 [(2, .int x194_), (1, .int x9_), (0, .ref a0)] st _ _ M) (M := (K, len, I197, J197, R)) fun x200_ I200 J200 h200 => ?_)
                  obtain ⟨hs200, hf200, hfj200, k200_0⟩ := h200
                  show P g X 5 137 [(2, .int x194_), (1, .int x9_), (0, .ref a0)] [.int x200_] _ _ (K, len, I200, J200, R)
                  have hF200 : Fr K [(10, 7), (10, 10), (11, 8), (11, 9), (11, 10), (11, 11), (11, 12), (11, 13), (75, 999), (76, 999), (83, 999), (84, 999), (1000, 999)] I I200 := hF197.trans hf200 rfl rfl
                  have hFJ200 : Fr K [(11, 14), (82, 999)] J J200 := hFJ197.trans hfj200 rfl rfl
                  have pg200 := pg197.mv hf200 kns (fun _ => rfl)
                  have nm200 := nm197.mv hfj200 knr (fun _ => rfl)
                  have oc200 := oc197.mv qM_big hf200 rfl
                  have rw200 := rw197.mv hcx qM_big hf200 rfl
                  have om200 := om197.mv hf200 rfl
                  have ni200 := ni197.mv hf200 kns knn (fun _ => rfl) (fun _ => rfl)
                  rcases k200_0 with ⟨v200, p200, hsp200, hp200, tk200, hv200, fl200⟩ | ⟨kf200, qf200, hsp200, hf0200, hf1200, hf2200⟩
                  · have fq200 : I200 a0 12 = I a0 12 := fl200.trans fp197
                    rw [show x198_.toInt = 0 by omega, show x199_.toInt = 99 by omega] at hsp200
                    have rg200 := (sWhole_go (nx_le hp9).2 hsp200).2
                    refine r_istore_n hC (lv' := [(3, .int x200_), (2, .int x194_), (1, .int x9_), (0, .ref a0)]) dX10_readStory_137 (by decide) rfl ?_
                    refine r_iload_n hC dX10_readStory_138 1 rfl ?_
                    refine r_iconst hC (v := (2)) dX10_readStory_139 (by decide) (by decide) (fun x201_ e201 t201 => ?_)
                    refine r_icmp_ne hC (tgt := 156) dX10_readStory_140 (by decide) (fun c202 => ?_) (fun c202 => ?_)
                    rotate_left
                    · exfalso; omega
                    refine r_iload_n hC dX10_readStory_156 1 rfl ?_
                    refine r_iconst hC (v := (3)) dX10_readStory_157 (by decide) (by decide) (fun x203_ e203 t203 => ?_)
                    refine r_icmp_ne hC (tgt := 175) dX10_readStory_158 (by decide) (fun c204 => ?_) (fun c204 => ?_)
                    rotate_left
                    · exfalso; omega
                    refine r_iload_n hC dX10_readStory_175 1 rfl ?_
                    refine r_iconst hC (v := (4)) dX10_readStory_176 (by decide) (by decide) (fun x205_ e205 t205 => ?_)
                    refine r_icmp_ne hC (tgt := 193) dX10_readStory_177 (by decide) (fun c206 => ?_) (fun c206 => ?_)
                    · exfalso; omega
                    refine r_aload_n hC dX10_readStory_180 3 rfl ?_
                    refine r_ldcwS hC (i := 54) (by decide) rfl rfl dX10_readStory_181 ?_
                    refine r_iconst hC (v := (1)) dX10_readStory_184 (by decide) (by decide) (fun x207_ e207 t207 => ?_)
                    refine r_bipush hC (v := (99)) dX10_readStory_185 (by decide) (by decide) (fun x208_ e208 t208 => ?_)
                    refine r_callV hC (As := [.ref (g.2.2.1 54), .int x207_, .int x208_]) (rest := []) (ci := 10) (f_X10_readPart g (xL X) K len I200 J200 R hs200 a0 ka0 54 (by decide) x207_ x208_ mt hmt kmt nmt B n (hB.mv9 hF200 kmt (fun _ => rfl)) hBr hn p200 hp200 tk200 (by first | assumption | decide)) mT_6_1 mT_1_10 mT_5_238 mT_6_0 mP_56 okX10_readPart ⟨by decide, by decide⟩ rfl (by show kO (K a0) = _; rw [ka0]; rfl) rfl rfl (Nat.le_of_ble_eq_true rfl) ⟨by decide, by decide⟩ dX10_readStory_187 (aI2 (F := fun st M => P g X 5 190 [(3, .int x200_), (2, .int x194_), (1, .int x9_), (0, .ref a0)] st _ _ M) (M := (K, len, I200, J200, R)) fun x209_ I209 J209 h209 => ?_)
                    obtain ⟨hs209, hf209, hfj209, k209_0⟩ := h209
                    show P g X 5 190 [(3, .int x200_), (2, .int x194_), (1, .int x9_), (0, .ref a0)] [.int x209_] _ _ (K, len, I209, J209, R)
                    have hF209 : Fr K [(10, 7), (10, 10), (11, 8), (11, 9), (11, 10), (11, 11), (11, 12), (11, 13), (75, 999), (76, 999), (83, 999), (84, 999), (1000, 999)] I I209 := hF200.trans hf209 rfl rfl
                    have hFJ209 : Fr K [(11, 14), (82, 999)] J J209 := hFJ200.trans hfj209 rfl rfl
                    have pg209 := pg200.mv hf209 kns (fun _ => rfl)
                    have nm209 := nm200.mv hfj209 knr (fun _ => rfl)
                    have oc209 := oc200.mv qM_big hf209 rfl
                    have rw209 := rw200.mv hcx qM_big hf209 rfl
                    have om209 := om200.mv hf209 rfl
                    have ni209 := ni200.mv hf209 kns knn (fun _ => rfl) (fun _ => rfl)
                    rcases k209_0 with ⟨v209, p209, hsp209, hp209, tk209, hv209, fl209⟩ | ⟨kf209, qf209, hsp209, hf0209, hf1209, hf2209⟩
                    · have fq209 : I209 a0 12 = I a0 12 := fl209.trans fq200
                      rw [show x207_.toInt = 1 by omega, show x208_.toInt = 99 by omega] at hsp209
                      have rg209 := (sNum_go hp200 hsp209).2
                      refine r_goto hC (tgt := 194) dX10_readStory_190 (by decide) ?_
                      refine r_istore hC (lv' := [(4, .int x209_), (3, .int x200_), (2, .int x194_), (1, .int x9_), (0, .ref a0)]) dX10_readStory_194 (by decide) rfl ?_
                      refine r_aload_n hC dX10_readStory_196 4 rfl ?_
                      have n5_197 := tk209.e5
                      refine r_geti hC 9 (ci := 10) rfl u10_in (by decide) mT_5_4 dX10_readStory_197 ka0 rfl rfl (fun x210_ e210 => ?_)
                      have f210 : x210_.toInt = (I209 a0 9).toInt := by rw [e210]
                      refine r_iconst hC (v := (5)) dX10_readStory_200 (by decide) (by decide) (fun x211_ e211 t211 => ?_)
                      refine r_icmp_ne hC (tgt := 205) dX10_readStory_201 (by decide) (fun c212 => ?_) (fun c212 => ?_)
                      rotate_left
                      · exfalso; omega
                      refine r_aload_n hC dX10_readStory_205 4 rfl ?_
                      refine r_getr hC 4 (ci := 10) rfl u10_in (by decide) mT_4_239 dX10_readStory_206 ka0 rfl rfl hbr ?_
                      obtain ⟨a213_, hb213, hk213, hn213⟩ := hs209.row krm 16 75 6 (by decide) (by decide)
                      refine r_getrN hC 16 (ci := 9) rfl u9_in (by decide) nF_16 dX10_readStory_209 krm rfl rfl hb213 ?_
                      refine r_aload_n hC dX10_readStory_212 4 rfl ?_
                      refine r_getr hC 4 (ci := 10) rfl u10_in (by decide) mT_4_239 dX10_readStory_213 ka0 rfl rfl hbr ?_
                      refine r_getiN hC 7 (ci := 9) rfl u9_in (by decide) nF_7 dX10_readStory_216 krm rfl rfl (fun x214_ e214 => ?_)
                      have r214 := hs209.rng krm rfl e214
                      have f214 : x214_.toInt = (I209 rm 7).toInt := by rw [e214]
                      have w214 : x214_ = x5_ := by rw [e214]; exact (Eq.trans (hf209.get krm rfl) (Eq.trans (hf200.get krm rfl) (Eq.trans (hf197.get krm rfl) (Eq.trans (hf9.get krm rfl) (Eq.trans (hf6.get krm rfl) e5.symm)))))
                      have wt214 : x214_.toInt = x5_.toInt := by rw [w214]
                      refine r_iload_n hC dX10_readStory_219 3 rfl ?_
                      refine x_iastore hC hk213 hn213 (by decide) rfl rfl dX10_readStory_220 (by omega) (by omega) (fun I215 eI215 => ?_)
                      have hs215 := hs209.put0 eI215 hk213 (rng_arr (by decide) _) rfl (xF_arr (by decide) _) (by decide)
                      have hF215 := hF209.put eI215 hk213 (inS_arr rfl _)
                      have tkp215 := tk209.put eI215 hk213 ka0 (by decide)
                      have fp215 : I215 a0 12 = I a0 12 := (up2_kk eI215 hk213 ka0 (by decide)).trans fq209
                      have pg215 := pg209.put eI215 hk213 kns (by decide)
                      have om215 := om209.put eI215 hk213 (by first | exact Or.inr rfl | exact Or.inl (by decide) | exact Or.inl (by omega))
                      have ni215 := ni209.put eI215 hk213 kns knn (by decide) (by decide)
                      have nnz : 0 ≤ (adN D (vl B n (nx B n p))) 0 7 := by omega
                      have ix215 : x214_.toInt = (adN D (vl B n (nx B n p))) 0 7 := by omega
                      have eC215 := eI215
                      rw [clx ix215 nnz] at eC215
                      have rw215 := rw209.put hcx (r0 := 6) (j0 := ((adN D (vl B n (nx B n p))) 0 7).toNat) (w := v9) (cM (r := 6) (by decide) (by decide) hb213) eC215 hv9 (by rw [cnt_6]; exact Int.toNat_of_nonneg nnz) (fun h9 => absurd h9 (by decide))
                      have oc215 := oc209.put (cM (r := 6) (by decide) (by decide) hb213) eC215
                      refine r_aload_n hC dX10_readStory_221 4 rfl ?_
                      refine r_getr hC 4 (ci := 10) rfl u10_in (by decide) mT_4_239 dX10_readStory_222 ka0 rfl rfl hbr ?_
                      obtain ⟨kd216, mo216, hb216, hk216, hn216, hB216, hK216, hN216⟩ := hs215.2.2.1 rm krm
                      refine r_getrN hC 17 (ci := 9) rfl u9_in (by decide) nF_17 dX10_readStory_225 krm rfl rfl hb216 ?_
                      refine r_aload_n hC dX10_readStory_228 4 rfl ?_
                      refine r_getr hC 4 (ci := 10) rfl u10_in (by decide) mT_4_239 dX10_readStory_229 ka0 rfl rfl hbr ?_
                      refine r_getiN hC 7 (ci := 9) rfl u9_in (by decide) nF_7 dX10_readStory_232 krm rfl rfl (fun x217_ e217 => ?_)
                      have r217 := hs215.rng krm rfl e217
                      have f217 : x217_.toInt = (I215 rm 7).toInt := by rw [e217]
                      have w217 : x217_ = x214_ := by rw [e217]; exact (Eq.trans (up2_kk eI215 hk213 krm (by decide)) e214.symm)
                      have wt217 : x217_.toInt = x214_.toInt := by rw [w217]
                      refine r_iload_n hC dX10_readStory_235 2 rfl ?_
                      refine x_iastore hC hk216 hn216 (by omega) (kOb (by omega)) (kAb (by omega)) dX10_readStory_236 (by omega) (by omega) (fun I218 eI218 => ?_)
                      have hs218 : Sf K len I218 R := hs215.putK (rm := rm) eI218 (Or.inl hk216) (by have h9 := clampI (i := x217_) (by omega); omega)
                      have hF218 := hF215.put eI218 hk216 (inS_big rfl (by omega) _)
                      have tkp218 := tkp215.put eI218 hk216 ka0 (by omega)
                      have fp218 : I218 a0 12 = I a0 12 := (up2_kk eI218 hk216 ka0 (by omega)).trans fp215
                      have pg218 := pg215.put eI218 hk216 kns (by omega)
                      have om218 := om215.put eI218 hk216 (by first | exact Or.inr rfl | exact Or.inl (by decide) | exact Or.inl (by omega))
                      have ni218 := ni215.put eI218 hk216 kns knn (by omega) (by omega)
                      have eC218 := eI218
                      rw [clx (wt217.trans ix215) nnz] at eC218
                      have rw218 := rw215.put hcx (r0 := 7) (j0 := ((adN D (vl B n (nx B n p))) 0 7).toNat) (w := sKind B n p9) (cM (r := 7) (by decide) (by decide) hb216) eC218 (by omega) (by rw [upN_o (by decide), cnt_7]; exact Int.toNat_of_nonneg nnz) (fun _ => by rw [upN_o (by decide), cnt_9]; exact Int.le_of_eq (Int.toNat_of_nonneg nnz).symm)
                      have oc218 := oc215.put (cM (r := 7) (by decide) (by decide) hb216) eC218
                      refine r_aload_n hC dX10_readStory_237 4 rfl ?_
                      refine r_getr hC 4 (ci := 10) rfl u10_in (by decide) mT_4_239 dX10_readStory_238 ka0 rfl rfl hbr ?_
                      obtain ⟨a219_, hb219, hk219, hn219⟩ := hs218.row krm 18 76 6 (by decide) (by decide)
                      refine r_getrN hC 18 (ci := 9) rfl u9_in (by decide) nF_18 dX10_readStory_241 krm rfl rfl hb219 ?_
                      refine r_aload_n hC dX10_readStory_244 4 rfl ?_
                      refine r_getr hC 4 (ci := 10) rfl u10_in (by decide) mT_4_239 dX10_readStory_245 ka0 rfl rfl hbr ?_
                      refine r_getiN hC 7 (ci := 9) rfl u9_in (by decide) nF_7 dX10_readStory_248 krm rfl rfl (fun x220_ e220 => ?_)
                      have r220 := hs218.rng krm rfl e220
                      have f220 : x220_.toInt = (I218 rm 7).toInt := by rw [e220]
                      have w220 : x220_ = x217_ := by rw [e220]; exact (Eq.trans (up2_kk eI218 hk216 krm (by omega)) e217.symm)
                      have wt220 : x220_.toInt = x217_.toInt := by rw [w220]
                      refine r_iload_n hC dX10_readStory_251 1 rfl ?_
                      refine x_iastore hC hk219 hn219 (by decide) rfl rfl dX10_readStory_252 (by omega) (by omega) (fun I221 eI221 => ?_)
                      have hs221 := hs218.put0 eI221 hk219 (rng_arr (by decide) _) rfl (xF_arr (by decide) _) (by decide)
                      have hF221 := hF218.put eI221 hk219 (inS_arr rfl _)
                      have tkp221 := tkp218.put eI221 hk219 ka0 (by decide)
                      have fp221 : I221 a0 12 = I a0 12 := (up2_kk eI221 hk219 ka0 (by decide)).trans fp218
                      have pg221 := pg218.put eI221 hk219 kns (by decide)
                      have om221 := om218.put eI221 hk219 (by first | exact Or.inr rfl | exact Or.inl (by decide) | exact Or.inl (by omega))
                      have ni221 := ni218.put eI221 hk219 kns knn (by decide) (by decide)
                      have eC221 := eI221
                      rw [clx (wt220.trans (wt217.trans ix215)) nnz] at eC221
                      have rw221 := rw218.put hcx (r0 := 8) (j0 := ((adN D (vl B n (nx B n p))) 0 7).toNat) (w := v200) (cM (r := 8) (by decide) (by decide) hb219) eC221 hv200 (by rw [upN_o (by decide), upN_o (by decide), cnt_8]; exact Int.toNat_of_nonneg nnz) (fun h9 => absurd h9 (by decide))
                      have oc221 := oc218.put (cM (r := 8) (by decide) (by decide) hb219) eC221
                      refine r_aload_n hC dX10_readStory_253 4 rfl ?_
                      refine r_getr hC 4 (ci := 10) rfl u10_in (by decide) mT_4_239 dX10_readStory_254 ka0 rfl rfl hbr ?_
                      refine r_getrN hC 19 (ci := 9) rfl u9_in (by decide) nF_19 dX10_readStory_257 krm rfl rfl hB216 ?_
                      refine r_aload_n hC dX10_readStory_260 4 rfl ?_
                      refine r_getr hC 4 (ci := 10) rfl u10_in (by decide) mT_4_239 dX10_readStory_261 ka0 rfl rfl hbr ?_
                      refine r_getiN hC 7 (ci := 9) rfl u9_in (by decide) nF_7 dX10_readStory_264 krm rfl rfl (fun x222_ e222 => ?_)
                      have r222 := hs221.rng krm rfl e222
                      have f222 : x222_.toInt = (I221 rm 7).toInt := by rw [e222]
                      have w222 : x222_ = x220_ := by rw [e222]; exact (Eq.trans (up2_kk eI221 hk219 krm (by decide)) e220.symm)
                      have wt222 : x222_.toInt = x220_.toInt := by rw [w222]
                      refine r_iload hC dX10_readStory_267 0 rfl ?_
                      refine x_iastore hC hK216 hN216 (by omega) (kOb (by omega)) (kAb (by omega)) dX10_readStory_269 (by omega) (by omega) (fun I223 eI223 => ?_)
                      have hs223 : Sf K len I223 R := hs221.putK (rm := rm) eI223 (Or.inr hK216) (by have h9 := clampI (i := x222_) (by omega); omega)
                      have hF223 := hF221.put eI223 hK216 (inS_big rfl (by omega) _)
                      have tkp223 := tkp221.put eI223 hK216 ka0 (by omega)
                      have fp223 : I223 a0 12 = I a0 12 := (up2_kk eI223 hK216 ka0 (by omega)).trans fp221
                      have pg223 := pg221.put eI223 hK216 kns (by omega)
                      have om223 := om221.put eI223 hK216 (by first | exact Or.inr rfl | exact Or.inl (by decide) | exact Or.inl (by omega))
                      have ni223 := ni221.put eI223 hK216 kns knn (by omega) (by omega)
                      have eC223 := eI223
                      rw [clx (wt222.trans (wt220.trans (wt217.trans ix215))) nnz] at eC223
                      have rw223 := rw221.put hcx (r0 := 9) (j0 := ((adN D (vl B n (nx B n p))) 0 7).toNat) (w := v209) (cM (r := 9) (by decide) (by decide) hB216) eC223 hv209 (by rw [upN_o (by decide), upN_o (by decide), upN_o (by decide), cnt_9]; exact Int.toNat_of_nonneg nnz) (fun h9 => absurd h9 (by decide))
                      have oc223 := oc221.put (cM (r := 9) (by decide) (by decide) hB216) eC223
                      refine r_aload_n hC dX10_readStory_270 4 rfl ?_
                      refine r_getr hC 4 (ci := 10) rfl u10_in (by decide) mT_4_239 dX10_readStory_271 ka0 rfl rfl hbr ?_
                      refine r_dup hC dX10_readStory_274 rfl ?_
                      refine r_getiN hC 7 (ci := 9) rfl u9_in (by decide) nF_7 dX10_readStory_275 krm rfl rfl (fun x224_ e224 => ?_)
                      have r224 := hs223.rng krm rfl e224
                      have f224 : x224_.toInt = (I223 rm 7).toInt := by rw [e224]
                      have w224 : x224_ = x222_ := by rw [e224]; exact (Eq.trans (up2_kk eI223 hK216 krm (by omega)) e222.symm)
                      have wt224 : x224_.toInt = x222_.toInt := by rw [w224]
                      refine r_iconst hC (v := (1)) dX10_readStory_278 (by decide) (by decide) (fun x225_ e225 t225 => ?_)
                      refine r_iadd hC dX10_readStory_279 (fun x226_ e226 => ?_)
                      try have t226 : x226_.toInt = x224_.toInt + x225_.toInt := by rw [e226]; exact ti_add (by omega) (by omega)
                      refine r_putiN hC 7 (ci := 9) rfl u9_in tyX9_ok nmX9 (by decide) nF_7 rfl rfl rfl dX10_readStory_280 krm rfl rfl (fun I227 eI227 => ?_)
                      have hs227 : Sf K len I227 R := hs223.putA7 eI227 krm hb216 hB216 (by omega) (by omega) (j := x217_.toNatClampNeg) (by have h9 := clampI (i := x217_) (by omega); omega) (by omega) (by rw [(show I223 kd216 x217_.toNatClampNeg = x194_ from (Eq.trans (up2_kk eI223 hK216 hk216 (by omega)) (Eq.trans (up2_kk eI221 hk219 hk216 (by omega)) (by rw [eI218]; exact up2_self _ _ _ _)))), cl_eq (show x217_.toInt = x222_.toInt by omega), (show I223 mo216 x222_.toNatClampNeg = x209_ from (by rw [eI223]; exact up2_self _ _ _ _))]; omega)
                      have hF227 := hF223.put eI227 krm rfl
                      have tkp227 := tkp223.put eI227 krm ka0 (by decide)
                      have fp227 : I227 a0 12 = I a0 12 := (up2_kk eI227 krm ka0 (by decide)).trans fp223
                      have pg227 := pg223.put eI227 krm kns (by decide)
                      have om227 := om223.put eI227 krm (by first | exact Or.inr rfl | exact Or.inl (by decide) | exact Or.inl (by omega))
                      have ni227 := ni223.put eI227 krm kns knn (by decide) (by decide)
                      have rw227 := rw223.putO hcx eI227 krm rfl
                      have oc227 := oc223.putO eI227 krm rfl
                      have hG0 : I227 rm 0 = G0 := (Eq.trans (up2_at (Or.inr (by decide)) eI227) (Eq.trans (up2_kk eI223 hK216 krm (by omega)) (Eq.trans (up2_kk eI221 hk219 krm (by decide)) (Eq.trans (up2_kk eI218 hk216 krm (by omega)) (Eq.trans (up2_kk eI215 hk213 krm (by decide)) (Eq.trans (hf209.get krm rfl) (Eq.trans (hf200.get krm rfl) (Eq.trans (hf197.get krm rfl) (Eq.trans (hf9.get krm rfl) (Eq.trans (hf6.get krm rfl) (Eq.trans (hf3.get krm rfl) eG0.symm)))))))))))
                      have hG0t : (I227 rm 0).toInt = G0.toInt := congrArg Int32.toInt hG0
                      have hG1 : I227 rm 1 = G1 := (Eq.trans (up2_at (Or.inr (by decide)) eI227) (Eq.trans (up2_kk eI223 hK216 krm (by omega)) (Eq.trans (up2_kk eI221 hk219 krm (by decide)) (Eq.trans (up2_kk eI218 hk216 krm (by omega)) (Eq.trans (up2_kk eI215 hk213 krm (by decide)) (Eq.trans (hf209.get krm rfl) (Eq.trans (hf200.get krm rfl) (Eq.trans (hf197.get krm rfl) (Eq.trans (hf9.get krm rfl) (Eq.trans (hf6.get krm rfl) (Eq.trans (hf3.get krm rfl) eG1.symm)))))))))))
                      have hG1t : (I227 rm 1).toInt = G1.toInt := congrArg Int32.toInt hG1
                      have hG2 : I227 rm 2 = G2 := (Eq.trans (up2_at (Or.inr (by decide)) eI227) (Eq.trans (up2_kk eI223 hK216 krm (by omega)) (Eq.trans (up2_kk eI221 hk219 krm (by decide)) (Eq.trans (up2_kk eI218 hk216 krm (by omega)) (Eq.trans (up2_kk eI215 hk213 krm (by decide)) (Eq.trans (hf209.get krm rfl) (Eq.trans (hf200.get krm rfl) (Eq.trans (hf197.get krm rfl) (Eq.trans (hf9.get krm rfl) (Eq.trans (hf6.get krm rfl) (Eq.trans (hf3.get krm rfl) eG2.symm)))))))))))
                      have hG2t : (I227 rm 2).toInt = G2.toInt := congrArg Int32.toInt hG2
                      have hG3 : I227 rm 3 = G3 := (Eq.trans (up2_at (Or.inr (by decide)) eI227) (Eq.trans (up2_kk eI223 hK216 krm (by omega)) (Eq.trans (up2_kk eI221 hk219 krm (by decide)) (Eq.trans (up2_kk eI218 hk216 krm (by omega)) (Eq.trans (up2_kk eI215 hk213 krm (by decide)) (Eq.trans (hf209.get krm rfl) (Eq.trans (hf200.get krm rfl) (Eq.trans (hf197.get krm rfl) (Eq.trans (hf9.get krm rfl) (Eq.trans (hf6.get krm rfl) (Eq.trans (hf3.get krm rfl) eG3.symm)))))))))))
                      have hG3t : (I227 rm 3).toInt = G3.toInt := congrArg Int32.toInt hG3
                      have hG4 : I227 rm 4 = G4 := (Eq.trans (up2_at (Or.inr (by decide)) eI227) (Eq.trans (up2_kk eI223 hK216 krm (by omega)) (Eq.trans (up2_kk eI221 hk219 krm (by decide)) (Eq.trans (up2_kk eI218 hk216 krm (by omega)) (Eq.trans (up2_kk eI215 hk213 krm (by decide)) (Eq.trans (hf209.get krm rfl) (Eq.trans (hf200.get krm rfl) (Eq.trans (hf197.get krm rfl) (Eq.trans (hf9.get krm rfl) (Eq.trans (hf6.get krm rfl) (Eq.trans (hf3.get krm rfl) eG4.symm)))))))))))
                      have hG4t : (I227 rm 4).toInt = G4.toInt := congrArg Int32.toInt hG4
                      have hG5 : I227 rm 5 = G5 := (Eq.trans (up2_at (Or.inr (by decide)) eI227) (Eq.trans (up2_kk eI223 hK216 krm (by omega)) (Eq.trans (up2_kk eI221 hk219 krm (by decide)) (Eq.trans (up2_kk eI218 hk216 krm (by omega)) (Eq.trans (up2_kk eI215 hk213 krm (by decide)) (Eq.trans (hf209.get krm rfl) (Eq.trans (hf200.get krm rfl) (Eq.trans (hf197.get krm rfl) (Eq.trans (hf9.get krm rfl) (Eq.trans (hf6.get krm rfl) (Eq.trans (hf3.get krm rfl) eG5.symm)))))))))))
                      have hG5t : (I227 rm 5).toInt = G5.toInt := congrArg Int32.toInt hG5
                      have hG6 : I227 rm 6 = G6 := (Eq.trans (up2_at (Or.inr (by decide)) eI227) (Eq.trans (up2_kk eI223 hK216 krm (by omega)) (Eq.trans (up2_kk eI221 hk219 krm (by decide)) (Eq.trans (up2_kk eI218 hk216 krm (by omega)) (Eq.trans (up2_kk eI215 hk213 krm (by decide)) (Eq.trans (hf209.get krm rfl) (Eq.trans (hf200.get krm rfl) (Eq.trans (hf197.get krm rfl) (Eq.trans (hf9.get krm rfl) (Eq.trans (hf6.get krm rfl) (Eq.trans (hf3.get krm rfl) eG6.symm)))))))))))
                      have hG6t : (I227 rm 6).toInt = G6.toInt := congrArg Int32.toInt hG6
                      have hG7 : I227 rm 7 = x226_ := (by rw [eI227]; exact up2_self _ _ _ _)
                      have hG7t : (I227 rm 7).toInt = x226_.toInt := congrArg Int32.toInt hG7
                      have hG8 : I227 rm 8 = G8 := (Eq.trans (up2_at (Or.inr (by decide)) eI227) (Eq.trans (up2_kk eI223 hK216 krm (by omega)) (Eq.trans (up2_kk eI221 hk219 krm (by decide)) (Eq.trans (up2_kk eI218 hk216 krm (by omega)) (Eq.trans (up2_kk eI215 hk213 krm (by decide)) (Eq.trans (hf209.get krm rfl) (Eq.trans (hf200.get krm rfl) (Eq.trans (hf197.get krm rfl) (Eq.trans (hf9.get krm rfl) (Eq.trans (hf6.get krm rfl) (Eq.trans (hf3.get krm rfl) eG8.symm)))))))))))
                      have hG8t : (I227 rm 8).toInt = G8.toInt := congrArg Int32.toInt hG8
                      have hG9 : I227 rm 9 = G9 := (Eq.trans (up2_at (Or.inr (by decide)) eI227) (Eq.trans (up2_kk eI223 hK216 krm (by omega)) (Eq.trans (up2_kk eI221 hk219 krm (by decide)) (Eq.trans (up2_kk eI218 hk216 krm (by omega)) (Eq.trans (up2_kk eI215 hk213 krm (by decide)) (Eq.trans (hf209.get krm rfl) (Eq.trans (hf200.get krm rfl) (Eq.trans (hf197.get krm rfl) (Eq.trans (hf9.get krm rfl) (Eq.trans (hf6.get krm rfl) (Eq.trans (hf3.get krm rfl) eG9.symm)))))))))))
                      have hG9t : (I227 rm 9).toInt = G9.toInt := congrArg Int32.toInt hG9
                      have hG10 : I227 rm 10 = N1 := (Eq.trans (up2_at (Or.inr (by decide)) eI227) (Eq.trans (up2_kk eI223 hK216 krm (by omega)) (Eq.trans (up2_kk eI221 hk219 krm (by decide)) (Eq.trans (up2_kk eI218 hk216 krm (by omega)) (Eq.trans (up2_kk eI215 hk213 krm (by decide)) (Eq.trans (hf209.get krm rfl) (Eq.trans (hf200.get krm rfl) (Eq.trans (hf197.get krm rfl) (Eq.trans (hf9.get krm rfl) eN1.symm)))))))))
                      have hG10t : (I227 rm 10).toInt = N1.toInt := congrArg Int32.toInt hG10
                      exact r_vret hC hQ hlk hr (by decide) (by decide) dX10_readStory_283 ⟨_, _, rfl, rfl, ⟨hs227, hF227, hFJ209, (by exact Or.inl ⟨_, _, by unfold sStory sMore; rw [pif_f hbg, hsp6, bnd_ok, hsp9, bnd_ok, pif_f (show ¬ sKind B n p9 = -1 by rw [hkn]; decide), hsp200, bnd_ok, pif_f (show ¬ sKind B n p9 = 2 by rw [hkn]; decide), pif_f (show ¬ sKind B n p9 = 3 by rw [hkn]; decide), pif_t (show sKind B n p9 = 4 from hkn), hsp209, bnd_ok], hp209, tkp227, ⟨sm.st (by omega) (by omega) (by omega) (by simp [upD, adN, aStory]) (by simp [upD, adN, aStory]) (by simp [upD, adN, aStory]) (by simp [upD, adN, aStory]) (by simp [upD, adN, aStory]; omega) (by simp [upD, adN, aStory]; omega) (by simp [upD, adN, aStory]; omega) (by simp [upD, adN, aStory]; omega) (by simp [upD, adN, aStory]; omega) (by simp [upD, adN, aStory]; omega) (by simp [upD, adN, aStory]; omega) (by simp [upD, adN, aStory]; omega), nm209.cg (by simp [upD, aStory]) (by intro j; simp [upD, aStory]), pg227.cg (by simp [upD, aStory]) (by intro j; simp [upD, aStory]) (by simp [upD, aStory]) (by intro j; simp [upD, aStory])⟩, ni227.cg (by simp [upD, aStory]) (by intro j; simp [upD, aStory]) (by simp [upD, aStory]) (by intro j; simp [upD, aStory]), rw227.sto (Int.toNat_of_nonneg nnz) (fun _ => rfl), fp227⟩), (by exact om227), (by exact oc227)⟩⟩
                    · rw [show x207_.toInt = 1 by omega, show x208_.toInt = 99 by omega] at hsp209
                      refine r_goto hC (tgt := 194) dX10_readStory_190 (by decide) ?_
                      refine r_istore hC (lv' := [(4, .int x209_), (3, .int x200_), (2, .int x194_), (1, .int x9_), (0, .ref a0)]) dX10_readStory_194 (by decide) rfl ?_
                      refine r_aload_n hC dX10_readStory_196 4 rfl ?_
                      refine r_geti hC 9 (ci := 10) rfl u10_in (by decide) mT_5_4 dX10_readStory_197 ka0 rfl rfl (fun x228_ e228 => ?_)
                      have f228 : x228_.toInt = (I209 a0 9).toInt := by rw [e228]
                      refine r_iconst hC (v := (5)) dX10_readStory_200 (by decide) (by decide) (fun x229_ e229 t229 => ?_)
                      refine r_icmp_ne hC (tgt := 205) dX10_readStory_201 (by decide) (fun c230 => ?_) (fun c230 => ?_)
                      · exfalso; omega
                      have hG0 : I209 rm 0 = G0 := (Eq.trans (hf209.get krm rfl) (Eq.trans (hf200.get krm rfl) (Eq.trans (hf197.get krm rfl) (Eq.trans (hf9.get krm rfl) (Eq.trans (hf6.get krm rfl) (Eq.trans (hf3.get krm rfl) eG0.symm))))))
                      have hG0t : (I209 rm 0).toInt = G0.toInt := congrArg Int32.toInt hG0
                      have hG1 : I209 rm 1 = G1 := (Eq.trans (hf209.get krm rfl) (Eq.trans (hf200.get krm rfl) (Eq.trans (hf197.get krm rfl) (Eq.trans (hf9.get krm rfl) (Eq.trans (hf6.get krm rfl) (Eq.trans (hf3.get krm rfl) eG1.symm))))))
                      have hG1t : (I209 rm 1).toInt = G1.toInt := congrArg Int32.toInt hG1
                      have hG2 : I209 rm 2 = G2 := (Eq.trans (hf209.get krm rfl) (Eq.trans (hf200.get krm rfl) (Eq.trans (hf197.get krm rfl) (Eq.trans (hf9.get krm rfl) (Eq.trans (hf6.get krm rfl) (Eq.trans (hf3.get krm rfl) eG2.symm))))))
                      have hG2t : (I209 rm 2).toInt = G2.toInt := congrArg Int32.toInt hG2
                      have hG3 : I209 rm 3 = G3 := (Eq.trans (hf209.get krm rfl) (Eq.trans (hf200.get krm rfl) (Eq.trans (hf197.get krm rfl) (Eq.trans (hf9.get krm rfl) (Eq.trans (hf6.get krm rfl) (Eq.trans (hf3.get krm rfl) eG3.symm))))))
                      have hG3t : (I209 rm 3).toInt = G3.toInt := congrArg Int32.toInt hG3
                      have hG4 : I209 rm 4 = G4 := (Eq.trans (hf209.get krm rfl) (Eq.trans (hf200.get krm rfl) (Eq.trans (hf197.get krm rfl) (Eq.trans (hf9.get krm rfl) (Eq.trans (hf6.get krm rfl) (Eq.trans (hf3.get krm rfl) eG4.symm))))))
                      have hG4t : (I209 rm 4).toInt = G4.toInt := congrArg Int32.toInt hG4
                      have hG5 : I209 rm 5 = G5 := (Eq.trans (hf209.get krm rfl) (Eq.trans (hf200.get krm rfl) (Eq.trans (hf197.get krm rfl) (Eq.trans (hf9.get krm rfl) (Eq.trans (hf6.get krm rfl) (Eq.trans (hf3.get krm rfl) eG5.symm))))))
                      have hG5t : (I209 rm 5).toInt = G5.toInt := congrArg Int32.toInt hG5
                      have hG6 : I209 rm 6 = G6 := (Eq.trans (hf209.get krm rfl) (Eq.trans (hf200.get krm rfl) (Eq.trans (hf197.get krm rfl) (Eq.trans (hf9.get krm rfl) (Eq.trans (hf6.get krm rfl) (Eq.trans (hf3.get krm rfl) eG6.symm))))))
                      have hG6t : (I209 rm 6).toInt = G6.toInt := congrArg Int32.toInt hG6
                      have hG7 : I209 rm 7 = x5_ := (Eq.trans (hf209.get krm rfl) (Eq.trans (hf200.get krm rfl) (Eq.trans (hf197.get krm rfl) (Eq.trans (hf9.get krm rfl) (Eq.trans (hf6.get krm rfl) e5.symm)))))
                      have hG7t : (I209 rm 7).toInt = x5_.toInt := congrArg Int32.toInt hG7
                      have hG8 : I209 rm 8 = G8 := (Eq.trans (hf209.get krm rfl) (Eq.trans (hf200.get krm rfl) (Eq.trans (hf197.get krm rfl) (Eq.trans (hf9.get krm rfl) (Eq.trans (hf6.get krm rfl) (Eq.trans (hf3.get krm rfl) eG8.symm))))))
                      have hG8t : (I209 rm 8).toInt = G8.toInt := congrArg Int32.toInt hG8
                      have hG9 : I209 rm 9 = G9 := (Eq.trans (hf209.get krm rfl) (Eq.trans (hf200.get krm rfl) (Eq.trans (hf197.get krm rfl) (Eq.trans (hf9.get krm rfl) (Eq.trans (hf6.get krm rfl) (Eq.trans (hf3.get krm rfl) eG9.symm))))))
                      have hG9t : (I209 rm 9).toInt = G9.toInt := congrArg Int32.toInt hG9
                      have hG10 : I209 rm 10 = N1 := (Eq.trans (hf209.get krm rfl) (Eq.trans (hf200.get krm rfl) (Eq.trans (hf197.get krm rfl) (Eq.trans (hf9.get krm rfl) eN1.symm))))
                      have hG10t : (I209 rm 10).toInt = N1.toInt := congrArg Int32.toInt hG10
                      exact r_vret hC hQ hlk hr (by decide) (by decide) dX10_readStory_204 ⟨_, _, rfl, rfl, ⟨hs209, hF209, hFJ209, (by exact Or.inr ⟨kf209, qf209, by unfold sStory sMore; rw [pif_f hbg, hsp6, bnd_ok, hsp9, bnd_ok, pif_f (show ¬ sKind B n p9 = -1 by rw [hkn]; decide), hsp200, bnd_ok, pif_f (show ¬ sKind B n p9 = 2 by rw [hkn]; decide), pif_f (show ¬ sKind B n p9 = 3 by rw [hkn]; decide), pif_t (show sKind B n p9 = 4 from hkn), hsp209, bnd_er], by omega, by omega, by omega⟩), (by exact om209), (by exact oc209)⟩⟩
                  · rw [show x198_.toInt = 0 by omega, show x199_.toInt = 99 by omega] at hsp200
                    refine r_istore_n hC (lv' := [(3, .int x200_), (2, .int x194_), (1, .int x9_), (0, .ref a0)]) dX10_readStory_137 (by decide) rfl ?_
                    refine r_iload_n hC dX10_readStory_138 1 rfl ?_
                    refine r_iconst hC (v := (2)) dX10_readStory_139 (by decide) (by decide) (fun x231_ e231 t231 => ?_)
                    refine r_icmp_ne hC (tgt := 156) dX10_readStory_140 (by decide) (fun c232 => ?_) (fun c232 => ?_)
                    rotate_left
                    · exfalso; omega
                    refine r_iload_n hC dX10_readStory_156 1 rfl ?_
                    refine r_iconst hC (v := (3)) dX10_readStory_157 (by decide) (by decide) (fun x233_ e233 t233 => ?_)
                    refine r_icmp_ne hC (tgt := 175) dX10_readStory_158 (by decide) (fun c234 => ?_) (fun c234 => ?_)
                    rotate_left
                    · exfalso; omega
                    refine r_iload_n hC dX10_readStory_175 1 rfl ?_
                    refine r_iconst hC (v := (4)) dX10_readStory_176 (by decide) (by decide) (fun x235_ e235 t235 => ?_)
                    refine r_icmp_ne hC (tgt := 193) dX10_readStory_177 (by decide) (fun c236 => ?_) (fun c236 => ?_)
                    · exfalso; omega
                    refine r_aload_n hC dX10_readStory_180 3 rfl ?_
                    refine r_ldcwS hC (i := 54) (by decide) rfl rfl dX10_readStory_181 ?_
                    refine r_iconst hC (v := (1)) dX10_readStory_184 (by decide) (by decide) (fun x237_ e237 t237 => ?_)
                    refine r_bipush hC (v := (99)) dX10_readStory_185 (by decide) (by decide) (fun x238_ e238 t238 => ?_)
                    refine r_callV hC (As := [.ref (g.2.2.1 54), .int x237_, .int x238_]) (rest := []) (ci := 10) (e_X10_readPart g (xL X) K len I200 J200 R hs200 a0 ka0 54 (by decide) x237_ x238_ (by omega)) mT_6_1 mT_1_10 mT_5_238 mT_6_0 mP_56 okX10_readPart ⟨by decide, by decide⟩ rfl (by show kO (K a0) = _; rw [ka0]; rfl) rfl rfl (Nat.le_of_ble_eq_true rfl) ⟨by decide, by decide⟩ dX10_readStory_187 (aI2 (F := fun st M => P g X 5 190 [(3, .int x200_), (2, .int x194_), (1, .int x9_), (0, .ref a0)] st _ _ M) (M := (K, len, I200, J200, R)) fun x239_ I239 J239 h239 => ?_)
                    obtain ⟨hs239, hf239, hfj239, k239_0, k239_1, k239_2⟩ := h239
                    show P g X 5 190 [(3, .int x200_), (2, .int x194_), (1, .int x9_), (0, .ref a0)] [.int x239_] _ _ (K, len, I239, J239, R)
                    have hF239 : Fr K [(10, 7), (10, 10), (11, 8), (11, 9), (11, 10), (11, 11), (11, 12), (11, 13), (75, 999), (76, 999), (83, 999), (84, 999), (1000, 999)] I I239 := hF200.trans hf239 rfl rfl
                    have hFJ239 : Fr K [(11, 14), (82, 999)] J J239 := hFJ200.trans hfj239 rfl rfl
                    have oc239 := oc200.mv qM_big hf239 rfl
                    have om239 := om200.mv hf239 rfl
                    refine r_goto hC (tgt := 194) dX10_readStory_190 (by decide) ?_
                    refine r_istore hC (lv' := [(4, .int x239_), (3, .int x200_), (2, .int x194_), (1, .int x9_), (0, .ref a0)]) dX10_readStory_194 (by decide) rfl ?_
                    refine r_aload_n hC dX10_readStory_196 4 rfl ?_
                    refine r_geti hC 9 (ci := 10) rfl u10_in (by decide) mT_5_4 dX10_readStory_197 ka0 rfl rfl (fun x240_ e240 => ?_)
                    have f240 : x240_.toInt = (I239 a0 9).toInt := by rw [e240]
                    refine r_iconst hC (v := (5)) dX10_readStory_200 (by decide) (by decide) (fun x241_ e241 t241 => ?_)
                    refine r_icmp_ne hC (tgt := 205) dX10_readStory_201 (by decide) (fun c242 => ?_) (fun c242 => ?_)
                    · exfalso; omega
                    have hG0 : I239 rm 0 = G0 := (Eq.trans (hf239.get krm rfl) (Eq.trans (hf200.get krm rfl) (Eq.trans (hf197.get krm rfl) (Eq.trans (hf9.get krm rfl) (Eq.trans (hf6.get krm rfl) (Eq.trans (hf3.get krm rfl) eG0.symm))))))
                    have hG0t : (I239 rm 0).toInt = G0.toInt := congrArg Int32.toInt hG0
                    have hG1 : I239 rm 1 = G1 := (Eq.trans (hf239.get krm rfl) (Eq.trans (hf200.get krm rfl) (Eq.trans (hf197.get krm rfl) (Eq.trans (hf9.get krm rfl) (Eq.trans (hf6.get krm rfl) (Eq.trans (hf3.get krm rfl) eG1.symm))))))
                    have hG1t : (I239 rm 1).toInt = G1.toInt := congrArg Int32.toInt hG1
                    have hG2 : I239 rm 2 = G2 := (Eq.trans (hf239.get krm rfl) (Eq.trans (hf200.get krm rfl) (Eq.trans (hf197.get krm rfl) (Eq.trans (hf9.get krm rfl) (Eq.trans (hf6.get krm rfl) (Eq.trans (hf3.get krm rfl) eG2.symm))))))
                    have hG2t : (I239 rm 2).toInt = G2.toInt := congrArg Int32.toInt hG2
                    have hG3 : I239 rm 3 = G3 := (Eq.trans (hf239.get krm rfl) (Eq.trans (hf200.get krm rfl) (Eq.trans (hf197.get krm rfl) (Eq.trans (hf9.get krm rfl) (Eq.trans (hf6.get krm rfl) (Eq.trans (hf3.get krm rfl) eG3.symm))))))
                    have hG3t : (I239 rm 3).toInt = G3.toInt := congrArg Int32.toInt hG3
                    have hG4 : I239 rm 4 = G4 := (Eq.trans (hf239.get krm rfl) (Eq.trans (hf200.get krm rfl) (Eq.trans (hf197.get krm rfl) (Eq.trans (hf9.get krm rfl) (Eq.trans (hf6.get krm rfl) (Eq.trans (hf3.get krm rfl) eG4.symm))))))
                    have hG4t : (I239 rm 4).toInt = G4.toInt := congrArg Int32.toInt hG4
                    have hG5 : I239 rm 5 = G5 := (Eq.trans (hf239.get krm rfl) (Eq.trans (hf200.get krm rfl) (Eq.trans (hf197.get krm rfl) (Eq.trans (hf9.get krm rfl) (Eq.trans (hf6.get krm rfl) (Eq.trans (hf3.get krm rfl) eG5.symm))))))
                    have hG5t : (I239 rm 5).toInt = G5.toInt := congrArg Int32.toInt hG5
                    have hG6 : I239 rm 6 = G6 := (Eq.trans (hf239.get krm rfl) (Eq.trans (hf200.get krm rfl) (Eq.trans (hf197.get krm rfl) (Eq.trans (hf9.get krm rfl) (Eq.trans (hf6.get krm rfl) (Eq.trans (hf3.get krm rfl) eG6.symm))))))
                    have hG6t : (I239 rm 6).toInt = G6.toInt := congrArg Int32.toInt hG6
                    have hG7 : I239 rm 7 = x5_ := (Eq.trans (hf239.get krm rfl) (Eq.trans (hf200.get krm rfl) (Eq.trans (hf197.get krm rfl) (Eq.trans (hf9.get krm rfl) (Eq.trans (hf6.get krm rfl) e5.symm)))))
                    have hG7t : (I239 rm 7).toInt = x5_.toInt := congrArg Int32.toInt hG7
                    have hG8 : I239 rm 8 = G8 := (Eq.trans (hf239.get krm rfl) (Eq.trans (hf200.get krm rfl) (Eq.trans (hf197.get krm rfl) (Eq.trans (hf9.get krm rfl) (Eq.trans (hf6.get krm rfl) (Eq.trans (hf3.get krm rfl) eG8.symm))))))
                    have hG8t : (I239 rm 8).toInt = G8.toInt := congrArg Int32.toInt hG8
                    have hG9 : I239 rm 9 = G9 := (Eq.trans (hf239.get krm rfl) (Eq.trans (hf200.get krm rfl) (Eq.trans (hf197.get krm rfl) (Eq.trans (hf9.get krm rfl) (Eq.trans (hf6.get krm rfl) (Eq.trans (hf3.get krm rfl) eG9.symm))))))
                    have hG9t : (I239 rm 9).toInt = G9.toInt := congrArg Int32.toInt hG9
                    have hG10 : I239 rm 10 = N1 := (Eq.trans (hf239.get krm rfl) (Eq.trans (hf200.get krm rfl) (Eq.trans (hf197.get krm rfl) (Eq.trans (hf9.get krm rfl) eN1.symm))))
                    have hG10t : (I239 rm 10).toInt = N1.toInt := congrArg Int32.toInt hG10
                    exact r_vret hC hQ hlk hr (by decide) (by decide) dX10_readStory_204 ⟨_, _, rfl, rfl, ⟨hs239, hF239, hFJ239, (by exact Or.inr ⟨kf200, qf200, by unfold sStory sMore; rw [pif_f hbg, hsp6, bnd_ok, hsp9, bnd_ok, pif_f (show ¬ sKind B n p9 = -1 by rw [hkn]; decide), hsp200, bnd_er], by omega, by omega, by omega⟩), (by exact om239), (by exact oc239)⟩⟩
                · refine r_if_eq hC (tgt := 100) dX10_readStory_93 (by decide) (fun c243 => ?_) (fun c243 => ?_)
                  rotate_left
                  · exfalso; omega
                  refine r_aload_n hC dX10_readStory_100 1 rfl ?_
                  refine r_ldcwS hC (i := 51) (by decide) rfl rfl dX10_readStory_101 ?_
                  refine r_callV hC (As := [.ref (g.2.2.1 51)]) (rest := []) (ci := 10) (f_X10_isWord g (xL X) K len I9 J9 R hs9 a0 ka0 51 (by decide) B n p9 hp9 tk9 (by first | assumption | decide)) mT_5_223 mT_1_10 mT_5_220 mT_5_222 mP_53 okX10_isWord ⟨by decide, by decide⟩ rfl (by show kO (K a0) = _; rw [ka0]; rfl) rfl rfl (Nat.le_of_ble_eq_true rfl) ⟨by decide, by decide⟩ dX10_readStory_104 (aI0 (F := fun st M => P g X 5 107 [(1, .int x9_), (0, .ref a0)] st _ _ M) (M := (K, len, I9, J9, R)) fun x244_ h244 => ?_)
                  have k244_0 := h244
                  clear h244
                  show P g X 5 107 [(1, .int x9_), (0, .ref a0)] [.int x244_] _ _ (K, len, I9, J9, R)
                  rcases k244_0 with ⟨hr244, hw244⟩ | ⟨hr244, hw244⟩
                  · refine r_if_eq hC (tgt := 114) dX10_readStory_107 (by decide) (fun c245 => ?_) (fun c245 => ?_)
                    · exfalso; omega
                    refine r_iconst hC (v := (5)) dX10_readStory_110 (by decide) (by decide) (fun x246_ e246 t246 => ?_)
                    refine r_goto hC (tgt := 115) dX10_readStory_111 (by decide) ?_
                    have hkn : sKind B n p9 = 5 := by unfold sKind; rw [pif_f (show ¬ isW B n p9 15 from hw10), pif_f (show ¬ isW B n p9 16 from hw55), pif_f (show ¬ isW B n p9 17 from hw100), pif_f (show ¬ isW B n p9 18 from hw144), pif_f (show ¬ isW B n p9 19 from hw192), pif_t (show isW B n p9 20 from hw244)]
                    refine r_istore_n hC (lv' := [(2, .int x246_), (1, .int x9_), (0, .ref a0)]) dX10_readStory_115 (by decide) rfl ?_
                    refine r_iload_n hC dX10_readStory_116 0 rfl ?_
                    refine r_iconst hC (v := (-1)) dX10_readStory_117 (by decide) (by decide) (fun x247_ e247 t247 => ?_)
                    refine r_icmp_ne hC (tgt := 126) dX10_readStory_118 (by decide) (fun c248 => ?_) (fun c248 => ?_)
                    rotate_left
                    · exfalso; omega
                    refine r_aload_n hC dX10_readStory_126 2 rfl ?_
                    refine r_callV hC (As := []) (rest := []) (ci := 10) (f_X10_goesOn g (xL X) K len I9 J9 R hs9 a0 ka0 mt hmt kmt nmt B n (hB.mv9 hF9 kmt (fun _ => rfl)) hBr hn (nx B n p9) (nx_le hp9).2 (tk9.e5) (tk9.2.2.1 (by first | omega | (rw [hw244.1]; decide))) (tk9.2.2.2.1)) mT_5_199 mT_1_10 mT_5_196 mT_5_198 mP_49 okX10_goesOn ⟨by decide, by decide⟩ rfl (by show kO (K a0) = _; rw [ka0]; rfl) rfl rfl (Nat.le_of_ble_eq_true rfl) ⟨by decide, by decide⟩ dX10_readStory_127 (aV2 (F := fun st M => P g X 5 130 [(2, .int x246_), (1, .int x9_), (0, .ref a0)] st _ _ M) (M := (K, len, I9, J9, R)) fun I249 J249 h249 => ?_)
                    obtain ⟨hs249, hf249, hfj249, k249_0⟩ := h249
                    show P g X 5 130 [(2, .int x246_), (1, .int x9_), (0, .ref a0)] [] _ _ (K, len, I249, J249, R)
                    have hF249 : Fr K [(10, 7), (10, 10), (11, 8), (11, 9), (11, 10), (11, 11), (11, 12), (11, 13), (75, 999), (76, 999), (83, 999), (84, 999), (1000, 999)] I I249 := hF9.trans hf249 rfl rfl
                    have hFJ249 : Fr K [(11, 14), (82, 999)] J J249 := hFJ9.trans hfj249 rfl rfl
                    have fp249 : I249 a0 12 = I a0 12 := (hf249.get ka0 rfl).trans fq9
                    have pg249 := pg9.mv hf249 kns (fun _ => rfl)
                    have nm249 := nm9.mv hfj249 knr (fun _ => rfl)
                    have oc249 := oc9.mv qM_big hf249 rfl
                    have rw249 := rw9.mv hcx qM_big hf249 rfl
                    have om249 := om9.mv hf249 rfl
                    have ni249 := ni9.mv hf249 kns knn (fun _ => rfl) (fun _ => rfl)
                    refine r_aload_n hC dX10_readStory_130 2 rfl ?_
                    refine r_iconst hC (v := (0)) dX10_readStory_131 (by decide) (by decide) (fun x250_ e250 t250 => ?_)
                    refine r_bipush hC (v := (99)) dX10_readStory_132 (by decide) (by decide) (fun x251_ e251 t251 => ?_)
                    refine r_callV hC (As := [.int x250_, .int x251_]) (rest := []) (ci := 10) (f_X10_readWhole g (xL X) K len I249 J249 R hs249 a0 ka0 x250_ x251_ mt hmt kmt nmt B n (hB.mv9 hF249 kmt (fun _ => rfl)) hBr hn (nx B n p9) (nx_le hp9).2 k249_0) mT_6_5 mT_1_10 mT_6_2 mT_6_4 mP_57 okX10_readWhole ⟨by decide, by decide⟩ rfl (by show kO (K a0) = _; rw [ka0]; rfl) rfl rfl (Nat.le_of_ble_eq_true rfl) ⟨by decide, by decide⟩ dX10_readStory_134 (aI2 (F := fun st M => P g X 5 137 [(2, .int x246_), (1, .int x9_), (0, .ref a0)] st _ _ M) (M := (K, len, I249, J249, R)) fun x252_ I252 J252 h252 => ?_)
                    obtain ⟨hs252, hf252, hfj252, k252_0⟩ := h252
                    show P g X 5 137 [(2, .int x246_), (1, .int x9_), (0, .ref a0)] [.int x252_] _ _ (K, len, I252, J252, R)
                    have hF252 : Fr K [(10, 7), (10, 10), (11, 8), (11, 9), (11, 10), (11, 11), (11, 12), (11, 13), (75, 999), (76, 999), (83, 999), (84, 999), (1000, 999)] I I252 := hF249.trans hf252 rfl rfl
                    have hFJ252 : Fr K [(11, 14), (82, 999)] J J252 := hFJ249.trans hfj252 rfl rfl
                    have pg252 := pg249.mv hf252 kns (fun _ => rfl)
                    have nm252 := nm249.mv hfj252 knr (fun _ => rfl)
                    have oc252 := oc249.mv qM_big hf252 rfl
                    have rw252 := rw249.mv hcx qM_big hf252 rfl
                    have om252 := om249.mv hf252 rfl
                    have ni252 := ni249.mv hf252 kns knn (fun _ => rfl) (fun _ => rfl)
                    rcases k252_0 with ⟨v252, p252, hsp252, hp252, tk252, hv252, fl252⟩ | ⟨kf252, qf252, hsp252, hf0252, hf1252, hf2252⟩
                    · have fq252 : I252 a0 12 = I a0 12 := fl252.trans fp249
                      rw [show x250_.toInt = 0 by omega, show x251_.toInt = 99 by omega] at hsp252
                      have rg252 := (sWhole_go (nx_le hp9).2 hsp252).2
                      refine r_istore_n hC (lv' := [(3, .int x252_), (2, .int x246_), (1, .int x9_), (0, .ref a0)]) dX10_readStory_137 (by decide) rfl ?_
                      refine r_iload_n hC dX10_readStory_138 1 rfl ?_
                      refine r_iconst hC (v := (2)) dX10_readStory_139 (by decide) (by decide) (fun x253_ e253 t253 => ?_)
                      refine r_icmp_ne hC (tgt := 156) dX10_readStory_140 (by decide) (fun c254 => ?_) (fun c254 => ?_)
                      rotate_left
                      · exfalso; omega
                      refine r_iload_n hC dX10_readStory_156 1 rfl ?_
                      refine r_iconst hC (v := (3)) dX10_readStory_157 (by decide) (by decide) (fun x255_ e255 t255 => ?_)
                      refine r_icmp_ne hC (tgt := 175) dX10_readStory_158 (by decide) (fun c256 => ?_) (fun c256 => ?_)
                      rotate_left
                      · exfalso; omega
                      refine r_iload_n hC dX10_readStory_175 1 rfl ?_
                      refine r_iconst hC (v := (4)) dX10_readStory_176 (by decide) (by decide) (fun x257_ e257 t257 => ?_)
                      refine r_icmp_ne hC (tgt := 193) dX10_readStory_177 (by decide) (fun c258 => ?_) (fun c258 => ?_)
                      rotate_left
                      · exfalso; omega
                      refine r_iconst hC (v := (0)) dX10_readStory_193 (by decide) (by decide) (fun x259_ e259 t259 => ?_)
                      refine r_istore hC (lv' := [(4, .int x259_), (3, .int x252_), (2, .int x246_), (1, .int x9_), (0, .ref a0)]) dX10_readStory_194 (by decide) rfl ?_
                      refine r_aload_n hC dX10_readStory_196 4 rfl ?_
                      have n5_197 := tk252.e5
                      refine r_geti hC 9 (ci := 10) rfl u10_in (by decide) mT_5_4 dX10_readStory_197 ka0 rfl rfl (fun x260_ e260 => ?_)
                      have f260 : x260_.toInt = (I252 a0 9).toInt := by rw [e260]
                      refine r_iconst hC (v := (5)) dX10_readStory_200 (by decide) (by decide) (fun x261_ e261 t261 => ?_)
                      refine r_icmp_ne hC (tgt := 205) dX10_readStory_201 (by decide) (fun c262 => ?_) (fun c262 => ?_)
                      rotate_left
                      · exfalso; omega
                      refine r_aload_n hC dX10_readStory_205 4 rfl ?_
                      refine r_getr hC 4 (ci := 10) rfl u10_in (by decide) mT_4_239 dX10_readStory_206 ka0 rfl rfl hbr ?_
                      obtain ⟨a263_, hb263, hk263, hn263⟩ := hs252.row krm 16 75 6 (by decide) (by decide)
                      refine r_getrN hC 16 (ci := 9) rfl u9_in (by decide) nF_16 dX10_readStory_209 krm rfl rfl hb263 ?_
                      refine r_aload_n hC dX10_readStory_212 4 rfl ?_
                      refine r_getr hC 4 (ci := 10) rfl u10_in (by decide) mT_4_239 dX10_readStory_213 ka0 rfl rfl hbr ?_
                      refine r_getiN hC 7 (ci := 9) rfl u9_in (by decide) nF_7 dX10_readStory_216 krm rfl rfl (fun x264_ e264 => ?_)
                      have r264 := hs252.rng krm rfl e264
                      have f264 : x264_.toInt = (I252 rm 7).toInt := by rw [e264]
                      have w264 : x264_ = x5_ := by rw [e264]; exact (Eq.trans (hf252.get krm rfl) (Eq.trans (hf249.get krm rfl) (Eq.trans (hf9.get krm rfl) (Eq.trans (hf6.get krm rfl) e5.symm))))
                      have wt264 : x264_.toInt = x5_.toInt := by rw [w264]
                      refine r_iload_n hC dX10_readStory_219 3 rfl ?_
                      refine x_iastore hC hk263 hn263 (by decide) rfl rfl dX10_readStory_220 (by omega) (by omega) (fun I265 eI265 => ?_)
                      have hs265 := hs252.put0 eI265 hk263 (rng_arr (by decide) _) rfl (xF_arr (by decide) _) (by decide)
                      have hF265 := hF252.put eI265 hk263 (inS_arr rfl _)
                      have tkp265 := tk252.put eI265 hk263 ka0 (by decide)
                      have fp265 : I265 a0 12 = I a0 12 := (up2_kk eI265 hk263 ka0 (by decide)).trans fq252
                      have pg265 := pg252.put eI265 hk263 kns (by decide)
                      have om265 := om252.put eI265 hk263 (by first | exact Or.inr rfl | exact Or.inl (by decide) | exact Or.inl (by omega))
                      have ni265 := ni252.put eI265 hk263 kns knn (by decide) (by decide)
                      have nnz : 0 ≤ (adN D (vl B n (nx B n p))) 0 7 := by omega
                      have ix265 : x264_.toInt = (adN D (vl B n (nx B n p))) 0 7 := by omega
                      have eC265 := eI265
                      rw [clx ix265 nnz] at eC265
                      have rw265 := rw252.put hcx (r0 := 6) (j0 := ((adN D (vl B n (nx B n p))) 0 7).toNat) (w := v9) (cM (r := 6) (by decide) (by decide) hb263) eC265 hv9 (by rw [cnt_6]; exact Int.toNat_of_nonneg nnz) (fun h9 => absurd h9 (by decide))
                      have oc265 := oc252.put (cM (r := 6) (by decide) (by decide) hb263) eC265
                      refine r_aload_n hC dX10_readStory_221 4 rfl ?_
                      refine r_getr hC 4 (ci := 10) rfl u10_in (by decide) mT_4_239 dX10_readStory_222 ka0 rfl rfl hbr ?_
                      obtain ⟨kd266, mo266, hb266, hk266, hn266, hB266, hK266, hN266⟩ := hs265.2.2.1 rm krm
                      refine r_getrN hC 17 (ci := 9) rfl u9_in (by decide) nF_17 dX10_readStory_225 krm rfl rfl hb266 ?_
                      refine r_aload_n hC dX10_readStory_228 4 rfl ?_
                      refine r_getr hC 4 (ci := 10) rfl u10_in (by decide) mT_4_239 dX10_readStory_229 ka0 rfl rfl hbr ?_
                      refine r_getiN hC 7 (ci := 9) rfl u9_in (by decide) nF_7 dX10_readStory_232 krm rfl rfl (fun x267_ e267 => ?_)
                      have r267 := hs265.rng krm rfl e267
                      have f267 : x267_.toInt = (I265 rm 7).toInt := by rw [e267]
                      have w267 : x267_ = x264_ := by rw [e267]; exact (Eq.trans (up2_kk eI265 hk263 krm (by decide)) e264.symm)
                      have wt267 : x267_.toInt = x264_.toInt := by rw [w267]
                      refine r_iload_n hC dX10_readStory_235 2 rfl ?_
                      refine x_iastore hC hk266 hn266 (by omega) (kOb (by omega)) (kAb (by omega)) dX10_readStory_236 (by omega) (by omega) (fun I268 eI268 => ?_)
                      have hs268 : Sf K len I268 R := hs265.putK (rm := rm) eI268 (Or.inl hk266) (by have h9 := clampI (i := x267_) (by omega); omega)
                      have hF268 := hF265.put eI268 hk266 (inS_big rfl (by omega) _)
                      have tkp268 := tkp265.put eI268 hk266 ka0 (by omega)
                      have fp268 : I268 a0 12 = I a0 12 := (up2_kk eI268 hk266 ka0 (by omega)).trans fp265
                      have pg268 := pg265.put eI268 hk266 kns (by omega)
                      have om268 := om265.put eI268 hk266 (by first | exact Or.inr rfl | exact Or.inl (by decide) | exact Or.inl (by omega))
                      have ni268 := ni265.put eI268 hk266 kns knn (by omega) (by omega)
                      have eC268 := eI268
                      rw [clx (wt267.trans ix265) nnz] at eC268
                      have rw268 := rw265.put hcx (r0 := 7) (j0 := ((adN D (vl B n (nx B n p))) 0 7).toNat) (w := sKind B n p9) (cM (r := 7) (by decide) (by decide) hb266) eC268 (by omega) (by rw [upN_o (by decide), cnt_7]; exact Int.toNat_of_nonneg nnz) (fun _ => by rw [upN_o (by decide), cnt_9]; exact Int.le_of_eq (Int.toNat_of_nonneg nnz).symm)
                      have oc268 := oc265.put (cM (r := 7) (by decide) (by decide) hb266) eC268
                      refine r_aload_n hC dX10_readStory_237 4 rfl ?_
                      refine r_getr hC 4 (ci := 10) rfl u10_in (by decide) mT_4_239 dX10_readStory_238 ka0 rfl rfl hbr ?_
                      obtain ⟨a269_, hb269, hk269, hn269⟩ := hs268.row krm 18 76 6 (by decide) (by decide)
                      refine r_getrN hC 18 (ci := 9) rfl u9_in (by decide) nF_18 dX10_readStory_241 krm rfl rfl hb269 ?_
                      refine r_aload_n hC dX10_readStory_244 4 rfl ?_
                      refine r_getr hC 4 (ci := 10) rfl u10_in (by decide) mT_4_239 dX10_readStory_245 ka0 rfl rfl hbr ?_
                      refine r_getiN hC 7 (ci := 9) rfl u9_in (by decide) nF_7 dX10_readStory_248 krm rfl rfl (fun x270_ e270 => ?_)
                      have r270 := hs268.rng krm rfl e270
                      have f270 : x270_.toInt = (I268 rm 7).toInt := by rw [e270]
                      have w270 : x270_ = x267_ := by rw [e270]; exact (Eq.trans (up2_kk eI268 hk266 krm (by omega)) e267.symm)
                      have wt270 : x270_.toInt = x267_.toInt := by rw [w270]
                      refine r_iload_n hC dX10_readStory_251 1 rfl ?_
                      refine x_iastore hC hk269 hn269 (by decide) rfl rfl dX10_readStory_252 (by omega) (by omega) (fun I271 eI271 => ?_)
                      have hs271 := hs268.put0 eI271 hk269 (rng_arr (by decide) _) rfl (xF_arr (by decide) _) (by decide)
                      have hF271 := hF268.put eI271 hk269 (inS_arr rfl _)
                      have tkp271 := tkp268.put eI271 hk269 ka0 (by decide)
                      have fp271 : I271 a0 12 = I a0 12 := (up2_kk eI271 hk269 ka0 (by decide)).trans fp268
                      have pg271 := pg268.put eI271 hk269 kns (by decide)
                      have om271 := om268.put eI271 hk269 (by first | exact Or.inr rfl | exact Or.inl (by decide) | exact Or.inl (by omega))
                      have ni271 := ni268.put eI271 hk269 kns knn (by decide) (by decide)
                      have eC271 := eI271
                      rw [clx (wt270.trans (wt267.trans ix265)) nnz] at eC271
                      have rw271 := rw268.put hcx (r0 := 8) (j0 := ((adN D (vl B n (nx B n p))) 0 7).toNat) (w := v252) (cM (r := 8) (by decide) (by decide) hb269) eC271 hv252 (by rw [upN_o (by decide), upN_o (by decide), cnt_8]; exact Int.toNat_of_nonneg nnz) (fun h9 => absurd h9 (by decide))
                      have oc271 := oc268.put (cM (r := 8) (by decide) (by decide) hb269) eC271
                      refine r_aload_n hC dX10_readStory_253 4 rfl ?_
                      refine r_getr hC 4 (ci := 10) rfl u10_in (by decide) mT_4_239 dX10_readStory_254 ka0 rfl rfl hbr ?_
                      refine r_getrN hC 19 (ci := 9) rfl u9_in (by decide) nF_19 dX10_readStory_257 krm rfl rfl hB266 ?_
                      refine r_aload_n hC dX10_readStory_260 4 rfl ?_
                      refine r_getr hC 4 (ci := 10) rfl u10_in (by decide) mT_4_239 dX10_readStory_261 ka0 rfl rfl hbr ?_
                      refine r_getiN hC 7 (ci := 9) rfl u9_in (by decide) nF_7 dX10_readStory_264 krm rfl rfl (fun x272_ e272 => ?_)
                      have r272 := hs271.rng krm rfl e272
                      have f272 : x272_.toInt = (I271 rm 7).toInt := by rw [e272]
                      have w272 : x272_ = x270_ := by rw [e272]; exact (Eq.trans (up2_kk eI271 hk269 krm (by decide)) e270.symm)
                      have wt272 : x272_.toInt = x270_.toInt := by rw [w272]
                      refine r_iload hC dX10_readStory_267 0 rfl ?_
                      refine x_iastore hC hK266 hN266 (by omega) (kOb (by omega)) (kAb (by omega)) dX10_readStory_269 (by omega) (by omega) (fun I273 eI273 => ?_)
                      have hs273 : Sf K len I273 R := hs271.putK (rm := rm) eI273 (Or.inr hK266) (by have h9 := clampI (i := x272_) (by omega); omega)
                      have hF273 := hF271.put eI273 hK266 (inS_big rfl (by omega) _)
                      have tkp273 := tkp271.put eI273 hK266 ka0 (by omega)
                      have fp273 : I273 a0 12 = I a0 12 := (up2_kk eI273 hK266 ka0 (by omega)).trans fp271
                      have pg273 := pg271.put eI273 hK266 kns (by omega)
                      have om273 := om271.put eI273 hK266 (by first | exact Or.inr rfl | exact Or.inl (by decide) | exact Or.inl (by omega))
                      have ni273 := ni271.put eI273 hK266 kns knn (by omega) (by omega)
                      have eC273 := eI273
                      rw [clx (wt272.trans (wt270.trans (wt267.trans ix265))) nnz] at eC273
                      have rw273 := rw271.put hcx (r0 := 9) (j0 := ((adN D (vl B n (nx B n p))) 0 7).toNat) (w := 0) (cM (r := 9) (by decide) (by decide) hB266) eC273 (by omega) (by rw [upN_o (by decide), upN_o (by decide), upN_o (by decide), cnt_9]; exact Int.toNat_of_nonneg nnz) (fun h9 => absurd h9 (by decide))
                      have oc273 := oc271.put (cM (r := 9) (by decide) (by decide) hB266) eC273
                      refine r_aload_n hC dX10_readStory_270 4 rfl ?_
                      refine r_getr hC 4 (ci := 10) rfl u10_in (by decide) mT_4_239 dX10_readStory_271 ka0 rfl rfl hbr ?_
                      refine r_dup hC dX10_readStory_274 rfl ?_
                      refine r_getiN hC 7 (ci := 9) rfl u9_in (by decide) nF_7 dX10_readStory_275 krm rfl rfl (fun x274_ e274 => ?_)
                      have r274 := hs273.rng krm rfl e274
                      have f274 : x274_.toInt = (I273 rm 7).toInt := by rw [e274]
                      have w274 : x274_ = x272_ := by rw [e274]; exact (Eq.trans (up2_kk eI273 hK266 krm (by omega)) e272.symm)
                      have wt274 : x274_.toInt = x272_.toInt := by rw [w274]
                      refine r_iconst hC (v := (1)) dX10_readStory_278 (by decide) (by decide) (fun x275_ e275 t275 => ?_)
                      refine r_iadd hC dX10_readStory_279 (fun x276_ e276 => ?_)
                      try have t276 : x276_.toInt = x274_.toInt + x275_.toInt := by rw [e276]; exact ti_add (by omega) (by omega)
                      refine r_putiN hC 7 (ci := 9) rfl u9_in tyX9_ok nmX9 (by decide) nF_7 rfl rfl rfl dX10_readStory_280 krm rfl rfl (fun I277 eI277 => ?_)
                      have hs277 : Sf K len I277 R := hs273.putA7 eI277 krm hb266 hB266 (by omega) (by omega) (j := x267_.toNatClampNeg) (by have h9 := clampI (i := x267_) (by omega); omega) (by omega) (by rw [(show I273 kd266 x267_.toNatClampNeg = x246_ from (Eq.trans (up2_kk eI273 hK266 hk266 (by omega)) (Eq.trans (up2_kk eI271 hk269 hk266 (by omega)) (by rw [eI268]; exact up2_self _ _ _ _)))), cl_eq (show x267_.toInt = x272_.toInt by omega), (show I273 mo266 x272_.toNatClampNeg = x259_ from (by rw [eI273]; exact up2_self _ _ _ _))]; omega)
                      have hF277 := hF273.put eI277 krm rfl
                      have tkp277 := tkp273.put eI277 krm ka0 (by decide)
                      have fp277 : I277 a0 12 = I a0 12 := (up2_kk eI277 krm ka0 (by decide)).trans fp273
                      have pg277 := pg273.put eI277 krm kns (by decide)
                      have om277 := om273.put eI277 krm (by first | exact Or.inr rfl | exact Or.inl (by decide) | exact Or.inl (by omega))
                      have ni277 := ni273.put eI277 krm kns knn (by decide) (by decide)
                      have rw277 := rw273.putO hcx eI277 krm rfl
                      have oc277 := oc273.putO eI277 krm rfl
                      have hG0 : I277 rm 0 = G0 := (Eq.trans (up2_at (Or.inr (by decide)) eI277) (Eq.trans (up2_kk eI273 hK266 krm (by omega)) (Eq.trans (up2_kk eI271 hk269 krm (by decide)) (Eq.trans (up2_kk eI268 hk266 krm (by omega)) (Eq.trans (up2_kk eI265 hk263 krm (by decide)) (Eq.trans (hf252.get krm rfl) (Eq.trans (hf249.get krm rfl) (Eq.trans (hf9.get krm rfl) (Eq.trans (hf6.get krm rfl) (Eq.trans (hf3.get krm rfl) eG0.symm))))))))))
                      have hG0t : (I277 rm 0).toInt = G0.toInt := congrArg Int32.toInt hG0
                      have hG1 : I277 rm 1 = G1 := (Eq.trans (up2_at (Or.inr (by decide)) eI277) (Eq.trans (up2_kk eI273 hK266 krm (by omega)) (Eq.trans (up2_kk eI271 hk269 krm (by decide)) (Eq.trans (up2_kk eI268 hk266 krm (by omega)) (Eq.trans (up2_kk eI265 hk263 krm (by decide)) (Eq.trans (hf252.get krm rfl) (Eq.trans (hf249.get krm rfl) (Eq.trans (hf9.get krm rfl) (Eq.trans (hf6.get krm rfl) (Eq.trans (hf3.get krm rfl) eG1.symm))))))))))
                      have hG1t : (I277 rm 1).toInt = G1.toInt := congrArg Int32.toInt hG1
                      have hG2 : I277 rm 2 = G2 := (Eq.trans (up2_at (Or.inr (by decide)) eI277) (Eq.trans (up2_kk eI273 hK266 krm (by omega)) (Eq.trans (up2_kk eI271 hk269 krm (by decide)) (Eq.trans (up2_kk eI268 hk266 krm (by omega)) (Eq.trans (up2_kk eI265 hk263 krm (by decide)) (Eq.trans (hf252.get krm rfl) (Eq.trans (hf249.get krm rfl) (Eq.trans (hf9.get krm rfl) (Eq.trans (hf6.get krm rfl) (Eq.trans (hf3.get krm rfl) eG2.symm))))))))))
                      have hG2t : (I277 rm 2).toInt = G2.toInt := congrArg Int32.toInt hG2
                      have hG3 : I277 rm 3 = G3 := (Eq.trans (up2_at (Or.inr (by decide)) eI277) (Eq.trans (up2_kk eI273 hK266 krm (by omega)) (Eq.trans (up2_kk eI271 hk269 krm (by decide)) (Eq.trans (up2_kk eI268 hk266 krm (by omega)) (Eq.trans (up2_kk eI265 hk263 krm (by decide)) (Eq.trans (hf252.get krm rfl) (Eq.trans (hf249.get krm rfl) (Eq.trans (hf9.get krm rfl) (Eq.trans (hf6.get krm rfl) (Eq.trans (hf3.get krm rfl) eG3.symm))))))))))
                      have hG3t : (I277 rm 3).toInt = G3.toInt := congrArg Int32.toInt hG3
                      have hG4 : I277 rm 4 = G4 := (Eq.trans (up2_at (Or.inr (by decide)) eI277) (Eq.trans (up2_kk eI273 hK266 krm (by omega)) (Eq.trans (up2_kk eI271 hk269 krm (by decide)) (Eq.trans (up2_kk eI268 hk266 krm (by omega)) (Eq.trans (up2_kk eI265 hk263 krm (by decide)) (Eq.trans (hf252.get krm rfl) (Eq.trans (hf249.get krm rfl) (Eq.trans (hf9.get krm rfl) (Eq.trans (hf6.get krm rfl) (Eq.trans (hf3.get krm rfl) eG4.symm))))))))))
                      have hG4t : (I277 rm 4).toInt = G4.toInt := congrArg Int32.toInt hG4
                      have hG5 : I277 rm 5 = G5 := (Eq.trans (up2_at (Or.inr (by decide)) eI277) (Eq.trans (up2_kk eI273 hK266 krm (by omega)) (Eq.trans (up2_kk eI271 hk269 krm (by decide)) (Eq.trans (up2_kk eI268 hk266 krm (by omega)) (Eq.trans (up2_kk eI265 hk263 krm (by decide)) (Eq.trans (hf252.get krm rfl) (Eq.trans (hf249.get krm rfl) (Eq.trans (hf9.get krm rfl) (Eq.trans (hf6.get krm rfl) (Eq.trans (hf3.get krm rfl) eG5.symm))))))))))
                      have hG5t : (I277 rm 5).toInt = G5.toInt := congrArg Int32.toInt hG5
                      have hG6 : I277 rm 6 = G6 := (Eq.trans (up2_at (Or.inr (by decide)) eI277) (Eq.trans (up2_kk eI273 hK266 krm (by omega)) (Eq.trans (up2_kk eI271 hk269 krm (by decide)) (Eq.trans (up2_kk eI268 hk266 krm (by omega)) (Eq.trans (up2_kk eI265 hk263 krm (by decide)) (Eq.trans (hf252.get krm rfl) (Eq.trans (hf249.get krm rfl) (Eq.trans (hf9.get krm rfl) (Eq.trans (hf6.get krm rfl) (Eq.trans (hf3.get krm rfl) eG6.symm))))))))))
                      have hG6t : (I277 rm 6).toInt = G6.toInt := congrArg Int32.toInt hG6
                      have hG7 : I277 rm 7 = x276_ := (by rw [eI277]; exact up2_self _ _ _ _)
                      have hG7t : (I277 rm 7).toInt = x276_.toInt := congrArg Int32.toInt hG7
                      have hG8 : I277 rm 8 = G8 := (Eq.trans (up2_at (Or.inr (by decide)) eI277) (Eq.trans (up2_kk eI273 hK266 krm (by omega)) (Eq.trans (up2_kk eI271 hk269 krm (by decide)) (Eq.trans (up2_kk eI268 hk266 krm (by omega)) (Eq.trans (up2_kk eI265 hk263 krm (by decide)) (Eq.trans (hf252.get krm rfl) (Eq.trans (hf249.get krm rfl) (Eq.trans (hf9.get krm rfl) (Eq.trans (hf6.get krm rfl) (Eq.trans (hf3.get krm rfl) eG8.symm))))))))))
                      have hG8t : (I277 rm 8).toInt = G8.toInt := congrArg Int32.toInt hG8
                      have hG9 : I277 rm 9 = G9 := (Eq.trans (up2_at (Or.inr (by decide)) eI277) (Eq.trans (up2_kk eI273 hK266 krm (by omega)) (Eq.trans (up2_kk eI271 hk269 krm (by decide)) (Eq.trans (up2_kk eI268 hk266 krm (by omega)) (Eq.trans (up2_kk eI265 hk263 krm (by decide)) (Eq.trans (hf252.get krm rfl) (Eq.trans (hf249.get krm rfl) (Eq.trans (hf9.get krm rfl) (Eq.trans (hf6.get krm rfl) (Eq.trans (hf3.get krm rfl) eG9.symm))))))))))
                      have hG9t : (I277 rm 9).toInt = G9.toInt := congrArg Int32.toInt hG9
                      have hG10 : I277 rm 10 = N1 := (Eq.trans (up2_at (Or.inr (by decide)) eI277) (Eq.trans (up2_kk eI273 hK266 krm (by omega)) (Eq.trans (up2_kk eI271 hk269 krm (by decide)) (Eq.trans (up2_kk eI268 hk266 krm (by omega)) (Eq.trans (up2_kk eI265 hk263 krm (by decide)) (Eq.trans (hf252.get krm rfl) (Eq.trans (hf249.get krm rfl) (Eq.trans (hf9.get krm rfl) eN1.symm))))))))
                      have hG10t : (I277 rm 10).toInt = N1.toInt := congrArg Int32.toInt hG10
                      exact r_vret hC hQ hlk hr (by decide) (by decide) dX10_readStory_283 ⟨_, _, rfl, rfl, ⟨hs277, hF277, hFJ252, (by exact Or.inl ⟨_, _, by unfold sStory sMore; rw [pif_f hbg, hsp6, bnd_ok, hsp9, bnd_ok, pif_f (show ¬ sKind B n p9 = -1 by rw [hkn]; decide), hsp252, bnd_ok, pif_f (show ¬ sKind B n p9 = 2 by rw [hkn]; decide), pif_f (show ¬ sKind B n p9 = 3 by rw [hkn]; decide), pif_f (show ¬ sKind B n p9 = 4 by rw [hkn]; decide), bnd_ok], hp252, tkp277, ⟨sm.st (by omega) (by omega) (by omega) (by simp [upD, adN, aStory]) (by simp [upD, adN, aStory]) (by simp [upD, adN, aStory]) (by simp [upD, adN, aStory]) (by simp [upD, adN, aStory]; omega) (by simp [upD, adN, aStory]; omega) (by simp [upD, adN, aStory]; omega) (by simp [upD, adN, aStory]; omega) (by simp [upD, adN, aStory]; omega) (by simp [upD, adN, aStory]; omega) (by simp [upD, adN, aStory]; omega) (by simp [upD, adN, aStory]; omega), nm252.cg (by simp [upD, aStory]) (by intro j; simp [upD, aStory]), pg277.cg (by simp [upD, aStory]) (by intro j; simp [upD, aStory]) (by simp [upD, aStory]) (by intro j; simp [upD, aStory])⟩, ni277.cg (by simp [upD, aStory]) (by intro j; simp [upD, aStory]) (by simp [upD, aStory]) (by intro j; simp [upD, aStory]), rw277.sto (Int.toNat_of_nonneg nnz) (fun _ => rfl), fp277⟩), (by exact om277), (by exact oc277)⟩⟩
                    · rw [show x250_.toInt = 0 by omega, show x251_.toInt = 99 by omega] at hsp252
                      refine r_istore_n hC (lv' := [(3, .int x252_), (2, .int x246_), (1, .int x9_), (0, .ref a0)]) dX10_readStory_137 (by decide) rfl ?_
                      refine r_iload_n hC dX10_readStory_138 1 rfl ?_
                      refine r_iconst hC (v := (2)) dX10_readStory_139 (by decide) (by decide) (fun x278_ e278 t278 => ?_)
                      refine r_icmp_ne hC (tgt := 156) dX10_readStory_140 (by decide) (fun c279 => ?_) (fun c279 => ?_)
                      rotate_left
                      · exfalso; omega
                      refine r_iload_n hC dX10_readStory_156 1 rfl ?_
                      refine r_iconst hC (v := (3)) dX10_readStory_157 (by decide) (by decide) (fun x280_ e280 t280 => ?_)
                      refine r_icmp_ne hC (tgt := 175) dX10_readStory_158 (by decide) (fun c281 => ?_) (fun c281 => ?_)
                      rotate_left
                      · exfalso; omega
                      refine r_iload_n hC dX10_readStory_175 1 rfl ?_
                      refine r_iconst hC (v := (4)) dX10_readStory_176 (by decide) (by decide) (fun x282_ e282 t282 => ?_)
                      refine r_icmp_ne hC (tgt := 193) dX10_readStory_177 (by decide) (fun c283 => ?_) (fun c283 => ?_)
                      rotate_left
                      · exfalso; omega
                      refine r_iconst hC (v := (0)) dX10_readStory_193 (by decide) (by decide) (fun x284_ e284 t284 => ?_)
                      refine r_istore hC (lv' := [(4, .int x284_), (3, .int x252_), (2, .int x246_), (1, .int x9_), (0, .ref a0)]) dX10_readStory_194 (by decide) rfl ?_
                      refine r_aload_n hC dX10_readStory_196 4 rfl ?_
                      refine r_geti hC 9 (ci := 10) rfl u10_in (by decide) mT_5_4 dX10_readStory_197 ka0 rfl rfl (fun x285_ e285 => ?_)
                      have f285 : x285_.toInt = (I252 a0 9).toInt := by rw [e285]
                      refine r_iconst hC (v := (5)) dX10_readStory_200 (by decide) (by decide) (fun x286_ e286 t286 => ?_)
                      refine r_icmp_ne hC (tgt := 205) dX10_readStory_201 (by decide) (fun c287 => ?_) (fun c287 => ?_)
                      · exfalso; omega
                      have hG0 : I252 rm 0 = G0 := (Eq.trans (hf252.get krm rfl) (Eq.trans (hf249.get krm rfl) (Eq.trans (hf9.get krm rfl) (Eq.trans (hf6.get krm rfl) (Eq.trans (hf3.get krm rfl) eG0.symm)))))
                      have hG0t : (I252 rm 0).toInt = G0.toInt := congrArg Int32.toInt hG0
                      have hG1 : I252 rm 1 = G1 := (Eq.trans (hf252.get krm rfl) (Eq.trans (hf249.get krm rfl) (Eq.trans (hf9.get krm rfl) (Eq.trans (hf6.get krm rfl) (Eq.trans (hf3.get krm rfl) eG1.symm)))))
                      have hG1t : (I252 rm 1).toInt = G1.toInt := congrArg Int32.toInt hG1
                      have hG2 : I252 rm 2 = G2 := (Eq.trans (hf252.get krm rfl) (Eq.trans (hf249.get krm rfl) (Eq.trans (hf9.get krm rfl) (Eq.trans (hf6.get krm rfl) (Eq.trans (hf3.get krm rfl) eG2.symm)))))
                      have hG2t : (I252 rm 2).toInt = G2.toInt := congrArg Int32.toInt hG2
                      have hG3 : I252 rm 3 = G3 := (Eq.trans (hf252.get krm rfl) (Eq.trans (hf249.get krm rfl) (Eq.trans (hf9.get krm rfl) (Eq.trans (hf6.get krm rfl) (Eq.trans (hf3.get krm rfl) eG3.symm)))))
                      have hG3t : (I252 rm 3).toInt = G3.toInt := congrArg Int32.toInt hG3
                      have hG4 : I252 rm 4 = G4 := (Eq.trans (hf252.get krm rfl) (Eq.trans (hf249.get krm rfl) (Eq.trans (hf9.get krm rfl) (Eq.trans (hf6.get krm rfl) (Eq.trans (hf3.get krm rfl) eG4.symm)))))
                      have hG4t : (I252 rm 4).toInt = G4.toInt := congrArg Int32.toInt hG4
                      have hG5 : I252 rm 5 = G5 := (Eq.trans (hf252.get krm rfl) (Eq.trans (hf249.get krm rfl) (Eq.trans (hf9.get krm rfl) (Eq.trans (hf6.get krm rfl) (Eq.trans (hf3.get krm rfl) eG5.symm)))))
                      have hG5t : (I252 rm 5).toInt = G5.toInt := congrArg Int32.toInt hG5
                      have hG6 : I252 rm 6 = G6 := (Eq.trans (hf252.get krm rfl) (Eq.trans (hf249.get krm rfl) (Eq.trans (hf9.get krm rfl) (Eq.trans (hf6.get krm rfl) (Eq.trans (hf3.get krm rfl) eG6.symm)))))
                      have hG6t : (I252 rm 6).toInt = G6.toInt := congrArg Int32.toInt hG6
                      have hG7 : I252 rm 7 = x5_ := (Eq.trans (hf252.get krm rfl) (Eq.trans (hf249.get krm rfl) (Eq.trans (hf9.get krm rfl) (Eq.trans (hf6.get krm rfl) e5.symm))))
                      have hG7t : (I252 rm 7).toInt = x5_.toInt := congrArg Int32.toInt hG7
                      have hG8 : I252 rm 8 = G8 := (Eq.trans (hf252.get krm rfl) (Eq.trans (hf249.get krm rfl) (Eq.trans (hf9.get krm rfl) (Eq.trans (hf6.get krm rfl) (Eq.trans (hf3.get krm rfl) eG8.symm)))))
                      have hG8t : (I252 rm 8).toInt = G8.toInt := congrArg Int32.toInt hG8
                      have hG9 : I252 rm 9 = G9 := (Eq.trans (hf252.get krm rfl) (Eq.trans (hf249.get krm rfl) (Eq.trans (hf9.get krm rfl) (Eq.trans (hf6.get krm rfl) (Eq.trans (hf3.get krm rfl) eG9.symm)))))
                      have hG9t : (I252 rm 9).toInt = G9.toInt := congrArg Int32.toInt hG9
                      have hG10 : I252 rm 10 = N1 := (Eq.trans (hf252.get krm rfl) (Eq.trans (hf249.get krm rfl) (Eq.trans (hf9.get krm rfl) eN1.symm)))
                      have hG10t : (I252 rm 10).toInt = N1.toInt := congrArg Int32.toInt hG10
                      exact r_vret hC hQ hlk hr (by decide) (by decide) dX10_readStory_204 ⟨_, _, rfl, rfl, ⟨hs252, hF252, hFJ252, (by exact Or.inr ⟨kf252, qf252, by unfold sStory sMore; rw [pif_f hbg, hsp6, bnd_ok, hsp9, bnd_ok, pif_f (show ¬ sKind B n p9 = -1 by rw [hkn]; decide), hsp252, bnd_er], by omega, by omega, by omega⟩), (by exact om252), (by exact oc252)⟩⟩
                  · refine r_if_eq hC (tgt := 114) dX10_readStory_107 (by decide) (fun c288 => ?_) (fun c288 => ?_)
                    rotate_left
                    · exfalso; omega
                    refine r_iconst hC (v := (-1)) dX10_readStory_114 (by decide) (by decide) (fun x289_ e289 t289 => ?_)
                    have hkn : sKind B n p9 = -1 := by unfold sKind; rw [pif_f (show ¬ isW B n p9 15 from hw10), pif_f (show ¬ isW B n p9 16 from hw55), pif_f (show ¬ isW B n p9 17 from hw100), pif_f (show ¬ isW B n p9 18 from hw144), pif_f (show ¬ isW B n p9 19 from hw192), pif_f (show ¬ isW B n p9 20 from hw244)]
                    refine r_istore_n hC (lv' := [(2, .int x289_), (1, .int x9_), (0, .ref a0)]) dX10_readStory_115 (by decide) rfl ?_
                    refine r_iload_n hC dX10_readStory_116 0 rfl ?_
                    refine r_iconst hC (v := (-1)) dX10_readStory_117 (by decide) (by decide) (fun x290_ e290 t290 => ?_)
                    refine r_icmp_ne hC (tgt := 126) dX10_readStory_118 (by decide) (fun c291 => ?_) (fun c291 => ?_)
                    · exfalso; omega
                    refine r_aload_n hC dX10_readStory_121 2 rfl ?_
                    refine r_iconst hC (v := (1)) dX10_readStory_122 (by decide) (by decide) (fun x292_ e292 t292 => ?_)
                    refine r_callV hC (As := [.int x292_]) (rest := []) (ci := 10) (f_X10_wrong g (xL X) K len I9 J9 R hs9 a0 ka0 x292_ (tk9.e5)) mT_5_236 mT_1_10 mT_5_233 mT_5_235 mP_55 okX10_wrong ⟨by decide, by decide⟩ rfl (by show kO (K a0) = _; rw [ka0]; rfl) rfl rfl (Nat.le_of_ble_eq_true rfl) ⟨by decide, by decide⟩ dX10_readStory_123 (aV1 (F := fun st M => P g X 5 126 [(2, .int x289_), (1, .int x9_), (0, .ref a0)] st _ _ M) (M := (K, len, I9, J9, R)) fun I293 h293 => ?_)
                    obtain ⟨hs293, hf293, k293_0, k293_1, k293_2⟩ := h293
                    show P g X 5 126 [(2, .int x289_), (1, .int x9_), (0, .ref a0)] [] _ _ (K, len, I293, J9, R)
                    have hF293 : Fr K [(10, 7), (10, 10), (11, 8), (11, 9), (11, 10), (11, 11), (11, 12), (11, 13), (75, 999), (76, 999), (83, 999), (84, 999), (1000, 999)] I I293 := hF9.trans hf293 rfl rfl
                    have pg293 := pg9.mv hf293 kns (fun _ => rfl)
                    have oc293 := oc9.mv qM_big hf293 rfl
                    have rw293 := rw9.mv hcx qM_big hf293 rfl
                    have om293 := om9.mv hf293 rfl
                    have ni293 := ni9.mv hf293 kns knn (fun _ => rfl) (fun _ => rfl)
                    have hwp293 := tk9.2.1
                    refine r_aload_n hC dX10_readStory_126 2 rfl ?_
                    refine r_callV hC (As := []) (rest := []) (ci := 10) (e_X10_goesOn g (xL X) K len I293 J9 R hs293 a0 ka0 (by omega)) mT_5_199 mT_1_10 mT_5_196 mT_5_198 mP_49 okX10_goesOn ⟨by decide, by decide⟩ rfl (by show kO (K a0) = _; rw [ka0]; rfl) rfl rfl (Nat.le_of_ble_eq_true rfl) ⟨by decide, by decide⟩ dX10_readStory_127 (aV2 (F := fun st M => P g X 5 130 [(2, .int x289_), (1, .int x9_), (0, .ref a0)] st _ _ M) (M := (K, len, I293, J9, R)) fun I294 J294 h294 => ?_)
                    obtain ⟨hs294, hf294, hfj294, k294_0, k294_1, k294_2⟩ := h294
                    show P g X 5 130 [(2, .int x289_), (1, .int x9_), (0, .ref a0)] [] _ _ (K, len, I294, J294, R)
                    have hF294 : Fr K [(10, 7), (10, 10), (11, 8), (11, 9), (11, 10), (11, 11), (11, 12), (11, 13), (75, 999), (76, 999), (83, 999), (84, 999), (1000, 999)] I I294 := hF293.trans hf294 rfl rfl
                    have hFJ294 : Fr K [(11, 14), (82, 999)] J J294 := hFJ9.trans hfj294 rfl rfl
                    have oc294 := oc293.mv qM_big hf294 rfl
                    have om294 := om293.mv hf294 rfl
                    refine r_aload_n hC dX10_readStory_130 2 rfl ?_
                    refine r_iconst hC (v := (0)) dX10_readStory_131 (by decide) (by decide) (fun x295_ e295 t295 => ?_)
                    refine r_bipush hC (v := (99)) dX10_readStory_132 (by decide) (by decide) (fun x296_ e296 t296 => ?_)
                    refine r_callV hC (As := [.int x295_, .int x296_]) (rest := []) (ci := 10) (e_X10_readWhole g (xL X) K len I294 J294 R hs294 a0 ka0 x295_ x296_ (by omega)) mT_6_5 mT_1_10 mT_6_2 mT_6_4 mP_57 okX10_readWhole ⟨by decide, by decide⟩ rfl (by show kO (K a0) = _; rw [ka0]; rfl) rfl rfl (Nat.le_of_ble_eq_true rfl) ⟨by decide, by decide⟩ dX10_readStory_134 (aI2 (F := fun st M => P g X 5 137 [(2, .int x289_), (1, .int x9_), (0, .ref a0)] st _ _ M) (M := (K, len, I294, J294, R)) fun x297_ I297 J297 h297 => ?_)
                    obtain ⟨hs297, hf297, hfj297, k297_0, k297_1, k297_2⟩ := h297
                    show P g X 5 137 [(2, .int x289_), (1, .int x9_), (0, .ref a0)] [.int x297_] _ _ (K, len, I297, J297, R)
                    have hF297 : Fr K [(10, 7), (10, 10), (11, 8), (11, 9), (11, 10), (11, 11), (11, 12), (11, 13), (75, 999), (76, 999), (83, 999), (84, 999), (1000, 999)] I I297 := hF294.trans hf297 rfl rfl
                    have hFJ297 : Fr K [(11, 14), (82, 999)] J J297 := hFJ294.trans hfj297 rfl rfl
                    have oc297 := oc294.mv qM_big hf297 rfl
                    have om297 := om294.mv hf297 rfl
                    refine r_istore_n hC (lv' := [(3, .int x297_), (2, .int x289_), (1, .int x9_), (0, .ref a0)]) dX10_readStory_137 (by decide) rfl ?_
                    refine r_iload_n hC dX10_readStory_138 1 rfl ?_
                    refine r_iconst hC (v := (2)) dX10_readStory_139 (by decide) (by decide) (fun x298_ e298 t298 => ?_)
                    refine r_icmp_ne hC (tgt := 156) dX10_readStory_140 (by decide) (fun c299 => ?_) (fun c299 => ?_)
                    rotate_left
                    · exfalso; omega
                    refine r_iload_n hC dX10_readStory_156 1 rfl ?_
                    refine r_iconst hC (v := (3)) dX10_readStory_157 (by decide) (by decide) (fun x300_ e300 t300 => ?_)
                    refine r_icmp_ne hC (tgt := 175) dX10_readStory_158 (by decide) (fun c301 => ?_) (fun c301 => ?_)
                    rotate_left
                    · exfalso; omega
                    refine r_iload_n hC dX10_readStory_175 1 rfl ?_
                    refine r_iconst hC (v := (4)) dX10_readStory_176 (by decide) (by decide) (fun x302_ e302 t302 => ?_)
                    refine r_icmp_ne hC (tgt := 193) dX10_readStory_177 (by decide) (fun c303 => ?_) (fun c303 => ?_)
                    rotate_left
                    · exfalso; omega
                    refine r_iconst hC (v := (0)) dX10_readStory_193 (by decide) (by decide) (fun x304_ e304 t304 => ?_)
                    refine r_istore hC (lv' := [(4, .int x304_), (3, .int x297_), (2, .int x289_), (1, .int x9_), (0, .ref a0)]) dX10_readStory_194 (by decide) rfl ?_
                    refine r_aload_n hC dX10_readStory_196 4 rfl ?_
                    refine r_geti hC 9 (ci := 10) rfl u10_in (by decide) mT_5_4 dX10_readStory_197 ka0 rfl rfl (fun x305_ e305 => ?_)
                    have f305 : x305_.toInt = (I297 a0 9).toInt := by rw [e305]
                    refine r_iconst hC (v := (5)) dX10_readStory_200 (by decide) (by decide) (fun x306_ e306 t306 => ?_)
                    refine r_icmp_ne hC (tgt := 205) dX10_readStory_201 (by decide) (fun c307 => ?_) (fun c307 => ?_)
                    · exfalso; omega
                    have hG0 : I297 rm 0 = G0 := (Eq.trans (hf297.get krm rfl) (Eq.trans (hf294.get krm rfl) (Eq.trans (hf293.get krm rfl) (Eq.trans (hf9.get krm rfl) (Eq.trans (hf6.get krm rfl) (Eq.trans (hf3.get krm rfl) eG0.symm))))))
                    have hG0t : (I297 rm 0).toInt = G0.toInt := congrArg Int32.toInt hG0
                    have hG1 : I297 rm 1 = G1 := (Eq.trans (hf297.get krm rfl) (Eq.trans (hf294.get krm rfl) (Eq.trans (hf293.get krm rfl) (Eq.trans (hf9.get krm rfl) (Eq.trans (hf6.get krm rfl) (Eq.trans (hf3.get krm rfl) eG1.symm))))))
                    have hG1t : (I297 rm 1).toInt = G1.toInt := congrArg Int32.toInt hG1
                    have hG2 : I297 rm 2 = G2 := (Eq.trans (hf297.get krm rfl) (Eq.trans (hf294.get krm rfl) (Eq.trans (hf293.get krm rfl) (Eq.trans (hf9.get krm rfl) (Eq.trans (hf6.get krm rfl) (Eq.trans (hf3.get krm rfl) eG2.symm))))))
                    have hG2t : (I297 rm 2).toInt = G2.toInt := congrArg Int32.toInt hG2
                    have hG3 : I297 rm 3 = G3 := (Eq.trans (hf297.get krm rfl) (Eq.trans (hf294.get krm rfl) (Eq.trans (hf293.get krm rfl) (Eq.trans (hf9.get krm rfl) (Eq.trans (hf6.get krm rfl) (Eq.trans (hf3.get krm rfl) eG3.symm))))))
                    have hG3t : (I297 rm 3).toInt = G3.toInt := congrArg Int32.toInt hG3
                    have hG4 : I297 rm 4 = G4 := (Eq.trans (hf297.get krm rfl) (Eq.trans (hf294.get krm rfl) (Eq.trans (hf293.get krm rfl) (Eq.trans (hf9.get krm rfl) (Eq.trans (hf6.get krm rfl) (Eq.trans (hf3.get krm rfl) eG4.symm))))))
                    have hG4t : (I297 rm 4).toInt = G4.toInt := congrArg Int32.toInt hG4
                    have hG5 : I297 rm 5 = G5 := (Eq.trans (hf297.get krm rfl) (Eq.trans (hf294.get krm rfl) (Eq.trans (hf293.get krm rfl) (Eq.trans (hf9.get krm rfl) (Eq.trans (hf6.get krm rfl) (Eq.trans (hf3.get krm rfl) eG5.symm))))))
                    have hG5t : (I297 rm 5).toInt = G5.toInt := congrArg Int32.toInt hG5
                    have hG6 : I297 rm 6 = G6 := (Eq.trans (hf297.get krm rfl) (Eq.trans (hf294.get krm rfl) (Eq.trans (hf293.get krm rfl) (Eq.trans (hf9.get krm rfl) (Eq.trans (hf6.get krm rfl) (Eq.trans (hf3.get krm rfl) eG6.symm))))))
                    have hG6t : (I297 rm 6).toInt = G6.toInt := congrArg Int32.toInt hG6
                    have hG7 : I297 rm 7 = x5_ := (Eq.trans (hf297.get krm rfl) (Eq.trans (hf294.get krm rfl) (Eq.trans (hf293.get krm rfl) (Eq.trans (hf9.get krm rfl) (Eq.trans (hf6.get krm rfl) e5.symm)))))
                    have hG7t : (I297 rm 7).toInt = x5_.toInt := congrArg Int32.toInt hG7
                    have hG8 : I297 rm 8 = G8 := (Eq.trans (hf297.get krm rfl) (Eq.trans (hf294.get krm rfl) (Eq.trans (hf293.get krm rfl) (Eq.trans (hf9.get krm rfl) (Eq.trans (hf6.get krm rfl) (Eq.trans (hf3.get krm rfl) eG8.symm))))))
                    have hG8t : (I297 rm 8).toInt = G8.toInt := congrArg Int32.toInt hG8
                    have hG9 : I297 rm 9 = G9 := (Eq.trans (hf297.get krm rfl) (Eq.trans (hf294.get krm rfl) (Eq.trans (hf293.get krm rfl) (Eq.trans (hf9.get krm rfl) (Eq.trans (hf6.get krm rfl) (Eq.trans (hf3.get krm rfl) eG9.symm))))))
                    have hG9t : (I297 rm 9).toInt = G9.toInt := congrArg Int32.toInt hG9
                    have hG10 : I297 rm 10 = N1 := (Eq.trans (hf297.get krm rfl) (Eq.trans (hf294.get krm rfl) (Eq.trans (hf293.get krm rfl) (Eq.trans (hf9.get krm rfl) eN1.symm))))
                    have hG10t : (I297 rm 10).toInt = N1.toInt := congrArg Int32.toInt hG10
                    exact r_vret hC hQ hlk hr (by decide) (by decide) dX10_readStory_204 ⟨_, _, rfl, rfl, ⟨hs297, hF297, hFJ297, (by exact Or.inr ⟨1, (pl B n p9), by unfold sStory sMore; rw [pif_f hbg, hsp6, bnd_ok, hsp9, bnd_ok, pif_t (show  sKind B n p9 = -1 from hkn)], by omega, by omega, by omega⟩), (by exact om297), (by exact oc297)⟩⟩
      · rw [show x7_.toInt = 1 by omega, show x8_.toInt = 99 by omega] at hsp9
        refine r_istore_n hC (lv' := [(1, .int x9_), (0, .ref a0)]) dX10_readStory_34 (by decide) rfl ?_
        refine r_aload_n hC dX10_readStory_35 1 rfl ?_
        refine r_ldcS hC (i := 46) (by decide) rfl rfl dX10_readStory_36 ?_
        refine r_callV hC (As := [.ref (g.2.2.1 46)]) (rest := []) (ci := 10) (e_X10_isWord g (xL X) K len I9 J9 R hs9 a0 ka0 46 (by decide) (by omega)) mT_5_223 mT_1_10 mT_5_220 mT_5_222 mP_53 okX10_isWord ⟨by decide, by decide⟩ rfl (by show kO (K a0) = _; rw [ka0]; rfl) rfl rfl (Nat.le_of_ble_eq_true rfl) ⟨by decide, by decide⟩ dX10_readStory_38 (aI0 (F := fun st M => P g X 5 41 [(1, .int x9_), (0, .ref a0)] st _ _ M) (M := (K, len, I9, J9, R)) fun x308_ h308 => ?_)
        have k308_0 := h308
        clear h308
        show P g X 5 41 [(1, .int x9_), (0, .ref a0)] [.int x308_] _ _ (K, len, I9, J9, R)
        refine r_if_eq hC (tgt := 48) dX10_readStory_41 (by decide) (fun c309 => ?_) (fun c309 => ?_)
        rotate_left
        · exfalso; omega
        refine r_aload_n hC dX10_readStory_48 1 rfl ?_
        refine r_ldcS hC (i := 47) (by decide) rfl rfl dX10_readStory_49 ?_
        refine r_callV hC (As := [.ref (g.2.2.1 47)]) (rest := []) (ci := 10) (e_X10_isWord g (xL X) K len I9 J9 R hs9 a0 ka0 47 (by decide) (by omega)) mT_5_223 mT_1_10 mT_5_220 mT_5_222 mP_53 okX10_isWord ⟨by decide, by decide⟩ rfl (by show kO (K a0) = _; rw [ka0]; rfl) rfl rfl (Nat.le_of_ble_eq_true rfl) ⟨by decide, by decide⟩ dX10_readStory_51 (aI0 (F := fun st M => P g X 5 54 [(1, .int x9_), (0, .ref a0)] st _ _ M) (M := (K, len, I9, J9, R)) fun x310_ h310 => ?_)
        have k310_0 := h310
        clear h310
        show P g X 5 54 [(1, .int x9_), (0, .ref a0)] [.int x310_] _ _ (K, len, I9, J9, R)
        refine r_if_eq hC (tgt := 61) dX10_readStory_54 (by decide) (fun c311 => ?_) (fun c311 => ?_)
        rotate_left
        · exfalso; omega
        refine r_aload_n hC dX10_readStory_61 1 rfl ?_
        refine r_ldcS hC (i := 48) (by decide) rfl rfl dX10_readStory_62 ?_
        refine r_callV hC (As := [.ref (g.2.2.1 48)]) (rest := []) (ci := 10) (e_X10_isWord g (xL X) K len I9 J9 R hs9 a0 ka0 48 (by decide) (by omega)) mT_5_223 mT_1_10 mT_5_220 mT_5_222 mP_53 okX10_isWord ⟨by decide, by decide⟩ rfl (by show kO (K a0) = _; rw [ka0]; rfl) rfl rfl (Nat.le_of_ble_eq_true rfl) ⟨by decide, by decide⟩ dX10_readStory_64 (aI0 (F := fun st M => P g X 5 67 [(1, .int x9_), (0, .ref a0)] st _ _ M) (M := (K, len, I9, J9, R)) fun x312_ h312 => ?_)
        have k312_0 := h312
        clear h312
        show P g X 5 67 [(1, .int x9_), (0, .ref a0)] [.int x312_] _ _ (K, len, I9, J9, R)
        refine r_if_eq hC (tgt := 74) dX10_readStory_67 (by decide) (fun c313 => ?_) (fun c313 => ?_)
        rotate_left
        · exfalso; omega
        refine r_aload_n hC dX10_readStory_74 1 rfl ?_
        refine r_ldcS hC (i := 49) (by decide) rfl rfl dX10_readStory_75 ?_
        refine r_callV hC (As := [.ref (g.2.2.1 49)]) (rest := []) (ci := 10) (e_X10_isWord g (xL X) K len I9 J9 R hs9 a0 ka0 49 (by decide) (by omega)) mT_5_223 mT_1_10 mT_5_220 mT_5_222 mP_53 okX10_isWord ⟨by decide, by decide⟩ rfl (by show kO (K a0) = _; rw [ka0]; rfl) rfl rfl (Nat.le_of_ble_eq_true rfl) ⟨by decide, by decide⟩ dX10_readStory_77 (aI0 (F := fun st M => P g X 5 80 [(1, .int x9_), (0, .ref a0)] st _ _ M) (M := (K, len, I9, J9, R)) fun x314_ h314 => ?_)
        have k314_0 := h314
        clear h314
        show P g X 5 80 [(1, .int x9_), (0, .ref a0)] [.int x314_] _ _ (K, len, I9, J9, R)
        refine r_if_eq hC (tgt := 87) dX10_readStory_80 (by decide) (fun c315 => ?_) (fun c315 => ?_)
        rotate_left
        · exfalso; omega
        refine r_aload_n hC dX10_readStory_87 1 rfl ?_
        refine r_ldcS hC (i := 50) (by decide) rfl rfl dX10_readStory_88 ?_
        refine r_callV hC (As := [.ref (g.2.2.1 50)]) (rest := []) (ci := 10) (e_X10_isWord g (xL X) K len I9 J9 R hs9 a0 ka0 50 (by decide) (by omega)) mT_5_223 mT_1_10 mT_5_220 mT_5_222 mP_53 okX10_isWord ⟨by decide, by decide⟩ rfl (by show kO (K a0) = _; rw [ka0]; rfl) rfl rfl (Nat.le_of_ble_eq_true rfl) ⟨by decide, by decide⟩ dX10_readStory_90 (aI0 (F := fun st M => P g X 5 93 [(1, .int x9_), (0, .ref a0)] st _ _ M) (M := (K, len, I9, J9, R)) fun x316_ h316 => ?_)
        have k316_0 := h316
        clear h316
        show P g X 5 93 [(1, .int x9_), (0, .ref a0)] [.int x316_] _ _ (K, len, I9, J9, R)
        refine r_if_eq hC (tgt := 100) dX10_readStory_93 (by decide) (fun c317 => ?_) (fun c317 => ?_)
        rotate_left
        · exfalso; omega
        refine r_aload_n hC dX10_readStory_100 1 rfl ?_
        refine r_ldcwS hC (i := 51) (by decide) rfl rfl dX10_readStory_101 ?_
        refine r_callV hC (As := [.ref (g.2.2.1 51)]) (rest := []) (ci := 10) (e_X10_isWord g (xL X) K len I9 J9 R hs9 a0 ka0 51 (by decide) (by omega)) mT_5_223 mT_1_10 mT_5_220 mT_5_222 mP_53 okX10_isWord ⟨by decide, by decide⟩ rfl (by show kO (K a0) = _; rw [ka0]; rfl) rfl rfl (Nat.le_of_ble_eq_true rfl) ⟨by decide, by decide⟩ dX10_readStory_104 (aI0 (F := fun st M => P g X 5 107 [(1, .int x9_), (0, .ref a0)] st _ _ M) (M := (K, len, I9, J9, R)) fun x318_ h318 => ?_)
        have k318_0 := h318
        clear h318
        show P g X 5 107 [(1, .int x9_), (0, .ref a0)] [.int x318_] _ _ (K, len, I9, J9, R)
        refine r_if_eq hC (tgt := 114) dX10_readStory_107 (by decide) (fun c319 => ?_) (fun c319 => ?_)
        rotate_left
        · exfalso; omega
        refine r_iconst hC (v := (-1)) dX10_readStory_114 (by decide) (by decide) (fun x320_ e320 t320 => ?_)
        refine r_istore_n hC (lv' := [(2, .int x320_), (1, .int x9_), (0, .ref a0)]) dX10_readStory_115 (by decide) rfl ?_
        refine r_iload_n hC dX10_readStory_116 0 rfl ?_
        refine r_iconst hC (v := (-1)) dX10_readStory_117 (by decide) (by decide) (fun x321_ e321 t321 => ?_)
        refine r_icmp_ne hC (tgt := 126) dX10_readStory_118 (by decide) (fun c322 => ?_) (fun c322 => ?_)
        · exfalso; omega
        refine r_aload_n hC dX10_readStory_121 2 rfl ?_
        refine r_iconst hC (v := (1)) dX10_readStory_122 (by decide) (by decide) (fun x323_ e323 t323 => ?_)
        refine r_callV hC (As := [.int x323_]) (rest := []) (ci := 10) (e_X10_wrong g (xL X) K len I9 J9 R hs9 a0 ka0 x323_ (by omega)) mT_5_236 mT_1_10 mT_5_233 mT_5_235 mP_55 okX10_wrong ⟨by decide, by decide⟩ rfl (by show kO (K a0) = _; rw [ka0]; rfl) rfl rfl (Nat.le_of_ble_eq_true rfl) ⟨by decide, by decide⟩ dX10_readStory_123 (aV1 (F := fun st M => P g X 5 126 [(2, .int x320_), (1, .int x9_), (0, .ref a0)] st _ _ M) (M := (K, len, I9, J9, R)) fun I324 h324 => ?_)
        obtain ⟨hs324, hf324, k324_0, k324_1, k324_2⟩ := h324
        show P g X 5 126 [(2, .int x320_), (1, .int x9_), (0, .ref a0)] [] _ _ (K, len, I324, J9, R)
        have hF324 : Fr K [(10, 7), (10, 10), (11, 8), (11, 9), (11, 10), (11, 11), (11, 12), (11, 13), (75, 999), (76, 999), (83, 999), (84, 999), (1000, 999)] I I324 := hF9.trans hf324 rfl rfl
        have oc324 := oc9.mv qM_big hf324 rfl
        have om324 := om9.mv hf324 rfl
        refine r_aload_n hC dX10_readStory_126 2 rfl ?_
        refine r_callV hC (As := []) (rest := []) (ci := 10) (e_X10_goesOn g (xL X) K len I324 J9 R hs324 a0 ka0 (by omega)) mT_5_199 mT_1_10 mT_5_196 mT_5_198 mP_49 okX10_goesOn ⟨by decide, by decide⟩ rfl (by show kO (K a0) = _; rw [ka0]; rfl) rfl rfl (Nat.le_of_ble_eq_true rfl) ⟨by decide, by decide⟩ dX10_readStory_127 (aV2 (F := fun st M => P g X 5 130 [(2, .int x320_), (1, .int x9_), (0, .ref a0)] st _ _ M) (M := (K, len, I324, J9, R)) fun I325 J325 h325 => ?_)
        obtain ⟨hs325, hf325, hfj325, k325_0, k325_1, k325_2⟩ := h325
        show P g X 5 130 [(2, .int x320_), (1, .int x9_), (0, .ref a0)] [] _ _ (K, len, I325, J325, R)
        have hF325 : Fr K [(10, 7), (10, 10), (11, 8), (11, 9), (11, 10), (11, 11), (11, 12), (11, 13), (75, 999), (76, 999), (83, 999), (84, 999), (1000, 999)] I I325 := hF324.trans hf325 rfl rfl
        have hFJ325 : Fr K [(11, 14), (82, 999)] J J325 := hFJ9.trans hfj325 rfl rfl
        have oc325 := oc324.mv qM_big hf325 rfl
        have om325 := om324.mv hf325 rfl
        refine r_aload_n hC dX10_readStory_130 2 rfl ?_
        refine r_iconst hC (v := (0)) dX10_readStory_131 (by decide) (by decide) (fun x326_ e326 t326 => ?_)
        refine r_bipush hC (v := (99)) dX10_readStory_132 (by decide) (by decide) (fun x327_ e327 t327 => ?_)
        refine r_callV hC (As := [.int x326_, .int x327_]) (rest := []) (ci := 10) (e_X10_readWhole g (xL X) K len I325 J325 R hs325 a0 ka0 x326_ x327_ (by omega)) mT_6_5 mT_1_10 mT_6_2 mT_6_4 mP_57 okX10_readWhole ⟨by decide, by decide⟩ rfl (by show kO (K a0) = _; rw [ka0]; rfl) rfl rfl (Nat.le_of_ble_eq_true rfl) ⟨by decide, by decide⟩ dX10_readStory_134 (aI2 (F := fun st M => P g X 5 137 [(2, .int x320_), (1, .int x9_), (0, .ref a0)] st _ _ M) (M := (K, len, I325, J325, R)) fun x328_ I328 J328 h328 => ?_)
        obtain ⟨hs328, hf328, hfj328, k328_0, k328_1, k328_2⟩ := h328
        show P g X 5 137 [(2, .int x320_), (1, .int x9_), (0, .ref a0)] [.int x328_] _ _ (K, len, I328, J328, R)
        have hF328 : Fr K [(10, 7), (10, 10), (11, 8), (11, 9), (11, 10), (11, 11), (11, 12), (11, 13), (75, 999), (76, 999), (83, 999), (84, 999), (1000, 999)] I I328 := hF325.trans hf328 rfl rfl
        have hFJ328 : Fr K [(11, 14), (82, 999)] J J328 := hFJ325.trans hfj328 rfl rfl
        have oc328 := oc325.mv qM_big hf328 rfl
        have om328 := om325.mv hf328 rfl
        refine r_istore_n hC (lv' := [(3, .int x328_), (2, .int x320_), (1, .int x9_), (0, .ref a0)]) dX10_readStory_137 (by decide) rfl ?_
        refine r_iload_n hC dX10_readStory_138 1 rfl ?_
        refine r_iconst hC (v := (2)) dX10_readStory_139 (by decide) (by decide) (fun x329_ e329 t329 => ?_)
        refine r_icmp_ne hC (tgt := 156) dX10_readStory_140 (by decide) (fun c330 => ?_) (fun c330 => ?_)
        rotate_left
        · exfalso; omega
        refine r_iload_n hC dX10_readStory_156 1 rfl ?_
        refine r_iconst hC (v := (3)) dX10_readStory_157 (by decide) (by decide) (fun x331_ e331 t331 => ?_)
        refine r_icmp_ne hC (tgt := 175) dX10_readStory_158 (by decide) (fun c332 => ?_) (fun c332 => ?_)
        rotate_left
        · exfalso; omega
        refine r_iload_n hC dX10_readStory_175 1 rfl ?_
        refine r_iconst hC (v := (4)) dX10_readStory_176 (by decide) (by decide) (fun x333_ e333 t333 => ?_)
        refine r_icmp_ne hC (tgt := 193) dX10_readStory_177 (by decide) (fun c334 => ?_) (fun c334 => ?_)
        rotate_left
        · exfalso; omega
        refine r_iconst hC (v := (0)) dX10_readStory_193 (by decide) (by decide) (fun x335_ e335 t335 => ?_)
        refine r_istore hC (lv' := [(4, .int x335_), (3, .int x328_), (2, .int x320_), (1, .int x9_), (0, .ref a0)]) dX10_readStory_194 (by decide) rfl ?_
        refine r_aload_n hC dX10_readStory_196 4 rfl ?_
        refine r_geti hC 9 (ci := 10) rfl u10_in (by decide) mT_5_4 dX10_readStory_197 ka0 rfl rfl (fun x336_ e336 => ?_)
        have f336 : x336_.toInt = (I328 a0 9).toInt := by rw [e336]
        refine r_iconst hC (v := (5)) dX10_readStory_200 (by decide) (by decide) (fun x337_ e337 t337 => ?_)
        refine r_icmp_ne hC (tgt := 205) dX10_readStory_201 (by decide) (fun c338 => ?_) (fun c338 => ?_)
        · exfalso; omega
        have hG0 : I328 rm 0 = G0 := (Eq.trans (hf328.get krm rfl) (Eq.trans (hf325.get krm rfl) (Eq.trans (hf324.get krm rfl) (Eq.trans (hf9.get krm rfl) (Eq.trans (hf6.get krm rfl) (Eq.trans (hf3.get krm rfl) eG0.symm))))))
        have hG0t : (I328 rm 0).toInt = G0.toInt := congrArg Int32.toInt hG0
        have hG1 : I328 rm 1 = G1 := (Eq.trans (hf328.get krm rfl) (Eq.trans (hf325.get krm rfl) (Eq.trans (hf324.get krm rfl) (Eq.trans (hf9.get krm rfl) (Eq.trans (hf6.get krm rfl) (Eq.trans (hf3.get krm rfl) eG1.symm))))))
        have hG1t : (I328 rm 1).toInt = G1.toInt := congrArg Int32.toInt hG1
        have hG2 : I328 rm 2 = G2 := (Eq.trans (hf328.get krm rfl) (Eq.trans (hf325.get krm rfl) (Eq.trans (hf324.get krm rfl) (Eq.trans (hf9.get krm rfl) (Eq.trans (hf6.get krm rfl) (Eq.trans (hf3.get krm rfl) eG2.symm))))))
        have hG2t : (I328 rm 2).toInt = G2.toInt := congrArg Int32.toInt hG2
        have hG3 : I328 rm 3 = G3 := (Eq.trans (hf328.get krm rfl) (Eq.trans (hf325.get krm rfl) (Eq.trans (hf324.get krm rfl) (Eq.trans (hf9.get krm rfl) (Eq.trans (hf6.get krm rfl) (Eq.trans (hf3.get krm rfl) eG3.symm))))))
        have hG3t : (I328 rm 3).toInt = G3.toInt := congrArg Int32.toInt hG3
        have hG4 : I328 rm 4 = G4 := (Eq.trans (hf328.get krm rfl) (Eq.trans (hf325.get krm rfl) (Eq.trans (hf324.get krm rfl) (Eq.trans (hf9.get krm rfl) (Eq.trans (hf6.get krm rfl) (Eq.trans (hf3.get krm rfl) eG4.symm))))))
        have hG4t : (I328 rm 4).toInt = G4.toInt := congrArg Int32.toInt hG4
        have hG5 : I328 rm 5 = G5 := (Eq.trans (hf328.get krm rfl) (Eq.trans (hf325.get krm rfl) (Eq.trans (hf324.get krm rfl) (Eq.trans (hf9.get krm rfl) (Eq.trans (hf6.get krm rfl) (Eq.trans (hf3.get krm rfl) eG5.symm))))))
        have hG5t : (I328 rm 5).toInt = G5.toInt := congrArg Int32.toInt hG5
        have hG6 : I328 rm 6 = G6 := (Eq.trans (hf328.get krm rfl) (Eq.trans (hf325.get krm rfl) (Eq.trans (hf324.get krm rfl) (Eq.trans (hf9.get krm rfl) (Eq.trans (hf6.get krm rfl) (Eq.trans (hf3.get krm rfl) eG6.symm))))))
        have hG6t : (I328 rm 6).toInt = G6.toInt := congrArg Int32.toInt hG6
        have hG7 : I328 rm 7 = x5_ := (Eq.trans (hf328.get krm rfl) (Eq.trans (hf325.get krm rfl) (Eq.trans (hf324.get krm rfl) (Eq.trans (hf9.get krm rfl) (Eq.trans (hf6.get krm rfl) e5.symm)))))
        have hG7t : (I328 rm 7).toInt = x5_.toInt := congrArg Int32.toInt hG7
        have hG8 : I328 rm 8 = G8 := (Eq.trans (hf328.get krm rfl) (Eq.trans (hf325.get krm rfl) (Eq.trans (hf324.get krm rfl) (Eq.trans (hf9.get krm rfl) (Eq.trans (hf6.get krm rfl) (Eq.trans (hf3.get krm rfl) eG8.symm))))))
        have hG8t : (I328 rm 8).toInt = G8.toInt := congrArg Int32.toInt hG8
        have hG9 : I328 rm 9 = G9 := (Eq.trans (hf328.get krm rfl) (Eq.trans (hf325.get krm rfl) (Eq.trans (hf324.get krm rfl) (Eq.trans (hf9.get krm rfl) (Eq.trans (hf6.get krm rfl) (Eq.trans (hf3.get krm rfl) eG9.symm))))))
        have hG9t : (I328 rm 9).toInt = G9.toInt := congrArg Int32.toInt hG9
        have hG10 : I328 rm 10 = N1 := (Eq.trans (hf328.get krm rfl) (Eq.trans (hf325.get krm rfl) (Eq.trans (hf324.get krm rfl) (Eq.trans (hf9.get krm rfl) eN1.symm))))
        have hG10t : (I328 rm 10).toInt = N1.toInt := congrArg Int32.toInt hG10
        exact r_vret hC hQ hlk hr (by decide) (by decide) dX10_readStory_204 ⟨_, _, rfl, rfl, ⟨hs328, hF328, hFJ328, (by exact Or.inr ⟨kf9, qf9, by unfold sStory sMore; rw [pif_f hbg, hsp6, bnd_ok, hsp9, bnd_er], by omega, by omega, by omega⟩), (by exact om328), (by exact oc328)⟩⟩
    · obtain ⟨N1, eN1⟩ : ∃ z : Int32, z = I6 rm 10 := ⟨_, rfl⟩
      have fN1 : N1.toInt = (I6 rm 10).toInt := by rw [eN1]
      have rN1 := hs6.rng krm rfl eN1
      refine r_aload_n hC dX10_readStory_25 0 rfl ?_
      refine r_ldcS hC (i := 45) (by decide) rfl rfl dX10_readStory_26 ?_
      refine r_iconst hC (v := (1)) dX10_readStory_28 (by decide) (by decide) (fun x339_ e339 t339 => ?_)
      refine r_bipush hC (v := (99)) dX10_readStory_29 (by decide) (by decide) (fun x340_ e340 t340 => ?_)
      refine r_callV hC (As := [.ref (g.2.2.1 45), .int x339_, .int x340_]) (rest := []) (ci := 10) (e_X10_readPart g (xL X) K len I6 J6 R hs6 a0 ka0 45 (by decide) x339_ x340_ (by omega)) mT_6_1 mT_1_10 mT_5_238 mT_6_0 mP_56 okX10_readPart ⟨by decide, by decide⟩ rfl (by show kO (K a0) = _; rw [ka0]; rfl) rfl rfl (Nat.le_of_ble_eq_true rfl) ⟨by decide, by decide⟩ dX10_readStory_31 (aI2 (F := fun st M => P g X 5 34 [(0, .ref a0)] st _ _ M) (M := (K, len, I6, J6, R)) fun x341_ I341 J341 h341 => ?_)
      obtain ⟨hs341, hf341, hfj341, k341_0, k341_1, k341_2⟩ := h341
      show P g X 5 34 [(0, .ref a0)] [.int x341_] _ _ (K, len, I341, J341, R)
      have hF341 : Fr K [(10, 7), (10, 10), (11, 8), (11, 9), (11, 10), (11, 11), (11, 12), (11, 13), (75, 999), (76, 999), (83, 999), (84, 999), (1000, 999)] I I341 := hF6.trans hf341 rfl rfl
      have hFJ341 : Fr K [(11, 14), (82, 999)] J J341 := hFJ6.trans hfj341 rfl rfl
      have oc341 := oc6.mv qM_big hf341 rfl
      have om341 := om6.mv hf341 rfl
      refine r_istore_n hC (lv' := [(1, .int x341_), (0, .ref a0)]) dX10_readStory_34 (by decide) rfl ?_
      refine r_aload_n hC dX10_readStory_35 1 rfl ?_
      refine r_ldcS hC (i := 46) (by decide) rfl rfl dX10_readStory_36 ?_
      refine r_callV hC (As := [.ref (g.2.2.1 46)]) (rest := []) (ci := 10) (e_X10_isWord g (xL X) K len I341 J341 R hs341 a0 ka0 46 (by decide) (by omega)) mT_5_223 mT_1_10 mT_5_220 mT_5_222 mP_53 okX10_isWord ⟨by decide, by decide⟩ rfl (by show kO (K a0) = _; rw [ka0]; rfl) rfl rfl (Nat.le_of_ble_eq_true rfl) ⟨by decide, by decide⟩ dX10_readStory_38 (aI0 (F := fun st M => P g X 5 41 [(1, .int x341_), (0, .ref a0)] st _ _ M) (M := (K, len, I341, J341, R)) fun x342_ h342 => ?_)
      have k342_0 := h342
      clear h342
      show P g X 5 41 [(1, .int x341_), (0, .ref a0)] [.int x342_] _ _ (K, len, I341, J341, R)
      refine r_if_eq hC (tgt := 48) dX10_readStory_41 (by decide) (fun c343 => ?_) (fun c343 => ?_)
      rotate_left
      · exfalso; omega
      refine r_aload_n hC dX10_readStory_48 1 rfl ?_
      refine r_ldcS hC (i := 47) (by decide) rfl rfl dX10_readStory_49 ?_
      refine r_callV hC (As := [.ref (g.2.2.1 47)]) (rest := []) (ci := 10) (e_X10_isWord g (xL X) K len I341 J341 R hs341 a0 ka0 47 (by decide) (by omega)) mT_5_223 mT_1_10 mT_5_220 mT_5_222 mP_53 okX10_isWord ⟨by decide, by decide⟩ rfl (by show kO (K a0) = _; rw [ka0]; rfl) rfl rfl (Nat.le_of_ble_eq_true rfl) ⟨by decide, by decide⟩ dX10_readStory_51 (aI0 (F := fun st M => P g X 5 54 [(1, .int x341_), (0, .ref a0)] st _ _ M) (M := (K, len, I341, J341, R)) fun x344_ h344 => ?_)
      have k344_0 := h344
      clear h344
      show P g X 5 54 [(1, .int x341_), (0, .ref a0)] [.int x344_] _ _ (K, len, I341, J341, R)
      refine r_if_eq hC (tgt := 61) dX10_readStory_54 (by decide) (fun c345 => ?_) (fun c345 => ?_)
      rotate_left
      · exfalso; omega
      refine r_aload_n hC dX10_readStory_61 1 rfl ?_
      refine r_ldcS hC (i := 48) (by decide) rfl rfl dX10_readStory_62 ?_
      refine r_callV hC (As := [.ref (g.2.2.1 48)]) (rest := []) (ci := 10) (e_X10_isWord g (xL X) K len I341 J341 R hs341 a0 ka0 48 (by decide) (by omega)) mT_5_223 mT_1_10 mT_5_220 mT_5_222 mP_53 okX10_isWord ⟨by decide, by decide⟩ rfl (by show kO (K a0) = _; rw [ka0]; rfl) rfl rfl (Nat.le_of_ble_eq_true rfl) ⟨by decide, by decide⟩ dX10_readStory_64 (aI0 (F := fun st M => P g X 5 67 [(1, .int x341_), (0, .ref a0)] st _ _ M) (M := (K, len, I341, J341, R)) fun x346_ h346 => ?_)
      have k346_0 := h346
      clear h346
      show P g X 5 67 [(1, .int x341_), (0, .ref a0)] [.int x346_] _ _ (K, len, I341, J341, R)
      refine r_if_eq hC (tgt := 74) dX10_readStory_67 (by decide) (fun c347 => ?_) (fun c347 => ?_)
      rotate_left
      · exfalso; omega
      refine r_aload_n hC dX10_readStory_74 1 rfl ?_
      refine r_ldcS hC (i := 49) (by decide) rfl rfl dX10_readStory_75 ?_
      refine r_callV hC (As := [.ref (g.2.2.1 49)]) (rest := []) (ci := 10) (e_X10_isWord g (xL X) K len I341 J341 R hs341 a0 ka0 49 (by decide) (by omega)) mT_5_223 mT_1_10 mT_5_220 mT_5_222 mP_53 okX10_isWord ⟨by decide, by decide⟩ rfl (by show kO (K a0) = _; rw [ka0]; rfl) rfl rfl (Nat.le_of_ble_eq_true rfl) ⟨by decide, by decide⟩ dX10_readStory_77 (aI0 (F := fun st M => P g X 5 80 [(1, .int x341_), (0, .ref a0)] st _ _ M) (M := (K, len, I341, J341, R)) fun x348_ h348 => ?_)
      have k348_0 := h348
      clear h348
      show P g X 5 80 [(1, .int x341_), (0, .ref a0)] [.int x348_] _ _ (K, len, I341, J341, R)
      refine r_if_eq hC (tgt := 87) dX10_readStory_80 (by decide) (fun c349 => ?_) (fun c349 => ?_)
      rotate_left
      · exfalso; omega
      refine r_aload_n hC dX10_readStory_87 1 rfl ?_
      refine r_ldcS hC (i := 50) (by decide) rfl rfl dX10_readStory_88 ?_
      refine r_callV hC (As := [.ref (g.2.2.1 50)]) (rest := []) (ci := 10) (e_X10_isWord g (xL X) K len I341 J341 R hs341 a0 ka0 50 (by decide) (by omega)) mT_5_223 mT_1_10 mT_5_220 mT_5_222 mP_53 okX10_isWord ⟨by decide, by decide⟩ rfl (by show kO (K a0) = _; rw [ka0]; rfl) rfl rfl (Nat.le_of_ble_eq_true rfl) ⟨by decide, by decide⟩ dX10_readStory_90 (aI0 (F := fun st M => P g X 5 93 [(1, .int x341_), (0, .ref a0)] st _ _ M) (M := (K, len, I341, J341, R)) fun x350_ h350 => ?_)
      have k350_0 := h350
      clear h350
      show P g X 5 93 [(1, .int x341_), (0, .ref a0)] [.int x350_] _ _ (K, len, I341, J341, R)
      refine r_if_eq hC (tgt := 100) dX10_readStory_93 (by decide) (fun c351 => ?_) (fun c351 => ?_)
      rotate_left
      · exfalso; omega
      refine r_aload_n hC dX10_readStory_100 1 rfl ?_
      refine r_ldcwS hC (i := 51) (by decide) rfl rfl dX10_readStory_101 ?_
      refine r_callV hC (As := [.ref (g.2.2.1 51)]) (rest := []) (ci := 10) (e_X10_isWord g (xL X) K len I341 J341 R hs341 a0 ka0 51 (by decide) (by omega)) mT_5_223 mT_1_10 mT_5_220 mT_5_222 mP_53 okX10_isWord ⟨by decide, by decide⟩ rfl (by show kO (K a0) = _; rw [ka0]; rfl) rfl rfl (Nat.le_of_ble_eq_true rfl) ⟨by decide, by decide⟩ dX10_readStory_104 (aI0 (F := fun st M => P g X 5 107 [(1, .int x341_), (0, .ref a0)] st _ _ M) (M := (K, len, I341, J341, R)) fun x352_ h352 => ?_)
      have k352_0 := h352
      clear h352
      show P g X 5 107 [(1, .int x341_), (0, .ref a0)] [.int x352_] _ _ (K, len, I341, J341, R)
      refine r_if_eq hC (tgt := 114) dX10_readStory_107 (by decide) (fun c353 => ?_) (fun c353 => ?_)
      rotate_left
      · exfalso; omega
      refine r_iconst hC (v := (-1)) dX10_readStory_114 (by decide) (by decide) (fun x354_ e354 t354 => ?_)
      refine r_istore_n hC (lv' := [(2, .int x354_), (1, .int x341_), (0, .ref a0)]) dX10_readStory_115 (by decide) rfl ?_
      refine r_iload_n hC dX10_readStory_116 0 rfl ?_
      refine r_iconst hC (v := (-1)) dX10_readStory_117 (by decide) (by decide) (fun x355_ e355 t355 => ?_)
      refine r_icmp_ne hC (tgt := 126) dX10_readStory_118 (by decide) (fun c356 => ?_) (fun c356 => ?_)
      · exfalso; omega
      refine r_aload_n hC dX10_readStory_121 2 rfl ?_
      refine r_iconst hC (v := (1)) dX10_readStory_122 (by decide) (by decide) (fun x357_ e357 t357 => ?_)
      refine r_callV hC (As := [.int x357_]) (rest := []) (ci := 10) (e_X10_wrong g (xL X) K len I341 J341 R hs341 a0 ka0 x357_ (by omega)) mT_5_236 mT_1_10 mT_5_233 mT_5_235 mP_55 okX10_wrong ⟨by decide, by decide⟩ rfl (by show kO (K a0) = _; rw [ka0]; rfl) rfl rfl (Nat.le_of_ble_eq_true rfl) ⟨by decide, by decide⟩ dX10_readStory_123 (aV1 (F := fun st M => P g X 5 126 [(2, .int x354_), (1, .int x341_), (0, .ref a0)] st _ _ M) (M := (K, len, I341, J341, R)) fun I358 h358 => ?_)
      obtain ⟨hs358, hf358, k358_0, k358_1, k358_2⟩ := h358
      show P g X 5 126 [(2, .int x354_), (1, .int x341_), (0, .ref a0)] [] _ _ (K, len, I358, J341, R)
      have hF358 : Fr K [(10, 7), (10, 10), (11, 8), (11, 9), (11, 10), (11, 11), (11, 12), (11, 13), (75, 999), (76, 999), (83, 999), (84, 999), (1000, 999)] I I358 := hF341.trans hf358 rfl rfl
      have oc358 := oc341.mv qM_big hf358 rfl
      have om358 := om341.mv hf358 rfl
      refine r_aload_n hC dX10_readStory_126 2 rfl ?_
      refine r_callV hC (As := []) (rest := []) (ci := 10) (e_X10_goesOn g (xL X) K len I358 J341 R hs358 a0 ka0 (by omega)) mT_5_199 mT_1_10 mT_5_196 mT_5_198 mP_49 okX10_goesOn ⟨by decide, by decide⟩ rfl (by show kO (K a0) = _; rw [ka0]; rfl) rfl rfl (Nat.le_of_ble_eq_true rfl) ⟨by decide, by decide⟩ dX10_readStory_127 (aV2 (F := fun st M => P g X 5 130 [(2, .int x354_), (1, .int x341_), (0, .ref a0)] st _ _ M) (M := (K, len, I358, J341, R)) fun I359 J359 h359 => ?_)
      obtain ⟨hs359, hf359, hfj359, k359_0, k359_1, k359_2⟩ := h359
      show P g X 5 130 [(2, .int x354_), (1, .int x341_), (0, .ref a0)] [] _ _ (K, len, I359, J359, R)
      have hF359 : Fr K [(10, 7), (10, 10), (11, 8), (11, 9), (11, 10), (11, 11), (11, 12), (11, 13), (75, 999), (76, 999), (83, 999), (84, 999), (1000, 999)] I I359 := hF358.trans hf359 rfl rfl
      have hFJ359 : Fr K [(11, 14), (82, 999)] J J359 := hFJ341.trans hfj359 rfl rfl
      have oc359 := oc358.mv qM_big hf359 rfl
      have om359 := om358.mv hf359 rfl
      refine r_aload_n hC dX10_readStory_130 2 rfl ?_
      refine r_iconst hC (v := (0)) dX10_readStory_131 (by decide) (by decide) (fun x360_ e360 t360 => ?_)
      refine r_bipush hC (v := (99)) dX10_readStory_132 (by decide) (by decide) (fun x361_ e361 t361 => ?_)
      refine r_callV hC (As := [.int x360_, .int x361_]) (rest := []) (ci := 10) (e_X10_readWhole g (xL X) K len I359 J359 R hs359 a0 ka0 x360_ x361_ (by omega)) mT_6_5 mT_1_10 mT_6_2 mT_6_4 mP_57 okX10_readWhole ⟨by decide, by decide⟩ rfl (by show kO (K a0) = _; rw [ka0]; rfl) rfl rfl (Nat.le_of_ble_eq_true rfl) ⟨by decide, by decide⟩ dX10_readStory_134 (aI2 (F := fun st M => P g X 5 137 [(2, .int x354_), (1, .int x341_), (0, .ref a0)] st _ _ M) (M := (K, len, I359, J359, R)) fun x362_ I362 J362 h362 => ?_)
      obtain ⟨hs362, hf362, hfj362, k362_0, k362_1, k362_2⟩ := h362
      show P g X 5 137 [(2, .int x354_), (1, .int x341_), (0, .ref a0)] [.int x362_] _ _ (K, len, I362, J362, R)
      have hF362 : Fr K [(10, 7), (10, 10), (11, 8), (11, 9), (11, 10), (11, 11), (11, 12), (11, 13), (75, 999), (76, 999), (83, 999), (84, 999), (1000, 999)] I I362 := hF359.trans hf362 rfl rfl
      have hFJ362 : Fr K [(11, 14), (82, 999)] J J362 := hFJ359.trans hfj362 rfl rfl
      have oc362 := oc359.mv qM_big hf362 rfl
      have om362 := om359.mv hf362 rfl
      refine r_istore_n hC (lv' := [(3, .int x362_), (2, .int x354_), (1, .int x341_), (0, .ref a0)]) dX10_readStory_137 (by decide) rfl ?_
      refine r_iload_n hC dX10_readStory_138 1 rfl ?_
      refine r_iconst hC (v := (2)) dX10_readStory_139 (by decide) (by decide) (fun x363_ e363 t363 => ?_)
      refine r_icmp_ne hC (tgt := 156) dX10_readStory_140 (by decide) (fun c364 => ?_) (fun c364 => ?_)
      rotate_left
      · exfalso; omega
      refine r_iload_n hC dX10_readStory_156 1 rfl ?_
      refine r_iconst hC (v := (3)) dX10_readStory_157 (by decide) (by decide) (fun x365_ e365 t365 => ?_)
      refine r_icmp_ne hC (tgt := 175) dX10_readStory_158 (by decide) (fun c366 => ?_) (fun c366 => ?_)
      rotate_left
      · exfalso; omega
      refine r_iload_n hC dX10_readStory_175 1 rfl ?_
      refine r_iconst hC (v := (4)) dX10_readStory_176 (by decide) (by decide) (fun x367_ e367 t367 => ?_)
      refine r_icmp_ne hC (tgt := 193) dX10_readStory_177 (by decide) (fun c368 => ?_) (fun c368 => ?_)
      rotate_left
      · exfalso; omega
      refine r_iconst hC (v := (0)) dX10_readStory_193 (by decide) (by decide) (fun x369_ e369 t369 => ?_)
      refine r_istore hC (lv' := [(4, .int x369_), (3, .int x362_), (2, .int x354_), (1, .int x341_), (0, .ref a0)]) dX10_readStory_194 (by decide) rfl ?_
      refine r_aload_n hC dX10_readStory_196 4 rfl ?_
      refine r_geti hC 9 (ci := 10) rfl u10_in (by decide) mT_5_4 dX10_readStory_197 ka0 rfl rfl (fun x370_ e370 => ?_)
      have f370 : x370_.toInt = (I362 a0 9).toInt := by rw [e370]
      refine r_iconst hC (v := (5)) dX10_readStory_200 (by decide) (by decide) (fun x371_ e371 t371 => ?_)
      refine r_icmp_ne hC (tgt := 205) dX10_readStory_201 (by decide) (fun c372 => ?_) (fun c372 => ?_)
      · exfalso; omega
      have hG0 : I362 rm 0 = G0 := (Eq.trans (hf362.get krm rfl) (Eq.trans (hf359.get krm rfl) (Eq.trans (hf358.get krm rfl) (Eq.trans (hf341.get krm rfl) (Eq.trans (hf6.get krm rfl) (Eq.trans (hf3.get krm rfl) eG0.symm))))))
      have hG0t : (I362 rm 0).toInt = G0.toInt := congrArg Int32.toInt hG0
      have hG1 : I362 rm 1 = G1 := (Eq.trans (hf362.get krm rfl) (Eq.trans (hf359.get krm rfl) (Eq.trans (hf358.get krm rfl) (Eq.trans (hf341.get krm rfl) (Eq.trans (hf6.get krm rfl) (Eq.trans (hf3.get krm rfl) eG1.symm))))))
      have hG1t : (I362 rm 1).toInt = G1.toInt := congrArg Int32.toInt hG1
      have hG2 : I362 rm 2 = G2 := (Eq.trans (hf362.get krm rfl) (Eq.trans (hf359.get krm rfl) (Eq.trans (hf358.get krm rfl) (Eq.trans (hf341.get krm rfl) (Eq.trans (hf6.get krm rfl) (Eq.trans (hf3.get krm rfl) eG2.symm))))))
      have hG2t : (I362 rm 2).toInt = G2.toInt := congrArg Int32.toInt hG2
      have hG3 : I362 rm 3 = G3 := (Eq.trans (hf362.get krm rfl) (Eq.trans (hf359.get krm rfl) (Eq.trans (hf358.get krm rfl) (Eq.trans (hf341.get krm rfl) (Eq.trans (hf6.get krm rfl) (Eq.trans (hf3.get krm rfl) eG3.symm))))))
      have hG3t : (I362 rm 3).toInt = G3.toInt := congrArg Int32.toInt hG3
      have hG4 : I362 rm 4 = G4 := (Eq.trans (hf362.get krm rfl) (Eq.trans (hf359.get krm rfl) (Eq.trans (hf358.get krm rfl) (Eq.trans (hf341.get krm rfl) (Eq.trans (hf6.get krm rfl) (Eq.trans (hf3.get krm rfl) eG4.symm))))))
      have hG4t : (I362 rm 4).toInt = G4.toInt := congrArg Int32.toInt hG4
      have hG5 : I362 rm 5 = G5 := (Eq.trans (hf362.get krm rfl) (Eq.trans (hf359.get krm rfl) (Eq.trans (hf358.get krm rfl) (Eq.trans (hf341.get krm rfl) (Eq.trans (hf6.get krm rfl) (Eq.trans (hf3.get krm rfl) eG5.symm))))))
      have hG5t : (I362 rm 5).toInt = G5.toInt := congrArg Int32.toInt hG5
      have hG6 : I362 rm 6 = G6 := (Eq.trans (hf362.get krm rfl) (Eq.trans (hf359.get krm rfl) (Eq.trans (hf358.get krm rfl) (Eq.trans (hf341.get krm rfl) (Eq.trans (hf6.get krm rfl) (Eq.trans (hf3.get krm rfl) eG6.symm))))))
      have hG6t : (I362 rm 6).toInt = G6.toInt := congrArg Int32.toInt hG6
      have hG7 : I362 rm 7 = x5_ := (Eq.trans (hf362.get krm rfl) (Eq.trans (hf359.get krm rfl) (Eq.trans (hf358.get krm rfl) (Eq.trans (hf341.get krm rfl) (Eq.trans (hf6.get krm rfl) e5.symm)))))
      have hG7t : (I362 rm 7).toInt = x5_.toInt := congrArg Int32.toInt hG7
      have hG8 : I362 rm 8 = G8 := (Eq.trans (hf362.get krm rfl) (Eq.trans (hf359.get krm rfl) (Eq.trans (hf358.get krm rfl) (Eq.trans (hf341.get krm rfl) (Eq.trans (hf6.get krm rfl) (Eq.trans (hf3.get krm rfl) eG8.symm))))))
      have hG8t : (I362 rm 8).toInt = G8.toInt := congrArg Int32.toInt hG8
      have hG9 : I362 rm 9 = G9 := (Eq.trans (hf362.get krm rfl) (Eq.trans (hf359.get krm rfl) (Eq.trans (hf358.get krm rfl) (Eq.trans (hf341.get krm rfl) (Eq.trans (hf6.get krm rfl) (Eq.trans (hf3.get krm rfl) eG9.symm))))))
      have hG9t : (I362 rm 9).toInt = G9.toInt := congrArg Int32.toInt hG9
      have hG10 : I362 rm 10 = N1 := (Eq.trans (hf362.get krm rfl) (Eq.trans (hf359.get krm rfl) (Eq.trans (hf358.get krm rfl) (Eq.trans (hf341.get krm rfl) eN1.symm))))
      have hG10t : (I362 rm 10).toInt = N1.toInt := congrArg Int32.toInt hG10
      exact r_vret hC hQ hlk hr (by decide) (by decide) dX10_readStory_204 ⟨_, _, rfl, rfl, ⟨hs362, hF362, hFJ362, (by exact Or.inr ⟨kf6, qf6, by unfold sStory sMore; rw [pif_f hbg, hsp6, bnd_er], by omega, by omega, by omega⟩), (by exact om362), (by exact oc362)⟩⟩
  · have hbg : 6 ≤ D 0 7 := by omega
    refine r_aload_n hC dX10_readStory_13 0 rfl ?_
    refine r_iconst hC (v := (1)) dX10_readStory_14 (by decide) (by decide) (fun x373_ e373 t373 => ?_)
    refine r_aload_n hC dX10_readStory_15 0 rfl ?_
    refine r_getr hC 4 (ci := 10) rfl u10_in (by decide) mT_4_239 dX10_readStory_16 ka0 rfl rfl hbr ?_
    refine r_getiN hC 7 (ci := 9) rfl u9_in (by decide) nF_7 dX10_readStory_19 krm rfl rfl (fun x374_ e374 => ?_)
    have r374 := hs3.rng krm rfl e374
    have f374 : x374_.toInt = (I3 rm 7).toInt := by rw [e374]
    have w374 : x374_ = x1_ := by rw [e374]; exact (Eq.trans (hf3.get krm rfl) e1.symm)
    have wt374 : x374_.toInt = x1_.toInt := by rw [w374]
    have q10 : I3 rm 10 = G10 := (Eq.trans (hf3.get krm rfl) eG10.symm)
    have q10t : (I3 rm 10).toInt = G10.toInt := congrArg Int32.toInt q10
    refine r_callV hC (As := [.int x373_, .int x374_]) (rest := []) (ci := 10) (e_X10_readFresh g (xL X) K len I3 J3 R hs3 a0 ka0 x373_ x374_ rm hbr krm (by omega)) mT_6_23 mT_1_10 mT_6_20 mT_6_22 mP_60 okX10_readFresh ⟨by decide, by decide⟩ rfl (by show kO (K a0) = _; rw [ka0]; rfl) rfl rfl (Nat.le_of_ble_eq_true rfl) ⟨by decide, by decide⟩ dX10_readStory_22 (aV2 (F := fun st M => P g X 5 25 [(0, .ref a0)] st _ _ M) (M := (K, len, I3, J3, R)) fun I375 J375 h375 => ?_)
    obtain ⟨hs375, hf375, hfj375, k375_0, k375_1, k375_2, k375_3⟩ := h375
    show P g X 5 25 [(0, .ref a0)] [] _ _ (K, len, I375, J375, R)
    have hF375 : Fr K [(10, 7), (10, 10), (11, 8), (11, 9), (11, 10), (11, 11), (11, 12), (11, 13), (75, 999), (76, 999), (83, 999), (84, 999), (1000, 999)] I I375 := hF3.trans hf375 rfl rfl
    have hFJ375 : Fr K [(11, 14), (82, 999)] J J375 := hFJ3.trans hfj375 rfl rfl
    have oc375 := oc3.mv qM_big hf375 rfl
    have om375 := om3.tr k375_3
    obtain ⟨N1, eN1⟩ : ∃ z : Int32, z = I375 rm 10 := ⟨_, rfl⟩
    have fN1 : N1.toInt = (I375 rm 10).toInt := by rw [eN1]
    have rN1 := hs375.rng krm rfl eN1
    refine r_aload_n hC dX10_readStory_25 0 rfl ?_
    refine r_ldcS hC (i := 45) (by decide) rfl rfl dX10_readStory_26 ?_
    refine r_iconst hC (v := (1)) dX10_readStory_28 (by decide) (by decide) (fun x376_ e376 t376 => ?_)
    refine r_bipush hC (v := (99)) dX10_readStory_29 (by decide) (by decide) (fun x377_ e377 t377 => ?_)
    refine r_callV hC (As := [.ref (g.2.2.1 45), .int x376_, .int x377_]) (rest := []) (ci := 10) (e_X10_readPart g (xL X) K len I375 J375 R hs375 a0 ka0 45 (by decide) x376_ x377_ (by omega)) mT_6_1 mT_1_10 mT_5_238 mT_6_0 mP_56 okX10_readPart ⟨by decide, by decide⟩ rfl (by show kO (K a0) = _; rw [ka0]; rfl) rfl rfl (Nat.le_of_ble_eq_true rfl) ⟨by decide, by decide⟩ dX10_readStory_31 (aI2 (F := fun st M => P g X 5 34 [(0, .ref a0)] st _ _ M) (M := (K, len, I375, J375, R)) fun x378_ I378 J378 h378 => ?_)
    obtain ⟨hs378, hf378, hfj378, k378_0, k378_1, k378_2⟩ := h378
    show P g X 5 34 [(0, .ref a0)] [.int x378_] _ _ (K, len, I378, J378, R)
    have hF378 : Fr K [(10, 7), (10, 10), (11, 8), (11, 9), (11, 10), (11, 11), (11, 12), (11, 13), (75, 999), (76, 999), (83, 999), (84, 999), (1000, 999)] I I378 := hF375.trans hf378 rfl rfl
    have hFJ378 : Fr K [(11, 14), (82, 999)] J J378 := hFJ375.trans hfj378 rfl rfl
    have oc378 := oc375.mv qM_big hf378 rfl
    have om378 := om375.mv hf378 rfl
    refine r_istore_n hC (lv' := [(1, .int x378_), (0, .ref a0)]) dX10_readStory_34 (by decide) rfl ?_
    refine r_aload_n hC dX10_readStory_35 1 rfl ?_
    refine r_ldcS hC (i := 46) (by decide) rfl rfl dX10_readStory_36 ?_
    refine r_callV hC (As := [.ref (g.2.2.1 46)]) (rest := []) (ci := 10) (e_X10_isWord g (xL X) K len I378 J378 R hs378 a0 ka0 46 (by decide) (by omega)) mT_5_223 mT_1_10 mT_5_220 mT_5_222 mP_53 okX10_isWord ⟨by decide, by decide⟩ rfl (by show kO (K a0) = _; rw [ka0]; rfl) rfl rfl (Nat.le_of_ble_eq_true rfl) ⟨by decide, by decide⟩ dX10_readStory_38 (aI0 (F := fun st M => P g X 5 41 [(1, .int x378_), (0, .ref a0)] st _ _ M) (M := (K, len, I378, J378, R)) fun x379_ h379 => ?_)
    have k379_0 := h379
    clear h379
    show P g X 5 41 [(1, .int x378_), (0, .ref a0)] [.int x379_] _ _ (K, len, I378, J378, R)
    refine r_if_eq hC (tgt := 48) dX10_readStory_41 (by decide) (fun c380 => ?_) (fun c380 => ?_)
    rotate_left
    · exfalso; omega
    refine r_aload_n hC dX10_readStory_48 1 rfl ?_
    refine r_ldcS hC (i := 47) (by decide) rfl rfl dX10_readStory_49 ?_
    refine r_callV hC (As := [.ref (g.2.2.1 47)]) (rest := []) (ci := 10) (e_X10_isWord g (xL X) K len I378 J378 R hs378 a0 ka0 47 (by decide) (by omega)) mT_5_223 mT_1_10 mT_5_220 mT_5_222 mP_53 okX10_isWord ⟨by decide, by decide⟩ rfl (by show kO (K a0) = _; rw [ka0]; rfl) rfl rfl (Nat.le_of_ble_eq_true rfl) ⟨by decide, by decide⟩ dX10_readStory_51 (aI0 (F := fun st M => P g X 5 54 [(1, .int x378_), (0, .ref a0)] st _ _ M) (M := (K, len, I378, J378, R)) fun x381_ h381 => ?_)
    have k381_0 := h381
    clear h381
    show P g X 5 54 [(1, .int x378_), (0, .ref a0)] [.int x381_] _ _ (K, len, I378, J378, R)
    refine r_if_eq hC (tgt := 61) dX10_readStory_54 (by decide) (fun c382 => ?_) (fun c382 => ?_)
    rotate_left
    · exfalso; omega
    refine r_aload_n hC dX10_readStory_61 1 rfl ?_
    refine r_ldcS hC (i := 48) (by decide) rfl rfl dX10_readStory_62 ?_
    refine r_callV hC (As := [.ref (g.2.2.1 48)]) (rest := []) (ci := 10) (e_X10_isWord g (xL X) K len I378 J378 R hs378 a0 ka0 48 (by decide) (by omega)) mT_5_223 mT_1_10 mT_5_220 mT_5_222 mP_53 okX10_isWord ⟨by decide, by decide⟩ rfl (by show kO (K a0) = _; rw [ka0]; rfl) rfl rfl (Nat.le_of_ble_eq_true rfl) ⟨by decide, by decide⟩ dX10_readStory_64 (aI0 (F := fun st M => P g X 5 67 [(1, .int x378_), (0, .ref a0)] st _ _ M) (M := (K, len, I378, J378, R)) fun x383_ h383 => ?_)
    have k383_0 := h383
    clear h383
    show P g X 5 67 [(1, .int x378_), (0, .ref a0)] [.int x383_] _ _ (K, len, I378, J378, R)
    refine r_if_eq hC (tgt := 74) dX10_readStory_67 (by decide) (fun c384 => ?_) (fun c384 => ?_)
    rotate_left
    · exfalso; omega
    refine r_aload_n hC dX10_readStory_74 1 rfl ?_
    refine r_ldcS hC (i := 49) (by decide) rfl rfl dX10_readStory_75 ?_
    refine r_callV hC (As := [.ref (g.2.2.1 49)]) (rest := []) (ci := 10) (e_X10_isWord g (xL X) K len I378 J378 R hs378 a0 ka0 49 (by decide) (by omega)) mT_5_223 mT_1_10 mT_5_220 mT_5_222 mP_53 okX10_isWord ⟨by decide, by decide⟩ rfl (by show kO (K a0) = _; rw [ka0]; rfl) rfl rfl (Nat.le_of_ble_eq_true rfl) ⟨by decide, by decide⟩ dX10_readStory_77 (aI0 (F := fun st M => P g X 5 80 [(1, .int x378_), (0, .ref a0)] st _ _ M) (M := (K, len, I378, J378, R)) fun x385_ h385 => ?_)
    have k385_0 := h385
    clear h385
    show P g X 5 80 [(1, .int x378_), (0, .ref a0)] [.int x385_] _ _ (K, len, I378, J378, R)
    refine r_if_eq hC (tgt := 87) dX10_readStory_80 (by decide) (fun c386 => ?_) (fun c386 => ?_)
    rotate_left
    · exfalso; omega
    refine r_aload_n hC dX10_readStory_87 1 rfl ?_
    refine r_ldcS hC (i := 50) (by decide) rfl rfl dX10_readStory_88 ?_
    refine r_callV hC (As := [.ref (g.2.2.1 50)]) (rest := []) (ci := 10) (e_X10_isWord g (xL X) K len I378 J378 R hs378 a0 ka0 50 (by decide) (by omega)) mT_5_223 mT_1_10 mT_5_220 mT_5_222 mP_53 okX10_isWord ⟨by decide, by decide⟩ rfl (by show kO (K a0) = _; rw [ka0]; rfl) rfl rfl (Nat.le_of_ble_eq_true rfl) ⟨by decide, by decide⟩ dX10_readStory_90 (aI0 (F := fun st M => P g X 5 93 [(1, .int x378_), (0, .ref a0)] st _ _ M) (M := (K, len, I378, J378, R)) fun x387_ h387 => ?_)
    have k387_0 := h387
    clear h387
    show P g X 5 93 [(1, .int x378_), (0, .ref a0)] [.int x387_] _ _ (K, len, I378, J378, R)
    refine r_if_eq hC (tgt := 100) dX10_readStory_93 (by decide) (fun c388 => ?_) (fun c388 => ?_)
    rotate_left
    · exfalso; omega
    refine r_aload_n hC dX10_readStory_100 1 rfl ?_
    refine r_ldcwS hC (i := 51) (by decide) rfl rfl dX10_readStory_101 ?_
    refine r_callV hC (As := [.ref (g.2.2.1 51)]) (rest := []) (ci := 10) (e_X10_isWord g (xL X) K len I378 J378 R hs378 a0 ka0 51 (by decide) (by omega)) mT_5_223 mT_1_10 mT_5_220 mT_5_222 mP_53 okX10_isWord ⟨by decide, by decide⟩ rfl (by show kO (K a0) = _; rw [ka0]; rfl) rfl rfl (Nat.le_of_ble_eq_true rfl) ⟨by decide, by decide⟩ dX10_readStory_104 (aI0 (F := fun st M => P g X 5 107 [(1, .int x378_), (0, .ref a0)] st _ _ M) (M := (K, len, I378, J378, R)) fun x389_ h389 => ?_)
    have k389_0 := h389
    clear h389
    show P g X 5 107 [(1, .int x378_), (0, .ref a0)] [.int x389_] _ _ (K, len, I378, J378, R)
    refine r_if_eq hC (tgt := 114) dX10_readStory_107 (by decide) (fun c390 => ?_) (fun c390 => ?_)
    rotate_left
    · exfalso; omega
    refine r_iconst hC (v := (-1)) dX10_readStory_114 (by decide) (by decide) (fun x391_ e391 t391 => ?_)
    refine r_istore_n hC (lv' := [(2, .int x391_), (1, .int x378_), (0, .ref a0)]) dX10_readStory_115 (by decide) rfl ?_
    refine r_iload_n hC dX10_readStory_116 0 rfl ?_
    refine r_iconst hC (v := (-1)) dX10_readStory_117 (by decide) (by decide) (fun x392_ e392 t392 => ?_)
    refine r_icmp_ne hC (tgt := 126) dX10_readStory_118 (by decide) (fun c393 => ?_) (fun c393 => ?_)
    · exfalso; omega
    refine r_aload_n hC dX10_readStory_121 2 rfl ?_
    refine r_iconst hC (v := (1)) dX10_readStory_122 (by decide) (by decide) (fun x394_ e394 t394 => ?_)
    refine r_callV hC (As := [.int x394_]) (rest := []) (ci := 10) (e_X10_wrong g (xL X) K len I378 J378 R hs378 a0 ka0 x394_ (by omega)) mT_5_236 mT_1_10 mT_5_233 mT_5_235 mP_55 okX10_wrong ⟨by decide, by decide⟩ rfl (by show kO (K a0) = _; rw [ka0]; rfl) rfl rfl (Nat.le_of_ble_eq_true rfl) ⟨by decide, by decide⟩ dX10_readStory_123 (aV1 (F := fun st M => P g X 5 126 [(2, .int x391_), (1, .int x378_), (0, .ref a0)] st _ _ M) (M := (K, len, I378, J378, R)) fun I395 h395 => ?_)
    obtain ⟨hs395, hf395, k395_0, k395_1, k395_2⟩ := h395
    show P g X 5 126 [(2, .int x391_), (1, .int x378_), (0, .ref a0)] [] _ _ (K, len, I395, J378, R)
    have hF395 : Fr K [(10, 7), (10, 10), (11, 8), (11, 9), (11, 10), (11, 11), (11, 12), (11, 13), (75, 999), (76, 999), (83, 999), (84, 999), (1000, 999)] I I395 := hF378.trans hf395 rfl rfl
    have oc395 := oc378.mv qM_big hf395 rfl
    have om395 := om378.mv hf395 rfl
    refine r_aload_n hC dX10_readStory_126 2 rfl ?_
    refine r_callV hC (As := []) (rest := []) (ci := 10) (e_X10_goesOn g (xL X) K len I395 J378 R hs395 a0 ka0 (by omega)) mT_5_199 mT_1_10 mT_5_196 mT_5_198 mP_49 okX10_goesOn ⟨by decide, by decide⟩ rfl (by show kO (K a0) = _; rw [ka0]; rfl) rfl rfl (Nat.le_of_ble_eq_true rfl) ⟨by decide, by decide⟩ dX10_readStory_127 (aV2 (F := fun st M => P g X 5 130 [(2, .int x391_), (1, .int x378_), (0, .ref a0)] st _ _ M) (M := (K, len, I395, J378, R)) fun I396 J396 h396 => ?_)
    obtain ⟨hs396, hf396, hfj396, k396_0, k396_1, k396_2⟩ := h396
    show P g X 5 130 [(2, .int x391_), (1, .int x378_), (0, .ref a0)] [] _ _ (K, len, I396, J396, R)
    have hF396 : Fr K [(10, 7), (10, 10), (11, 8), (11, 9), (11, 10), (11, 11), (11, 12), (11, 13), (75, 999), (76, 999), (83, 999), (84, 999), (1000, 999)] I I396 := hF395.trans hf396 rfl rfl
    have hFJ396 : Fr K [(11, 14), (82, 999)] J J396 := hFJ378.trans hfj396 rfl rfl
    have oc396 := oc395.mv qM_big hf396 rfl
    have om396 := om395.mv hf396 rfl
    refine r_aload_n hC dX10_readStory_130 2 rfl ?_
    refine r_iconst hC (v := (0)) dX10_readStory_131 (by decide) (by decide) (fun x397_ e397 t397 => ?_)
    refine r_bipush hC (v := (99)) dX10_readStory_132 (by decide) (by decide) (fun x398_ e398 t398 => ?_)
    refine r_callV hC (As := [.int x397_, .int x398_]) (rest := []) (ci := 10) (e_X10_readWhole g (xL X) K len I396 J396 R hs396 a0 ka0 x397_ x398_ (by omega)) mT_6_5 mT_1_10 mT_6_2 mT_6_4 mP_57 okX10_readWhole ⟨by decide, by decide⟩ rfl (by show kO (K a0) = _; rw [ka0]; rfl) rfl rfl (Nat.le_of_ble_eq_true rfl) ⟨by decide, by decide⟩ dX10_readStory_134 (aI2 (F := fun st M => P g X 5 137 [(2, .int x391_), (1, .int x378_), (0, .ref a0)] st _ _ M) (M := (K, len, I396, J396, R)) fun x399_ I399 J399 h399 => ?_)
    obtain ⟨hs399, hf399, hfj399, k399_0, k399_1, k399_2⟩ := h399
    show P g X 5 137 [(2, .int x391_), (1, .int x378_), (0, .ref a0)] [.int x399_] _ _ (K, len, I399, J399, R)
    have hF399 : Fr K [(10, 7), (10, 10), (11, 8), (11, 9), (11, 10), (11, 11), (11, 12), (11, 13), (75, 999), (76, 999), (83, 999), (84, 999), (1000, 999)] I I399 := hF396.trans hf399 rfl rfl
    have hFJ399 : Fr K [(11, 14), (82, 999)] J J399 := hFJ396.trans hfj399 rfl rfl
    have oc399 := oc396.mv qM_big hf399 rfl
    have om399 := om396.mv hf399 rfl
    refine r_istore_n hC (lv' := [(3, .int x399_), (2, .int x391_), (1, .int x378_), (0, .ref a0)]) dX10_readStory_137 (by decide) rfl ?_
    refine r_iload_n hC dX10_readStory_138 1 rfl ?_
    refine r_iconst hC (v := (2)) dX10_readStory_139 (by decide) (by decide) (fun x400_ e400 t400 => ?_)
    refine r_icmp_ne hC (tgt := 156) dX10_readStory_140 (by decide) (fun c401 => ?_) (fun c401 => ?_)
    rotate_left
    · exfalso; omega
    refine r_iload_n hC dX10_readStory_156 1 rfl ?_
    refine r_iconst hC (v := (3)) dX10_readStory_157 (by decide) (by decide) (fun x402_ e402 t402 => ?_)
    refine r_icmp_ne hC (tgt := 175) dX10_readStory_158 (by decide) (fun c403 => ?_) (fun c403 => ?_)
    rotate_left
    · exfalso; omega
    refine r_iload_n hC dX10_readStory_175 1 rfl ?_
    refine r_iconst hC (v := (4)) dX10_readStory_176 (by decide) (by decide) (fun x404_ e404 t404 => ?_)
    refine r_icmp_ne hC (tgt := 193) dX10_readStory_177 (by decide) (fun c405 => ?_) (fun c405 => ?_)
    rotate_left
    · exfalso; omega
    refine r_iconst hC (v := (0)) dX10_readStory_193 (by decide) (by decide) (fun x406_ e406 t406 => ?_)
    refine r_istore hC (lv' := [(4, .int x406_), (3, .int x399_), (2, .int x391_), (1, .int x378_), (0, .ref a0)]) dX10_readStory_194 (by decide) rfl ?_
    refine r_aload_n hC dX10_readStory_196 4 rfl ?_
    refine r_geti hC 9 (ci := 10) rfl u10_in (by decide) mT_5_4 dX10_readStory_197 ka0 rfl rfl (fun x407_ e407 => ?_)
    have f407 : x407_.toInt = (I399 a0 9).toInt := by rw [e407]
    refine r_iconst hC (v := (5)) dX10_readStory_200 (by decide) (by decide) (fun x408_ e408 t408 => ?_)
    refine r_icmp_ne hC (tgt := 205) dX10_readStory_201 (by decide) (fun c409 => ?_) (fun c409 => ?_)
    · exfalso; omega
    have hG0 : I399 rm 0 = G0 := (Eq.trans (hf399.get krm rfl) (Eq.trans (hf396.get krm rfl) (Eq.trans (hf395.get krm rfl) (Eq.trans (hf378.get krm rfl) (Eq.trans (hf375.get krm rfl) (Eq.trans (hf3.get krm rfl) eG0.symm))))))
    have hG0t : (I399 rm 0).toInt = G0.toInt := congrArg Int32.toInt hG0
    have hG1 : I399 rm 1 = G1 := (Eq.trans (hf399.get krm rfl) (Eq.trans (hf396.get krm rfl) (Eq.trans (hf395.get krm rfl) (Eq.trans (hf378.get krm rfl) (Eq.trans (hf375.get krm rfl) (Eq.trans (hf3.get krm rfl) eG1.symm))))))
    have hG1t : (I399 rm 1).toInt = G1.toInt := congrArg Int32.toInt hG1
    have hG2 : I399 rm 2 = G2 := (Eq.trans (hf399.get krm rfl) (Eq.trans (hf396.get krm rfl) (Eq.trans (hf395.get krm rfl) (Eq.trans (hf378.get krm rfl) (Eq.trans (hf375.get krm rfl) (Eq.trans (hf3.get krm rfl) eG2.symm))))))
    have hG2t : (I399 rm 2).toInt = G2.toInt := congrArg Int32.toInt hG2
    have hG3 : I399 rm 3 = G3 := (Eq.trans (hf399.get krm rfl) (Eq.trans (hf396.get krm rfl) (Eq.trans (hf395.get krm rfl) (Eq.trans (hf378.get krm rfl) (Eq.trans (hf375.get krm rfl) (Eq.trans (hf3.get krm rfl) eG3.symm))))))
    have hG3t : (I399 rm 3).toInt = G3.toInt := congrArg Int32.toInt hG3
    have hG4 : I399 rm 4 = G4 := (Eq.trans (hf399.get krm rfl) (Eq.trans (hf396.get krm rfl) (Eq.trans (hf395.get krm rfl) (Eq.trans (hf378.get krm rfl) (Eq.trans (hf375.get krm rfl) (Eq.trans (hf3.get krm rfl) eG4.symm))))))
    have hG4t : (I399 rm 4).toInt = G4.toInt := congrArg Int32.toInt hG4
    have hG5 : I399 rm 5 = G5 := (Eq.trans (hf399.get krm rfl) (Eq.trans (hf396.get krm rfl) (Eq.trans (hf395.get krm rfl) (Eq.trans (hf378.get krm rfl) (Eq.trans (hf375.get krm rfl) (Eq.trans (hf3.get krm rfl) eG5.symm))))))
    have hG5t : (I399 rm 5).toInt = G5.toInt := congrArg Int32.toInt hG5
    have hG6 : I399 rm 6 = G6 := (Eq.trans (hf399.get krm rfl) (Eq.trans (hf396.get krm rfl) (Eq.trans (hf395.get krm rfl) (Eq.trans (hf378.get krm rfl) (Eq.trans (hf375.get krm rfl) (Eq.trans (hf3.get krm rfl) eG6.symm))))))
    have hG6t : (I399 rm 6).toInt = G6.toInt := congrArg Int32.toInt hG6
    have hG7 : I399 rm 7 = x374_ := (Eq.trans (hf399.get krm rfl) (Eq.trans (hf396.get krm rfl) (Eq.trans (hf395.get krm rfl) (Eq.trans (hf378.get krm rfl) (Eq.trans (hf375.get krm rfl) e374.symm)))))
    have hG7t : (I399 rm 7).toInt = x374_.toInt := congrArg Int32.toInt hG7
    have hG8 : I399 rm 8 = G8 := (Eq.trans (hf399.get krm rfl) (Eq.trans (hf396.get krm rfl) (Eq.trans (hf395.get krm rfl) (Eq.trans (hf378.get krm rfl) (Eq.trans (hf375.get krm rfl) (Eq.trans (hf3.get krm rfl) eG8.symm))))))
    have hG8t : (I399 rm 8).toInt = G8.toInt := congrArg Int32.toInt hG8
    have hG9 : I399 rm 9 = G9 := (Eq.trans (hf399.get krm rfl) (Eq.trans (hf396.get krm rfl) (Eq.trans (hf395.get krm rfl) (Eq.trans (hf378.get krm rfl) (Eq.trans (hf375.get krm rfl) (Eq.trans (hf3.get krm rfl) eG9.symm))))))
    have hG9t : (I399 rm 9).toInt = G9.toInt := congrArg Int32.toInt hG9
    have hG10 : I399 rm 10 = N1 := (Eq.trans (hf399.get krm rfl) (Eq.trans (hf396.get krm rfl) (Eq.trans (hf395.get krm rfl) (Eq.trans (hf378.get krm rfl) eN1.symm))))
    have hG10t : (I399 rm 10).toInt = N1.toInt := congrArg Int32.toInt hG10
    exact r_vret hC hQ hlk hr (by decide) (by decide) dX10_readStory_204 ⟨_, _, rfl, rfl, ⟨hs399, hF399, hFJ399, (by exact Or.inr ⟨5, (pl B n p), by unfold sStory sMore; rw [pif_t hbg], by omega, by omega, by omega⟩), (by exact om399), (by exact oc399)⟩⟩

