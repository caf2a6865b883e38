set_option maxHeartbeats 4000000 in
set_option maxRecDepth 100000 in
theorem f_X10_readLine (g : GG) (l : Launch) (K len : Nat → Nat) (I : Nat → Nat → Int32) (J : Nat → Nat → Int64) (R : Nat → Nat → Option Nat) (hs : Sf K len I R) (a0 : Nat) (ka0 : K a0 = 11) (rm : Nat) (hbr : R a0 4 = some rm) (krm : K rm = 10) (mt : Nat) (hmt : R a0 5 = some mt) (kmt : K mt = 49) (nmt : len mt = 900) (B : Nat → Int) (n : Nat) (hB : BT B n mt I) (hBr : ∀ j : Nat, j < n → -128 ≤ B j ∧ B j ≤ 127) (hn : n ≤ 900) (p : Nat) (hp : p ≤ n) (tkm : TkM B n a0 p I J) (nr : Nat) (hnr : R rm 25 = some nr) (knr : K nr = 82) (lnr : len nr = 19) (ns : Nat) (hns : R rm 26 = some ns) (kns : K ns = 83) (lns : len ns = 19) (nn : Nat) (hnn : R rm 27 = some nn) (knn : K nn = 84) (lnn : len nn = 19) (D : DD) (hD : DI D) (sm : SM D rm I) (nm : NmM D nr J) (pg : PgI D ns I) (ni : NnI D ns nn I) (rwd : RW (CM rm R) (cntN D) D I) (hJ : DJ D) : Ct g l yX10_readLine cX10_readLine 1 (Option.none : Option Jvm.ClassFile.FieldType) rmX10_readLine [.ref a0] (K, len, I, J, R) (pV2 (K, len, I, J, R) (fun I' J' => Sf K len I' R ∧ Fr K [(10, 0), (10, 1), (10, 2), (10, 3), (10, 4), (10, 5), (10, 6), (10, 7), (10, 8), (10, 9), (10, 10), (11, 8), (11, 9), (11, 10), (11, 11), (11, 12), (11, 13), (70, 999), (71, 999), (72, 999), (73, 999), (74, 999), (75, 999), (76, 999), (77, 999), (78, 999), (79, 999), (80, 999), (81, 999), (83, 999), (84, 999), (1000, 999)] I I' ∧ Fr K [(11, 14), (82, 999)] J J' ∧ ((∃ (D' : DD) (p' : Nat), sLine B n p D = .ok (D', p') ∧ p' ≤ n ∧ TkM B n a0 p' I' J' ∧ RpM D' rm nr ns I' J' ∧ NnI D' ns nn I' ∧ RW (CM rm R) (cntN D') D' I' ∧ I' a0 12 = I a0 12) ∨ (∃ (kf : Int) (qf : Nat), sLine B n p D = .error (kf, qf) ∧ (I' a0 9).toInt = 5 ∧ (I' a0 12).toInt = kf ∧ (I' a0 13).toInt = qf)) ∧ (OM K rm I I') ∧ (OC (CM rm R) qM K I I'))) := by
  refine Ct_intro (by decide +kernel) (Nat.le_of_ble_eq_true rfl) (fun X hC hL hKK hNm hr hlk hQ => ?_)
  subst hL
  have hC : Cx g X cX10_readLine "HillTapModel" 1 rmX10_readLine := hC
  show P g X 1 0 [(0, .ref a0)] [] 0 0 (K, len, I, J, R)
  have hF : Fr K [(10, 0), (10, 1), (10, 2), (10, 3), (10, 4), (10, 5), (10, 6), (10, 7), (10, 8), (10, 9), (10, 10), (11, 8), (11, 9), (11, 10), (11, 11), (11, 12), (11, 13), (70, 999), (71, 999), (72, 999), (73, 999), (74, 999), (75, 999), (76, 999), (77, 999), (78, 999), (79, 999), (80, 999), (81, 999), (83, 999), (84, 999), (1000, 999)] I I := Fr.refl
  have hFJ : Fr K [(11, 14), (82, 999)] J J := Fr.refl
  have ek1 := tkm.e1
  have ek2 := tkm.e2
  have ek3 := tkm.e3
  have ek4 := tkm.e4
  have ek10 := tkm.2.1
  have ek11 := tkm.2.2.2.2.2
  have om : OM K rm I I := OM.rf
  have hcx := CM_x hs krm
  have oc : OC (CM rm R) qM K I I := OC.rf
  refine r_aload_n hC dX10_readLine_0 0 rfl ?_
  refine r_ldcS hC (i := 31) (by decide) rfl rfl dX10_readLine_1 ?_
  refine r_callV hC (As := [.ref (g.2.2.1 31)]) (rest := []) (ci := 10) (f_X10_isWord g (xL X) K len I J R hs a0 ka0 31 (by decide) B n p hp tkm (by first | assumption | decide)) mT_5_223 mT_1_10 mT_5_220 mT_5_222 mP_53 okX10_isWord ⟨by decide, by decide⟩ rfl (by show kO (K a0) = _; rw [ka0]; rfl) rfl rfl (Nat.le_of_ble_eq_true rfl) ⟨by decide, by decide⟩ dX10_readLine_3 (aI0 (F := fun st M => P g X 1 6 [(0, .ref a0)] st _ _ M) (M := (K, len, I, J, R)) fun x1_ h1 => ?_)
  have k1_0 := h1
  clear h1
  show P g X 1 6 [(0, .ref a0)] [.int x1_] _ _ (K, len, I, J, R)
  rcases k1_0 with ⟨hr1, hw1⟩ | ⟨hr1, hw1⟩
  · refine r_if_eq hC (tgt := 16) dX10_readLine_6 (by decide) (fun c2 => ?_) (fun c2 => ?_)
    · exfalso; omega
    refine r_aload_n hC dX10_readLine_9 0 rfl ?_
    refine r_callV hC (As := []) (rest := []) (ci := 10) (f_X10_readLake g (xL X) K len I J R hs a0 ka0 rm hbr krm mt hmt kmt nmt B n (hB.mv9 hF kmt (fun _ => rfl)) hBr hn p hp tkm nr hnr knr lnr ns hns kns lns nn hnn knn lnn D hD sm nm pg ni rwd hJ (hw1.1)) mT_5_232 mT_1_10 mT_5_229 mT_5_231 mP_54 okX10_readLake ⟨by decide, by decide⟩ rfl (by show kO (K a0) = _; rw [ka0]; rfl) rfl rfl (Nat.le_of_ble_eq_true rfl) ⟨by decide, by decide⟩ dX10_readLine_10 (aV2 (F := fun st M => P g X 1 13 [(0, .ref a0)] st _ _ M) (M := (K, len, I, J, R)) fun I3 J3 h3 => ?_)
    obtain ⟨hs3, hf3, hfj3, k3_0, k3_1, k3_2⟩ := h3
    show P g X 1 13 [(0, .ref a0)] [] _ _ (K, len, I3, J3, R)
    have hF3 : Fr K [(10, 0), (10, 1), (10, 2), (10, 3), (10, 4), (10, 5), (10, 6), (10, 7), (10, 8), (10, 9), (10, 10), (11, 8), (11, 9), (11, 10), (11, 11), (11, 12), (11, 13), (70, 999), (71, 999), (72, 999), (73, 999), (74, 999), (75, 999), (76, 999), (77, 999), (78, 999), (79, 999), (80, 999), (81, 999), (83, 999), (84, 999), (1000, 999)] I I3 := hF.trans hf3 rfl rfl
    have hFJ3 : Fr K [(11, 14), (82, 999)] J J3 := hFJ.trans hfj3 rfl rfl
    have oc3 := oc.tr k3_2
    have om3 := om.tr k3_1
    rcases k3_0 with ⟨D3, p3, hsp3, hp3, tk3, rep3, niL3, rwL3, fl3⟩ | ⟨kf3, qf3, hsp3, hf03, hf13, hf23⟩
    · have fq3 : I3 a0 12 = I a0 12 := fl3.trans rfl
      refine r_goto hC (tgt := 117) dX10_readLine_13 (by decide) ?_
      exact r_vret hC hQ hlk hr (by decide) (by decide) dX10_readLine_117 ⟨_, _, rfl, rfl, ⟨hs3, hF3, hFJ3, (by first | exact Or.inl ⟨D3, p3, by unfold sLine; rw [pif_t (show isW B n p 0 from hw1)]; exact hsp3, hp3, tk3, rep3, niL3, rwL3, fq3⟩ | exact Or.inr ⟨kf3, qf3, by unfold sLine; rw [pif_t (show isW B n p 0 from hw1)]; exact hsp3, hf03, hf13, hf23⟩ | exact Or.inr ⟨1, _, by unfold sLine; rw [pif_t (show isW B n p 0 from hw1), hsp3, bnd_ok], by omega, by omega, by omega⟩), (by exact om3), (by exact oc3)⟩⟩
    · refine r_goto hC (tgt := 117) dX10_readLine_13 (by decide) ?_
      exact r_vret hC hQ hlk hr (by decide) (by decide) dX10_readLine_117 ⟨_, _, rfl, rfl, ⟨hs3, hF3, hFJ3, (by first | exact Or.inl ⟨D3, p3, by unfold sLine; rw [pif_t (show isW B n p 0 from hw1)]; exact hsp3, hp3, tk3, rep3, niL3, rwL3, rfl⟩ | exact Or.inr ⟨kf3, qf3, by unfold sLine; rw [pif_t (show isW B n p 0 from hw1)]; exact hsp3, hf03, hf13, hf23⟩ | exact Or.inr ⟨1, _, by unfold sLine; rw [pif_t (show isW B n p 0 from hw1), hsp3, bnd_er], by omega, by omega, by omega⟩), (by exact om3), (by exact oc3)⟩⟩
  · refine r_if_eq hC (tgt := 16) dX10_readLine_6 (by decide) (fun c4 => ?_) (fun c4 => ?_)
    rotate_left
    · exfalso; omega
    refine r_aload_n hC dX10_readLine_16 0 rfl ?_
    refine r_ldcS hC (i := 35) (by decide) rfl rfl dX10_readLine_17 ?_
    refine r_callV hC (As := [.ref (g.2.2.1 35)]) (rest := []) (ci := 10) (f_X10_isWord g (xL X) K len I J R hs a0 ka0 35 (by decide) B n p hp tkm (by first | assumption | decide)) mT_5_223 mT_1_10 mT_5_220 mT_5_222 mP_53 okX10_isWord ⟨by decide, by decide⟩ rfl (by show kO (K a0) = _; rw [ka0]; rfl) rfl rfl (Nat.le_of_ble_eq_true rfl) ⟨by decide, by decide⟩ dX10_readLine_19 (aI0 (F := fun st M => P g X 1 22 [(0, .ref a0)] st _ _ M) (M := (K, len, I, J, R)) fun x5_ h5 => ?_)
    have k5_0 := h5
    clear h5
    show P g X 1 22 [(0, .ref a0)] [.int x5_] _ _ (K, len, I, J, R)
    rcases k5_0 with ⟨hr5, hw5⟩ | ⟨hr5, hw5⟩
    · refine r_if_eq hC (tgt := 32) dX10_readLine_22 (by decide) (fun c6 => ?_) (fun c6 => ?_)
      · exfalso; omega
      refine r_aload_n hC dX10_readLine_25 0 rfl ?_
      refine r_callV hC (As := []) (rest := []) (ci := 10) (f_X10_readPeg g (xL X) K len I J R hs a0 ka0 rm hbr krm mt hmt kmt nmt B n (hB.mv9 hF kmt (fun _ => rfl)) hBr hn p hp tkm nr hnr knr lnr ns hns kns lns nn hnn knn lnn D hD sm nm pg ni rwd hJ (hw5.1)) mT_6_15 mT_1_10 mT_6_12 mT_6_14 mP_58 okX10_readPeg ⟨by decide, by decide⟩ rfl (by show kO (K a0) = _; rw [ka0]; rfl) rfl rfl (Nat.le_of_ble_eq_true rfl) ⟨by decide, by decide⟩ dX10_readLine_26 (aV2 (F := fun st M => P g X 1 29 [(0, .ref a0)] st _ _ M) (M := (K, len, I, J, R)) fun I7 J7 h7 => ?_)
      obtain ⟨hs7, hf7, hfj7, k7_0, k7_1, k7_2⟩ := h7
      show P g X 1 29 [(0, .ref a0)] [] _ _ (K, len, I7, J7, R)
      have hF7 : Fr K [(10, 0), (10, 1), (10, 2), (10, 3), (10, 4), (10, 5), (10, 6), (10, 7), (10, 8), (10, 9), (10, 10), (11, 8), (11, 9), (11, 10), (11, 11), (11, 12), (11, 13), (70, 999), (71, 999), (72, 999), (73, 999), (74, 999), (75, 999), (76, 999), (77, 999), (78, 999), (79, 999), (80, 999), (81, 999), (83, 999), (84, 999), (1000, 999)] I I7 := hF.trans hf7 rfl rfl
      have hFJ7 : Fr K [(11, 14), (82, 999)] J J7 := hFJ.trans hfj7 rfl rfl
      have oc7 := oc.tr k7_2
      have om7 := om.tr k7_1
      rcases k7_0 with ⟨D7, p7, hsp7, hp7, tk7, rep7, niL7, rwL7, fl7⟩ | ⟨kf7, qf7, hsp7, hf07, hf17, hf27⟩
      · have fq7 : I7 a0 12 = I a0 12 := fl7.trans rfl
        refine r_goto hC (tgt := 117) dX10_readLine_29 (by decide) ?_
        exact r_vret hC hQ hlk hr (by decide) (by decide) dX10_readLine_117 ⟨_, _, rfl, rfl, ⟨hs7, hF7, hFJ7, (by first | exact Or.inl ⟨D7, p7, by unfold sLine; rw [pif_f (show ¬ isW B n p 0 from hw1), pif_t (show isW B n p 4 from hw5)]; exact hsp7, hp7, tk7, rep7, niL7, rwL7, fq7⟩ | exact Or.inr ⟨kf7, qf7, by unfold sLine; rw [pif_f (show ¬ isW B n p 0 from hw1), pif_t (show isW B n p 4 from hw5)]; exact hsp7, hf07, hf17, hf27⟩ | exact Or.inr ⟨1, _, by unfold sLine; rw [pif_f (show ¬ isW B n p 0 from hw1), pif_t (show isW B n p 4 from hw5), hsp7, bnd_ok], by omega, by omega, by omega⟩), (by exact om7), (by exact oc7)⟩⟩
      · refine r_goto hC (tgt := 117) dX10_readLine_29 (by decide) ?_
        exact r_vret hC hQ hlk hr (by decide) (by decide) dX10_readLine_117 ⟨_, _, rfl, rfl, ⟨hs7, hF7, hFJ7, (by first | exact Or.inl ⟨D7, p7, by unfold sLine; rw [pif_f (show ¬ isW B n p 0 from hw1), pif_t (show isW B n p 4 from hw5)]; exact hsp7, hp7, tk7, rep7, niL7, rwL7, rfl⟩ | exact Or.inr ⟨kf7, qf7, by unfold sLine; rw [pif_f (show ¬ isW B n p 0 from hw1), pif_t (show isW B n p 4 from hw5)]; exact hsp7, hf07, hf17, hf27⟩ | exact Or.inr ⟨1, _, by unfold sLine; rw [pif_f (show ¬ isW B n p 0 from hw1), pif_t (show isW B n p 4 from hw5), hsp7, bnd_er], by omega, by omega, by omega⟩), (by exact om7), (by exact oc7)⟩⟩
    · refine r_if_eq hC (tgt := 32) dX10_readLine_22 (by decide) (fun c8 => ?_) (fun c8 => ?_)
      rotate_left
      · exfalso; omega
      refine r_aload_n hC dX10_readLine_32 0 rfl ?_
      refine r_ldcS hC (i := 36) (by decide) rfl rfl dX10_readLine_33 ?_
      refine r_callV hC (As := [.ref (g.2.2.1 36)]) (rest := []) (ci := 10) (f_X10_isWord g (xL X) K len I J R hs a0 ka0 36 (by decide) B n p hp tkm (by first | assumption | decide)) mT_5_223 mT_1_10 mT_5_220 mT_5_222 mP_53 okX10_isWord ⟨by decide, by decide⟩ rfl (by show kO (K a0) = _; rw [ka0]; rfl) rfl rfl (Nat.le_of_ble_eq_true rfl) ⟨by decide, by decide⟩ dX10_readLine_35 (aI0 (F := fun st M => P g X 1 38 [(0, .ref a0)] st _ _ M) (M := (K, len, I, J, R)) fun x9_ h9 => ?_)
      have k9_0 := h9
      clear h9
      show P g X 1 38 [(0, .ref a0)] [.int x9_] _ _ (K, len, I, J, R)
      rcases k9_0 with ⟨hr9, hw9⟩ | ⟨hr9, hw9⟩
      · refine r_if_eq hC (tgt := 48) dX10_readLine_38 (by decide) (fun c10 => ?_) (fun c10 => ?_)
        · exfalso; omega
        refine r_aload_n hC dX10_readLine_41 0 rfl ?_
        refine r_callV hC (As := []) (rest := []) (ci := 10) (f_X10_readFrom g (xL X) K len I J R hs a0 ka0 rm hbr krm mt hmt kmt nmt B n (hB.mv9 hF kmt (fun _ => rfl)) hBr hn p hp tkm nr hnr knr lnr ns hns kns lns nn hnn knn lnn D hD sm nm pg ni rwd hJ (hw9.1)) mT_6_42 mT_1_10 mT_6_39 mT_6_41 mP_62 okX10_readFrom ⟨by decide, by decide⟩ rfl (by show kO (K a0) = _; rw [ka0]; rfl) rfl rfl (Nat.le_of_ble_eq_true rfl) ⟨by decide, by decide⟩ dX10_readLine_42 (aV2 (F := fun st M => P g X 1 45 [(0, .ref a0)] st _ _ M) (M := (K, len, I, J, R)) fun I11 J11 h11 => ?_)
        obtain ⟨hs11, hf11, hfj11, k11_0, k11_1, k11_2⟩ := h11
        show P g X 1 45 [(0, .ref a0)] [] _ _ (K, len, I11, J11, R)
        have hF11 : Fr K [(10, 0), (10, 1), (10, 2), (10, 3), (10, 4), (10, 5), (10, 6), (10, 7), (10, 8), (10, 9), (10, 10), (11, 8), (11, 9), (11, 10), (11, 11), (11, 12), (11, 13), (70, 999), (71, 999), (72, 999), (73, 999), (74, 999), (75, 999), (76, 999), (77, 999), (78, 999), (79, 999), (80, 999), (81, 999), (83, 999), (84, 999), (1000, 999)] I I11 := hF.trans hf11 rfl rfl
        have hFJ11 : Fr K [(11, 14), (82, 999)] J J11 := hFJ.trans hfj11 rfl rfl
        have oc11 := oc.tr k11_2
        have om11 := om.tr k11_1
        rcases k11_0 with ⟨D11, p11, hsp11, hp11, tk11, rep11, niL11, rwL11, fl11⟩ | ⟨kf11, qf11, hsp11, hf011, hf111, hf211⟩
        · have fq11 : I11 a0 12 = I a0 12 := fl11.trans rfl
          refine r_goto hC (tgt := 117) dX10_readLine_45 (by decide) ?_
          exact r_vret hC hQ hlk hr (by decide) (by decide) dX10_readLine_117 ⟨_, _, rfl, rfl, ⟨hs11, hF11, hFJ11, (by first | exact Or.inl ⟨D11, p11, by unfold sLine; rw [pif_f (show ¬ isW B n p 0 from hw1), pif_f (show ¬ isW B n p 4 from hw5), pif_t (show isW B n p 5 from hw9)]; exact hsp11, hp11, tk11, rep11, niL11, rwL11, fq11⟩ | exact Or.inr ⟨kf11, qf11, by unfold sLine; rw [pif_f (show ¬ isW B n p 0 from hw1), pif_f (show ¬ isW B n p 4 from hw5), pif_t (show isW B n p 5 from hw9)]; exact hsp11, hf011, hf111, hf211⟩ | exact Or.inr ⟨1, _, by unfold sLine; rw [pif_f (show ¬ isW B n p 0 from hw1), pif_f (show ¬ isW B n p 4 from hw5), pif_t (show isW B n p 5 from hw9), hsp11, bnd_ok], by omega, by omega, by omega⟩), (by exact om11), (by exact oc11)⟩⟩
        · refine r_goto hC (tgt := 117) dX10_readLine_45 (by decide) ?_
          exact r_vret hC hQ hlk hr (by decide) (by decide) dX10_readLine_117 ⟨_, _, rfl, rfl, ⟨hs11, hF11, hFJ11, (by first | exact Or.inl ⟨D11, p11, by unfold sLine; rw [pif_f (show ¬ isW B n p 0 from hw1), pif_f (show ¬ isW B n p 4 from hw5), pif_t (show isW B n p 5 from hw9)]; exact hsp11, hp11, tk11, rep11, niL11, rwL11, rfl⟩ | exact Or.inr ⟨kf11, qf11, by unfold sLine; rw [pif_f (show ¬ isW B n p 0 from hw1), pif_f (show ¬ isW B n p 4 from hw5), pif_t (show isW B n p 5 from hw9)]; exact hsp11, hf011, hf111, hf211⟩ | exact Or.inr ⟨1, _, by unfold sLine; rw [pif_f (show ¬ isW B n p 0 from hw1), pif_f (show ¬ isW B n p 4 from hw5), pif_t (show isW B n p 5 from hw9), hsp11, bnd_er], by omega, by omega, by omega⟩), (by exact om11), (by exact oc11)⟩⟩
      · refine r_if_eq hC (tgt := 48) dX10_readLine_38 (by decide) (fun c12 => ?_) (fun c12 => ?_)
        rotate_left
        · exfalso; omega
        refine r_aload_n hC dX10_readLine_48 0 rfl ?_
        refine r_ldcS hC (i := 37) (by decide) rfl rfl dX10_readLine_49 ?_
        refine r_callV hC (As := [.ref (g.2.2.1 37)]) (rest := []) (ci := 10) (f_X10_isWord g (xL X) K len I J R hs a0 ka0 37 (by decide) B n p hp tkm (by first | assumption | decide)) mT_5_223 mT_1_10 mT_5_220 mT_5_222 mP_53 okX10_isWord ⟨by decide, by decide⟩ rfl (by show kO (K a0) = _; rw [ka0]; rfl) rfl rfl (Nat.le_of_ble_eq_true rfl) ⟨by decide, by decide⟩ dX10_readLine_51 (aI0 (F := fun st M => P g X 1 54 [(0, .ref a0)] st _ _ M) (M := (K, len, I, J, R)) fun x13_ h13 => ?_)
        have k13_0 := h13
        clear h13
        show P g X 1 54 [(0, .ref a0)] [.int x13_] _ _ (K, len, I, J, R)
        rcases k13_0 with ⟨hr13, hw13⟩ | ⟨hr13, hw13⟩
        · refine r_if_eq hC (tgt := 64) dX10_readLine_54 (by decide) (fun c14 => ?_) (fun c14 => ?_)
          · exfalso; omega
          refine r_aload_n hC dX10_readLine_57 0 rfl ?_
          refine r_callV hC (As := []) (rest := []) (ci := 10) (f_X10_readRain g (xL X) K len I J R hs a0 ka0 rm hbr krm mt hmt kmt nmt B n (hB.mv9 hF kmt (fun _ => rfl)) hBr hn p hp tkm nr hnr knr lnr ns hns kns lns nn hnn knn lnn D hD sm nm pg ni rwd hJ (hw13.1)) mT_6_47 mT_1_10 mT_6_44 mT_6_46 mP_63 okX10_readRain ⟨by decide, by decide⟩ rfl (by show kO (K a0) = _; rw [ka0]; rfl) rfl rfl (Nat.le_of_ble_eq_true rfl) ⟨by decide, by decide⟩ dX10_readLine_58 (aV2 (F := fun st M => P g X 1 61 [(0, .ref a0)] st _ _ M) (M := (K, len, I, J, R)) fun I15 J15 h15 => ?_)
          obtain ⟨hs15, hf15, hfj15, k15_0, k15_1, k15_2⟩ := h15
          show P g X 1 61 [(0, .ref a0)] [] _ _ (K, len, I15, J15, R)
          have hF15 : Fr K [(10, 0), (10, 1), (10, 2), (10, 3), (10, 4), (10, 5), (10, 6), (10, 7), (10, 8), (10, 9), (10, 10), (11, 8), (11, 9), (11, 10), (11, 11), (11, 12), (11, 13), (70, 999), (71, 999), (72, 999), (73, 999), (74, 999), (75, 999), (76, 999), (77, 999), (78, 999), (79, 999), (80, 999), (81, 999), (83, 999), (84, 999), (1000, 999)] I I15 := hF.trans hf15 rfl rfl
          have hFJ15 : Fr K [(11, 14), (82, 999)] J J15 := hFJ.trans hfj15 rfl rfl
          have oc15 := oc.tr k15_2
          have om15 := om.tr k15_1
          rcases k15_0 with ⟨D15, p15, hsp15, hp15, tk15, rep15, niL15, rwL15, fl15⟩ | ⟨kf15, qf15, hsp15, hf015, hf115, hf215⟩
          · have fq15 : I15 a0 12 = I a0 12 := fl15.trans rfl
            refine r_goto hC (tgt := 117) dX10_readLine_61 (by decide) ?_
            exact r_vret hC hQ hlk hr (by decide) (by decide) dX10_readLine_117 ⟨_, _, rfl, rfl, ⟨hs15, hF15, hFJ15, (by first | exact Or.inl ⟨D15, p15, by unfold sLine; rw [pif_f (show ¬ isW B n p 0 from hw1), pif_f (show ¬ isW B n p 4 from hw5), pif_f (show ¬ isW B n p 5 from hw9), pif_t (show isW B n p 6 from hw13)]; exact hsp15, hp15, tk15, rep15, niL15, rwL15, fq15⟩ | exact Or.inr ⟨kf15, qf15, by unfold sLine; rw [pif_f (show ¬ isW B n p 0 from hw1), pif_f (show ¬ isW B n p 4 from hw5), pif_f (show ¬ isW B n p 5 from hw9), pif_t (show isW B n p 6 from hw13)]; exact hsp15, hf015, hf115, hf215⟩ | exact Or.inr ⟨1, _, by unfold sLine; rw [pif_f (show ¬ isW B n p 0 from hw1), pif_f (show ¬ isW B n p 4 from hw5), pif_f (show ¬ isW B n p 5 from hw9), pif_t (show isW B n p 6 from hw13), hsp15, bnd_ok], by omega, by omega, by omega⟩), (by exact om15), (by exact oc15)⟩⟩
          · refine r_goto hC (tgt := 117) dX10_readLine_61 (by decide) ?_
            exact r_vret hC hQ hlk hr (by decide) (by decide) dX10_readLine_117 ⟨_, _, rfl, rfl, ⟨hs15, hF15, hFJ15, (by first | exact Or.inl ⟨D15, p15, by unfold sLine; rw [pif_f (show ¬ isW B n p 0 from hw1), pif_f (show ¬ isW B n p 4 from hw5), pif_f (show ¬ isW B n p 5 from hw9), pif_t (show isW B n p 6 from hw13)]; exact hsp15, hp15, tk15, rep15, niL15, rwL15, rfl⟩ | exact Or.inr ⟨kf15, qf15, by unfold sLine; rw [pif_f (show ¬ isW B n p 0 from hw1), pif_f (show ¬ isW B n p 4 from hw5), pif_f (show ¬ isW B n p 5 from hw9), pif_t (show isW B n p 6 from hw13)]; exact hsp15, hf015, hf115, hf215⟩ | exact Or.inr ⟨1, _, by unfold sLine; rw [pif_f (show ¬ isW B n p 0 from hw1), pif_f (show ¬ isW B n p 4 from hw5), pif_f (show ¬ isW B n p 5 from hw9), pif_t (show isW B n p 6 from hw13), hsp15, bnd_er], by omega, by omega, by omega⟩), (by exact om15), (by exact oc15)⟩⟩
        · refine r_if_eq hC (tgt := 64) dX10_readLine_54 (by decide) (fun c16 => ?_) (fun c16 => ?_)
          rotate_left
          · exfalso; omega
          refine r_aload_n hC dX10_readLine_64 0 rfl ?_
          refine r_ldcS hC (i := 38) (by decide) rfl rfl dX10_readLine_65 ?_
          refine r_callV hC (As := [.ref (g.2.2.1 38)]) (rest := []) (ci := 10) (f_X10_isWord g (xL X) K len I J R hs a0 ka0 38 (by decide) B n p hp tkm (by first | assumption | decide)) mT_5_223 mT_1_10 mT_5_220 mT_5_222 mP_53 okX10_isWord ⟨by decide, by decide⟩ rfl (by show kO (K a0) = _; rw [ka0]; rfl) rfl rfl (Nat.le_of_ble_eq_true rfl) ⟨by decide, by decide⟩ dX10_readLine_67 (aI0 (F := fun st M => P g X 1 70 [(0, .ref a0)] st _ _ M) (M := (K, len, I, J, R)) fun x17_ h17 => ?_)
          have k17_0 := h17
          clear h17
          show P g X 1 70 [(0, .ref a0)] [.int x17_] _ _ (K, len, I, J, R)
          rcases k17_0 with ⟨hr17, hw17⟩ | ⟨hr17, hw17⟩
          · refine r_if_eq hC (tgt := 80) dX10_readLine_70 (by decide) (fun c18 => ?_) (fun c18 => ?_)
            · exfalso; omega
            refine r_aload_n hC dX10_readLine_73 0 rfl ?_
            refine r_callV hC (As := []) (rest := []) (ci := 10) (f_X10_readStory g (xL X) K len I J R hs a0 ka0 rm hbr krm mt hmt kmt nmt B n (hB.mv9 hF kmt (fun _ => rfl)) hBr hn p hp tkm nr hnr knr lnr ns hns kns lns nn hnn knn lnn D hD sm nm pg ni rwd hJ (hw17.1)) mT_6_52 mT_1_10 mT_6_49 mT_6_51 mP_64 okX10_readStory ⟨by decide, by decide⟩ rfl (by show kO (K a0) = _; rw [ka0]; rfl) rfl rfl (Nat.le_of_ble_eq_true rfl) ⟨by decide, by decide⟩ dX10_readLine_74 (aV2 (F := fun st M => P g X 1 77 [(0, .ref a0)] st _ _ M) (M := (K, len, I, J, R)) fun I19 J19 h19 => ?_)
            obtain ⟨hs19, hf19, hfj19, k19_0, k19_1, k19_2⟩ := h19
            show P g X 1 77 [(0, .ref a0)] [] _ _ (K, len, I19, J19, R)
            have hF19 : Fr K [(10, 0), (10, 1), (10, 2), (10, 3), (10, 4), (10, 5), (10, 6), (10, 7), (10, 8), (10, 9), (10, 10), (11, 8), (11, 9), (11, 10), (11, 11), (11, 12), (11, 13), (70, 999), (71, 999), (72, 999), (73, 999), (74, 999), (75, 999), (76, 999), (77, 999), (78, 999), (79, 999), (80, 999), (81, 999), (83, 999), (84, 999), (1000, 999)] I I19 := hF.trans hf19 rfl rfl
            have hFJ19 : Fr K [(11, 14), (82, 999)] J J19 := hFJ.trans hfj19 rfl rfl
            have oc19 := oc.tr k19_2
            have om19 := om.tr k19_1
            rcases k19_0 with ⟨D19, p19, hsp19, hp19, tk19, rep19, niL19, rwL19, fl19⟩ | ⟨kf19, qf19, hsp19, hf019, hf119, hf219⟩
            · have fq19 : I19 a0 12 = I a0 12 := fl19.trans rfl
              refine r_goto hC (tgt := 117) dX10_readLine_77 (by decide) ?_
              exact r_vret hC hQ hlk hr (by decide) (by decide) dX10_readLine_117 ⟨_, _, rfl, rfl, ⟨hs19, hF19, hFJ19, (by first | exact Or.inl ⟨D19, p19, by unfold sLine; rw [pif_f (show ¬ isW B n p 0 from hw1), pif_f (show ¬ isW B n p 4 from hw5), pif_f (show ¬ isW B n p 5 from hw9), pif_f (show ¬ isW B n p 6 from hw13), pif_t (show isW B n p 7 from hw17)]; exact hsp19, hp19, tk19, rep19, niL19, rwL19, fq19⟩ | exact Or.inr ⟨kf19, qf19, by unfold sLine; rw [pif_f (show ¬ isW B n p 0 from hw1), pif_f (show ¬ isW B n p 4 from hw5), pif_f (show ¬ isW B n p 5 from hw9), pif_f (show ¬ isW B n p 6 from hw13), pif_t (show isW B n p 7 from hw17)]; exact hsp19, hf019, hf119, hf219⟩ | exact Or.inr ⟨1, _, by unfold sLine; rw [pif_f (show ¬ isW B n p 0 from hw1), pif_f (show ¬ isW B n p 4 from hw5), pif_f (show ¬ isW B n p 5 from hw9), pif_f (show ¬ isW B n p 6 from hw13), pif_t (show isW B n p 7 from hw17), hsp19, bnd_ok], by omega, by omega, by omega⟩), (by exact om19), (by exact oc19)⟩⟩
            · refine r_goto hC (tgt := 117) dX10_readLine_77 (by decide) ?_
              exact r_vret hC hQ hlk hr (by decide) (by decide) dX10_readLine_117 ⟨_, _, rfl, rfl, ⟨hs19, hF19, hFJ19, (by first | exact Or.inl ⟨D19, p19, by unfold sLine; rw [pif_f (show ¬ isW B n p 0 from hw1), pif_f (show ¬ isW B n p 4 from hw5), pif_f (show ¬ isW B n p 5 from hw9), pif_f (show ¬ isW B n p 6 from hw13), pif_t (show isW B n p 7 from hw17)]; exact hsp19, hp19, tk19, rep19, niL19, rwL19, rfl⟩ | exact Or.inr ⟨kf19, qf19, by unfold sLine; rw [pif_f (show ¬ isW B n p 0 from hw1), pif_f (show ¬ isW B n p 4 from hw5), pif_f (show ¬ isW B n p 5 from hw9), pif_f (show ¬ isW B n p 6 from hw13), pif_t (show isW B n p 7 from hw17)]; exact hsp19, hf019, hf119, hf219⟩ | exact Or.inr ⟨1, _, by unfold sLine; rw [pif_f (show ¬ isW B n p 0 from hw1), pif_f (show ¬ isW B n p 4 from hw5), pif_f (show ¬ isW B n p 5 from hw9), pif_f (show ¬ isW B n p 6 from hw13), pif_t (show isW B n p 7 from hw17), hsp19, bnd_er], by omega, by omega, by omega⟩), (by exact om19), (by exact oc19)⟩⟩
          · refine r_if_eq hC (tgt := 80) dX10_readLine_70 (by decide) (fun c20 => ?_) (fun c20 => ?_)
            rotate_left
            · exfalso; omega
            refine r_aload_n hC dX10_readLine_80 0 rfl ?_
            refine r_ldcS hC (i := 39) (by decide) rfl rfl dX10_readLine_81 ?_
            refine r_callV hC (As := [.ref (g.2.2.1 39)]) (rest := []) (ci := 10) (f_X10_isWord g (xL X) K len I J R hs a0 ka0 39 (by decide) B n p hp tkm (by first | assumption | decide)) mT_5_223 mT_1_10 mT_5_220 mT_5_222 mP_53 okX10_isWord ⟨by decide, by decide⟩ rfl (by show kO (K a0) = _; rw [ka0]; rfl) rfl rfl (Nat.le_of_ble_eq_true rfl) ⟨by decide, by decide⟩ dX10_readLine_83 (aI0 (F := fun st M => P g X 1 86 [(0, .ref a0)] st _ _ M) (M := (K, len, I, J, R)) fun x21_ h21 => ?_)
            have k21_0 := h21
            clear h21
            show P g X 1 86 [(0, .ref a0)] [.int x21_] _ _ (K, len, I, J, R)
            rcases k21_0 with ⟨hr21, hw21⟩ | ⟨hr21, hw21⟩
            · refine r_if_eq hC (tgt := 96) dX10_readLine_86 (by decide) (fun c22 => ?_) (fun c22 => ?_)
              · exfalso; omega
              refine r_aload_n hC dX10_readLine_89 0 rfl ?_
              refine r_callV hC (As := []) (rest := []) (ci := 10) (f_X10_readVillage g (xL X) K len I J R hs a0 ka0 rm hbr krm mt hmt kmt nmt B n (hB.mv9 hF kmt (fun _ => rfl)) hBr hn p hp tkm nr hnr knr lnr ns hns kns lns nn hnn knn lnn D hD sm nm pg ni rwd hJ (hw21.1)) mT_6_66 mT_1_10 mT_6_63 mT_6_65 mP_65 okX10_readVillage ⟨by decide, by decide⟩ rfl (by show kO (K a0) = _; rw [ka0]; rfl) rfl rfl (Nat.le_of_ble_eq_true rfl) ⟨by decide, by decide⟩ dX10_readLine_90 (aV2 (F := fun st M => P g X 1 93 [(0, .ref a0)] st _ _ M) (M := (K, len, I, J, R)) fun I23 J23 h23 => ?_)
              obtain ⟨hs23, hf23, hfj23, k23_0, k23_1, k23_2⟩ := h23
              show P g X 1 93 [(0, .ref a0)] [] _ _ (K, len, I23, J23, R)
              have hF23 : Fr K [(10, 0), (10, 1), (10, 2), (10, 3), (10, 4), (10, 5), (10, 6), (10, 7), (10, 8), (10, 9), (10, 10), (11, 8), (11, 9), (11, 10), (11, 11), (11, 12), (11, 13), (70, 999), (71, 999), (72, 999), (73, 999), (74, 999), (75, 999), (76, 999), (77, 999), (78, 999), (79, 999), (80, 999), (81, 999), (83, 999), (84, 999), (1000, 999)] I I23 := hF.trans hf23 rfl rfl
              have hFJ23 : Fr K [(11, 14), (82, 999)] J J23 := hFJ.trans hfj23 rfl rfl
              have oc23 := oc.tr k23_2
              have om23 := om.tr k23_1
              rcases k23_0 with ⟨D23, p23, hsp23, hp23, tk23, rep23, niL23, rwL23, fl23⟩ | ⟨kf23, qf23, hsp23, hf023, hf123, hf223⟩
              · have fq23 : I23 a0 12 = I a0 12 := fl23.trans rfl
                refine r_goto hC (tgt := 117) dX10_readLine_93 (by decide) ?_
                exact r_vret hC hQ hlk hr (by decide) (by decide) dX10_readLine_117 ⟨_, _, rfl, rfl, ⟨hs23, hF23, hFJ23, (by first | exact Or.inl ⟨D23, p23, by unfold sLine; rw [pif_f (show ¬ isW B n p 0 from hw1), pif_f (show ¬ isW B n p 4 from hw5), pif_f (show ¬ isW B n p 5 from hw9), pif_f (show ¬ isW B n p 6 from hw13), pif_f (show ¬ isW B n p 7 from hw17), pif_t (show isW B n p 8 from hw21)]; exact hsp23, hp23, tk23, rep23, niL23, rwL23, fq23⟩ | exact Or.inr ⟨kf23, qf23, by unfold sLine; rw [pif_f (show ¬ isW B n p 0 from hw1), pif_f (show ¬ isW B n p 4 from hw5), pif_f (show ¬ isW B n p 5 from hw9), pif_f (show ¬ isW B n p 6 from hw13), pif_f (show ¬ isW B n p 7 from hw17), pif_t (show isW B n p 8 from hw21)]; exact hsp23, hf023, hf123, hf223⟩ | exact Or.inr ⟨1, _, by unfold sLine; rw [pif_f (show ¬ isW B n p 0 from hw1), pif_f (show ¬ isW B n p 4 from hw5), pif_f (show ¬ isW B n p 5 from hw9), pif_f (show ¬ isW B n p 6 from hw13), pif_f (show ¬ isW B n p 7 from hw17), pif_t (show isW B n p 8 from hw21), hsp23, bnd_ok], by omega, by omega, by omega⟩), (by exact om23), (by exact oc23)⟩⟩
              · refine r_goto hC (tgt := 117) dX10_readLine_93 (by decide) ?_
                exact r_vret hC hQ hlk hr (by decide) (by decide) dX10_readLine_117 ⟨_, _, rfl, rfl, ⟨hs23, hF23, hFJ23, (by first | exact Or.inl ⟨D23, p23, by unfold sLine; rw [pif_f (show ¬ isW B n p 0 from hw1), pif_f (show ¬ isW B n p 4 from hw5), pif_f (show ¬ isW B n p 5 from hw9), pif_f (show ¬ isW B n p 6 from hw13), pif_f (show ¬ isW B n p 7 from hw17), pif_t (show isW B n p 8 from hw21)]; exact hsp23, hp23, tk23, rep23, niL23, rwL23, rfl⟩ | exact Or.inr ⟨kf23, qf23, by unfold sLine; rw [pif_f (show ¬ isW B n p 0 from hw1), pif_f (show ¬ isW B n p 4 from hw5), pif_f (show ¬ isW B n p 5 from hw9), pif_f (show ¬ isW B n p 6 from hw13), pif_f (show ¬ isW B n p 7 from hw17), pif_t (show isW B n p 8 from hw21)]; exact hsp23, hf023, hf123, hf223⟩ | exact Or.inr ⟨1, _, by unfold sLine; rw [pif_f (show ¬ isW B n p 0 from hw1), pif_f (show ¬ isW B n p 4 from hw5), pif_f (show ¬ isW B n p 5 from hw9), pif_f (show ¬ isW B n p 6 from hw13), pif_f (show ¬ isW B n p 7 from hw17), pif_t (show isW B n p 8 from hw21), hsp23, bnd_er], by omega, by omega, by omega⟩), (by exact om23), (by exact oc23)⟩⟩
            · refine r_if_eq hC (tgt := 96) dX10_readLine_86 (by decide) (fun c24 => ?_) (fun c24 => ?_)
              rotate_left
              · exfalso; omega
              refine r_aload_n hC dX10_readLine_96 0 rfl ?_
              refine r_ldcS hC (i := 40) (by decide) rfl rfl dX10_readLine_97 ?_
              refine r_callV hC (As := [.ref (g.2.2.1 40)]) (rest := []) (ci := 10) (f_X10_isWord g (xL X) K len I J R hs a0 ka0 40 (by decide) B n p hp tkm (by first | assumption | decide)) mT_5_223 mT_1_10 mT_5_220 mT_5_222 mP_53 okX10_isWord ⟨by decide, by decide⟩ rfl (by show kO (K a0) = _; rw [ka0]; rfl) rfl rfl (Nat.le_of_ble_eq_true rfl) ⟨by decide, by decide⟩ dX10_readLine_99 (aI0 (F := fun st M => P g X 1 102 [(0, .ref a0)] st _ _ M) (M := (K, len, I, J, R)) fun x25_ h25 => ?_)
              have k25_0 := h25
              clear h25
              show P g X 1 102 [(0, .ref a0)] [.int x25_] _ _ (K, len, I, J, R)
              rcases k25_0 with ⟨hr25, hw25⟩ | ⟨hr25, hw25⟩
              · refine r_if_eq hC (tgt := 112) dX10_readLine_102 (by decide) (fun c26 => ?_) (fun c26 => ?_)
                · exfalso; omega
                refine r_aload_n hC dX10_readLine_105 0 rfl ?_
                refine r_callV hC (As := []) (rest := []) (ci := 10) (f_X10_readKnower g (xL X) K len I J R hs a0 ka0 rm hbr krm mt hmt kmt nmt B n (hB.mv9 hF kmt (fun _ => rfl)) hBr hn p hp tkm nr hnr knr lnr ns hns kns lns nn hnn knn lnn D hD sm nm pg ni rwd hJ (hw25.1)) mT_6_73 mT_1_10 mT_6_70 mT_6_72 mP_66 okX10_readKnower ⟨by decide, by decide⟩ rfl (by show kO (K a0) = _; rw [ka0]; rfl) rfl rfl (Nat.le_of_ble_eq_true rfl) ⟨by decide, by decide⟩ dX10_readLine_106 (aV2 (F := fun st M => P g X 1 109 [(0, .ref a0)] st _ _ M) (M := (K, len, I, J, R)) fun I27 J27 h27 => ?_)
                obtain ⟨hs27, hf27, hfj27, k27_0, k27_1, k27_2⟩ := h27
                show P g X 1 109 [(0, .ref a0)] [] _ _ (K, len, I27, J27, R)
                have hF27 : Fr K [(10, 0), (10, 1), (10, 2), (10, 3), (10, 4), (10, 5), (10, 6), (10, 7), (10, 8), (10, 9), (10, 10), (11, 8), (11, 9), (11, 10), (11, 11), (11, 12), (11, 13), (70, 999), (71, 999), (72, 999), (73, 999), (74, 999), (75, 999), (76, 999), (77, 999), (78, 999), (79, 999), (80, 999), (81, 999), (83, 999), (84, 999), (1000, 999)] I I27 := hF.trans hf27 rfl rfl
                have hFJ27 : Fr K [(11, 14), (82, 999)] J J27 := hFJ.trans hfj27 rfl rfl
                have oc27 := oc.tr k27_2
                have om27 := om.tr k27_1
                rcases k27_0 with ⟨D27, p27, hsp27, hp27, tk27, rep27, niL27, rwL27, fl27⟩ | ⟨kf27, qf27, hsp27, hf027, hf127, hf227⟩
                · have fq27 : I27 a0 12 = I a0 12 := fl27.trans rfl
                  refine r_goto hC (tgt := 117) dX10_readLine_109 (by decide) ?_
                  exact r_vret hC hQ hlk hr (by decide) (by decide) dX10_readLine_117 ⟨_, _, rfl, rfl, ⟨hs27, hF27, hFJ27, (by first | exact Or.inl ⟨D27, p27, by unfold sLine; rw [pif_f (show ¬ isW B n p 0 from hw1), pif_f (show ¬ isW B n p 4 from hw5), pif_f (show ¬ isW B n p 5 from hw9), pif_f (show ¬ isW B n p 6 from hw13), pif_f (show ¬ isW B n p 7 from hw17), pif_f (show ¬ isW B n p 8 from hw21), pif_t (show isW B n p 9 from hw25)]; exact hsp27, hp27, tk27, rep27, niL27, rwL27, fq27⟩ | exact Or.inr ⟨kf27, qf27, by unfold sLine; rw [pif_f (show ¬ isW B n p 0 from hw1), pif_f (show ¬ isW B n p 4 from hw5), pif_f (show ¬ isW B n p 5 from hw9), pif_f (show ¬ isW B n p 6 from hw13), pif_f (show ¬ isW B n p 7 from hw17), pif_f (show ¬ isW B n p 8 from hw21), pif_t (show isW B n p 9 from hw25)]; exact hsp27, hf027, hf127, hf227⟩ | exact Or.inr ⟨1, _, by unfold sLine; rw [pif_f (show ¬ isW B n p 0 from hw1), pif_f (show ¬ isW B n p 4 from hw5), pif_f (show ¬ isW B n p 5 from hw9), pif_f (show ¬ isW B n p 6 from hw13), pif_f (show ¬ isW B n p 7 from hw17), pif_f (show ¬ isW B n p 8 from hw21), pif_t (show isW B n p 9 from hw25), hsp27, bnd_ok], by omega, by omega, by omega⟩), (by exact om27), (by exact oc27)⟩⟩
                · refine r_goto hC (tgt := 117) dX10_readLine_109 (by decide) ?_
                  exact r_vret hC hQ hlk hr (by decide) (by decide) dX10_readLine_117 ⟨_, _, rfl, rfl, ⟨hs27, hF27, hFJ27, (by first | exact Or.inl ⟨D27, p27, by unfold sLine; rw [pif_f (show ¬ isW B n p 0 from hw1), pif_f (show ¬ isW B n p 4 from hw5), pif_f (show ¬ isW B n p 5 from hw9), pif_f (show ¬ isW B n p 6 from hw13), pif_f (show ¬ isW B n p 7 from hw17), pif_f (show ¬ isW B n p 8 from hw21), pif_t (show isW B n p 9 from hw25)]; exact hsp27, hp27, tk27, rep27, niL27, rwL27, rfl⟩ | exact Or.inr ⟨kf27, qf27, by unfold sLine; rw [pif_f (show ¬ isW B n p 0 from hw1), pif_f (show ¬ isW B n p 4 from hw5), pif_f (show ¬ isW B n p 5 from hw9), pif_f (show ¬ isW B n p 6 from hw13), pif_f (show ¬ isW B n p 7 from hw17), pif_f (show ¬ isW B n p 8 from hw21), pif_t (show isW B n p 9 from hw25)]; exact hsp27, hf027, hf127, hf227⟩ | exact Or.inr ⟨1, _, by unfold sLine; rw [pif_f (show ¬ isW B n p 0 from hw1), pif_f (show ¬ isW B n p 4 from hw5), pif_f (show ¬ isW B n p 5 from hw9), pif_f (show ¬ isW B n p 6 from hw13), pif_f (show ¬ isW B n p 7 from hw17), pif_f (show ¬ isW B n p 8 from hw21), pif_t (show isW B n p 9 from hw25), hsp27, bnd_er], by omega, by omega, by omega⟩), (by exact om27), (by exact oc27)⟩⟩
              · refine r_if_eq hC (tgt := 112) dX10_readLine_102 (by decide) (fun c28 => ?_) (fun c28 => ?_)
                rotate_left
                · exfalso; omega
                refine r_aload_n hC dX10_readLine_112 0 rfl ?_
                refine r_iconst hC (v := (1)) dX10_readLine_113 (by decide) (by decide) (fun x29_ e29 t29 => ?_)
                refine r_callV hC (As := [.int x29_]) (rest := []) (ci := 10) (f_X10_wrong g (xL X) K len I J R hs a0 ka0 x29_ (tkm.e5)) mT_5_236 mT_1_10 mT_5_233 mT_5_235 mP_55 okX10_wrong ⟨by decide, by decide⟩ rfl (by show kO (K a0) = _; rw [ka0]; rfl) rfl rfl (Nat.le_of_ble_eq_true rfl) ⟨by decide, by decide⟩ dX10_readLine_114 (aV1 (F := fun st M => P g X 1 117 [(0, .ref a0)] st _ _ M) (M := (K, len, I, J, R)) fun I30 h30 => ?_)
                obtain ⟨hs30, hf30, k30_0, k30_1, k30_2⟩ := h30
                show P g X 1 117 [(0, .ref a0)] [] _ _ (K, len, I30, J, R)
                have hF30 : Fr K [(10, 0), (10, 1), (10, 2), (10, 3), (10, 4), (10, 5), (10, 6), (10, 7), (10, 8), (10, 9), (10, 10), (11, 8), (11, 9), (11, 10), (11, 11), (11, 12), (11, 13), (70, 999), (71, 999), (72, 999), (73, 999), (74, 999), (75, 999), (76, 999), (77, 999), (78, 999), (79, 999), (80, 999), (81, 999), (83, 999), (84, 999), (1000, 999)] I I30 := hF.trans hf30 rfl rfl
                have oc30 := oc.mv qM_big hf30 rfl
                have rw30 := rwd.mv hcx qM_big hf30 rfl
                have om30 := om.mv hf30 rfl
                have hwp30 := tkm.2.1
                exact r_vret hC hQ hlk hr (by decide) (by decide) dX10_readLine_117 ⟨_, _, rfl, rfl, ⟨hs30, hF30, hFJ, (by first | exact Or.inl ⟨D30, p30, by unfold sLine; rw [pif_f (show ¬ isW B n p 0 from hw1), pif_f (show ¬ isW B n p 4 from hw5), pif_f (show ¬ isW B n p 5 from hw9), pif_f (show ¬ isW B n p 6 from hw13), pif_f (show ¬ isW B n p 7 from hw17), pif_f (show ¬ isW B n p 8 from hw21)]; exact hsp30, hp30, tk30, rep30, niL30, rwL30, rfl⟩ | exact Or.inr ⟨kf30, qf30, by unfold sLine; rw [pif_f (show ¬ isW B n p 0 from hw1), pif_f (show ¬ isW B n p 4 from hw5), pif_f (show ¬ isW B n p 5 from hw9), pif_f (show ¬ isW B n p 6 from hw13), pif_f (show ¬ isW B n p 7 from hw17), pif_f (show ¬ isW B n p 8 from hw21)]; exact hsp30, hf030, hf130, hf230⟩ | exact Or.inr ⟨1, _, by unfold sLine; rw [pif_f (show ¬ isW B n p 0 from hw1), pif_f (show ¬ isW B n p 4 from hw5), pif_f (show ¬ isW B n p 5 from hw9), pif_f (show ¬ isW B n p 6 from hw13), pif_f (show ¬ isW B n p 7 from hw17), pif_f (show ¬ isW B n p 8 from hw21), pif_f (show ¬ isW B n p 9 from hw25)], by omega, by omega, by omega⟩), (by exact om30), (by exact oc30)⟩⟩

