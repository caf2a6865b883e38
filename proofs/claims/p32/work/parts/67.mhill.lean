theorem NnI_0 {ns nn : Nat} {I : Nat → Nat → Int32} : NnI D0 ns nn I := fun i hi => by have h : (i : Int) < 0 := hi; omega
theorem qM_ne {x : Nat} (h : qM x = true) : x ≠ 2 ∧ x ≠ 6 ∧ x ≠ 10 := ⟨fun z => by rw [z] at h; exact absurd h (by decide), fun z => by rw [z] at h; exact absurd h (by decide), fun z => by rw [z] at h; exact absurd h (by decide)⟩
theorem RW.cRM {K : Nat → Nat} {I : Nat → Nat → Int32} {R R2 : Nat → Nat → Option Nat} {rm : Nat} {N : Nat → Int} {D : DD} {l : List (Nat × Nat)} (h : RW (CM rm R) N D I) (krm : K rm = 10) (hF : Fr K l R R2) (hl9 : l.all (fun e => e.1 == 11) = true) : RW (CM rm R2) N D I := by
  have e : ∀ k, R2 rm k = R rm k := fun k => by
    refine hF.get krm ?_
    apply Classical.byContradiction; intro hc
    rw [Bool.not_eq_false] at hc
    obtain ⟨f, hf, h1⟩ := List.any_eq_true.mp hc
    have h2 := List.all_eq_true.mp hl9 f hf
    simp only [Bool.and_eq_true, Bool.or_eq_true, beq_iff_eq, Nat.ble_eq] at h1 h2
    omega
  intro r j a k hC
  obtain ⟨c1, c2, c3, c4⟩ := hC
  exact h r j a k ⟨c1, c2, c3, (e _).symm.trans c4⟩
theorem RpM.go {D : DD} {rm nr ns : Nat} {K : Nat → Nat} {I I' : Nat → Nat → Int32} {J J' : Nat → Nat → Int64} {l lj : List (Nat × Nat)} (h : RpM D rm nr ns I J) (hF : Fr K l I I') (hFJ : Fr K lj J J') (krm : K rm = 10) (knr : K nr = 82) (kns : K ns = 83) (h10 : ∀ k, inS l 10 k = false) (h83 : ∀ k, inS l 83 k = false) (h82 : ∀ k, inS lj 82 k = false) : RpM D rm nr ns I' J' := ⟨h.1.mvI hF krm (fun k _ => h10 k), h.2.1.mv hFJ knr h82, h.2.2.mv hF kns h83⟩
set_option maxHeartbeats 4000000 in
set_option maxRecDepth 100000 in
theorem f_X10_readHill (g : GG) (l : Launch) (K len : Nat → Nat) (I : Nat → Nat → Int32) (J : Nat → Nat → Int64) (R : Nat → Nat → Option Nat) (hs : Sf K len I R) (a0 : Nat) (ka0 : K a0 = 11) (rm : Nat) (hbr : R a0 4 = some rm) (krm : K rm = 10) (mt : Nat) (hmt : R a0 5 = some mt) (kmt : K mt = 49) (nmt : len mt = 900) (B : Nat → Int) (n : Nat) (hB : BT B n mt I) (hBr : ∀ j : Nat, j < n → -128 ≤ B j ∧ B j ≤ 127) (hn : n ≤ 900) (p : Nat) (hp : p ≤ n) (tkm : TkM B n a0 p I J) (nr : Nat) (hnr : R rm 25 = some nr) (knr : K nr = 82) (lnr : len nr = 19) (ns : Nat) (hns : R rm 26 = some ns) (kns : K ns = 83) (lns : len ns = 19) (nn : Nat) (hnn : R rm 27 = some nn) (knn : K nn = 84) (lnn : len nn = 19) (D : DD) (hD : DI D) (sm : SM D rm I) (nm : NmM D nr J) (pg : PgI D ns I) (ni : NnI D ns nn I) (rwd : RW (CM rm R) (cntN D) D I) (hJ : DJ D) : Ct g l yX10_readHill cX10_readHill 2 (Option.none : Option Jvm.ClassFile.FieldType) rmX10_readHill [.ref a0] (K, len, I, J, R) (pV2 (K, len, I, J, R) (fun I' J' => Sf K len I' R ∧ Fr K [(10, 0), (10, 1), (10, 2), (10, 3), (10, 4), (10, 5), (10, 6), (10, 7), (10, 8), (10, 9), (10, 10), (11, 8), (11, 9), (11, 10), (11, 11), (11, 12), (11, 13), (70, 999), (71, 999), (72, 999), (73, 999), (74, 999), (75, 999), (76, 999), (77, 999), (78, 999), (79, 999), (80, 999), (81, 999), (83, 999), (84, 999), (1000, 999)] I I' ∧ Fr K [(11, 14), (82, 999)] J J' ∧ ((∃ (D' : DD), sHill B n 902 p D = .ok D' ∧ SM D' rm I' ∧ RW (CM rm R) (cntN D') D' I' ∧ DJ D' ∧ DI D' ∧ I' a0 12 = I a0 12) ∨ (∃ (kf : Int) (qf : Nat), sHill B n 902 p D = .error (kf, qf) ∧ (I' a0 12).toInt = kf ∧ (I' a0 13).toInt = qf)) ∧ (OM K rm I I') ∧ (OC (CM rm R) qM K I I'))) := by
  refine Ct_intro (by decide +kernel) (Nat.le_of_ble_eq_true rfl) (fun X hC hL hKK hNm hr hlk hQ => ?_)
  subst hL
  have hC : Cx g X cX10_readHill "HillTapModel" 2 rmX10_readHill := hC
  show P g X 2 0 [(0, .ref a0)] [] 0 0 (K, len, I, J, R)
  have hF : Fr K [(10, 0), (10, 1), (10, 2), (10, 3), (10, 4), (10, 5), (10, 6), (10, 7), (10, 8), (10, 9), (10, 10), (11, 8), (11, 9), (11, 10), (11, 11), (11, 12), (11, 13), (70, 999), (71, 999), (72, 999), (73, 999), (74, 999), (75, 999), (76, 999), (77, 999), (78, 999), (79, 999), (80, 999), (81, 999), (83, 999), (84, 999), (1000, 999)] I I := Fr.refl
  have hFJ : Fr K [(11, 14), (82, 999)] J J := Fr.refl
  have ek1 := tkm.e1
  have ek2 := tkm.e2
  have ek3 := tkm.e3
  have ek4 := tkm.e4
  have ek10 := tkm.2.1
  have ek11 := tkm.2.2.2.2.2
  have om : OM K rm I I := OM.rf
  have hcx := CM_x hs krm
  have oc : OC (CM rm R) qM K I I := OC.rf
  refine r_iconst hC (v := (1)) dX10_readHill_0 (by decide) (by decide) (fun x1_ e1 t1 => ?_)
  refine r_istore_n hC (lv' := [(1, .int x1_), (0, .ref a0)]) dX10_readHill_1 (by decide) rfl ?_
  have LP2 : ∀ (mu : Nat) (x2_1 : Int32) (I2 : Nat → Nat → Int32) (J2 : Nat → Nat → Int64) (gf : Nat) (hs2 : Sf K len I2 R) (hF2 : Fr K [(10, 0), (10, 1), (10, 2), (10, 3), (10, 4), (10, 5), (10, 6), (10, 7), (10, 8), (10, 9), (10, 10), (11, 8), (11, 9), (11, 10), (11, 11), (11, 12), (11, 13), (70, 999), (71, 999), (72, 999), (73, 999), (74, 999), (75, 999), (76, 999), (77, 999), (78, 999), (79, 999), (80, 999), (81, 999), (83, 999), (84, 999), (1000, 999)] I I2) (hFJ2 : Fr K [(11, 14), (82, 999)] J J2) (v2_0 : 0 ≤ x2_1.toInt) (v2_1 : x2_1.toInt ≤ 1) (v2_2 : HM B n a0 rm nr ns nn R (sHill B n 902 p D) x2_1.toInt gf I I2 J2) (v2_3 : OM K rm I I2) (v2_4 : OC (CM rm R) qM K I I2), (((gf + gf : Nat) : Int) + x2_1.toInt).toNat = mu → P g X 2 2 [(0, .ref a0), (1, .int x2_1)] [] 0 0 (K, len, I2, J2, R) := by
    intro mu; induction mu using Nat.strongRecOn with | ind mu ih => ?_
    intro x2_1 I2 J2 gf hs2 hF2 hFJ2 v2_0 v2_1 v2_2 v2_3 v2_4 hmu
    have ih2 := ih
    clear ih
    have hmu2 := hmu
    clear hmu
    refine r_iload_n hC dX10_readHill_2 1 rfl ?_
    refine r_if_eq hC (tgt := 35) dX10_readHill_3 (by decide) (fun c3 => ?_) (fun c3 => ?_)
    · rcases v2_2.zero (by omega) with ⟨DF, pF, hpF, tkF, ⟨repF, niF, rwF, hJF⟩, hDF, h12F, hkF, hSF⟩ | ⟨h5F, kfF, qfF, hSF, hf1F, hf2F⟩
      · have ekF1 := tkF.e1
        have ekF5 := tkF.e5
        obtain ⟨sf0, sf3, sf4, sf5, sf6, sf7, sf8, sf9, sf10⟩ := id repF.1
        refine r_aload_n hC dX10_readHill_35 0 rfl ?_
        have n5_36 := tkF.e5
        refine r_geti hC 9 (ci := 10) rfl u10_in (by decide) mT_5_4 dX10_readHill_36 ka0 rfl rfl (fun x4_ e4 => ?_)
        have f4 : x4_.toInt = (I2 a0 9).toInt := by rw [e4]
        refine r_iconst hC (v := (1)) dX10_readHill_39 (by decide) (by decide) (fun x5_ e5 t5 => ?_)
        refine r_icmp_eq hC (tgt := 48) dX10_readHill_40 (by decide) (fun c6 => ?_) (fun c6 => ?_)
        · refine r_aload_n hC dX10_readHill_48 0 rfl ?_
          refine r_getr hC 4 (ci := 10) rfl u10_in (by decide) mT_4_239 dX10_readHill_49 ka0 rfl rfl hbr ?_
          refine r_getiN hC 0 (ci := 9) rfl u9_in (by decide) nF_0 dX10_readHill_52 krm rfl rfl (fun x7_ e7 => ?_)
          have f7 : x7_.toInt = (I2 rm 0).toInt := by rw [e7]
          refine r_iconst hC (v := (-1)) dX10_readHill_55 (by decide) (by decide) (fun x8_ e8 t8 => ?_)
          refine r_icmp_eq hC (tgt := 79) dX10_readHill_56 (by decide) (fun c9 => ?_) (fun c9 => ?_)
          · refine r_aload_n hC dX10_readHill_79 0 rfl ?_
            refine r_bipush hC (v := (6)) dX10_readHill_80 (by decide) (by decide) (fun x10_ e10 t10 => ?_)
            refine r_callV hC (As := [.int x10_]) (rest := []) (ci := 10) (f_X10_wrong g (xL X) K len I2 J2 R hs2 a0 ka0 x10_ (tkF.e5)) mT_5_236 mT_1_10 mT_5_233 mT_5_235 mP_55 okX10_wrong ⟨by decide, by decide⟩ rfl (by show kO (K a0) = _; rw [ka0]; rfl) rfl rfl (Nat.le_of_ble_eq_true rfl) ⟨by decide, by decide⟩ dX10_readHill_82 (aV1 (F := fun st M => P g X 2 85 [(0, .ref a0), (1, .int x2_1)] st _ _ M) (M := (K, len, I2, J2, R)) fun I11 h11 => ?_)
            obtain ⟨hs11, hf11, k11_0, k11_1, k11_2⟩ := h11
            show P g X 2 85 [(0, .ref a0), (1, .int x2_1)] [] _ _ (K, len, I11, J2, R)
            have hF11 : Fr K [(10, 0), (10, 1), (10, 2), (10, 3), (10, 4), (10, 5), (10, 6), (10, 7), (10, 8), (10, 9), (10, 10), (11, 8), (11, 9), (11, 10), (11, 11), (11, 12), (11, 13), (70, 999), (71, 999), (72, 999), (73, 999), (74, 999), (75, 999), (76, 999), (77, 999), (78, 999), (79, 999), (80, 999), (81, 999), (83, 999), (84, 999), (1000, 999)] I I11 := hF2.trans hf11 rfl rfl
            have oc11 := v2_4.mv qM_big hf11 rfl
            have rw11 := rwF.mv hcx qM_big hf11 rfl
            have om11 := v2_3.mv hf11 rfl
            have ni11 := niF.mv hf11 kns knn (fun _ => rfl) (fun _ => rfl)
            have hwp11 := tkF.2.1
            exact r_vret hC hQ hlk hr (by decide) (by decide) dX10_readHill_85 ⟨_, _, rfl, rfl, ⟨hs11, hF11, hFJ2, (by first | exact Or.inl ⟨DF, hSF.trans (FinH_k (by omega) (by omega)), repF.1, rw11, hJF, hDF, h12F⟩ | exact Or.inr ⟨kfF, qfF, hSF, by omega, by omega⟩ | exact Or.inr ⟨1, pl B n pF, hSF.trans (FinH_1 (by omega)), by omega, by omega⟩ | exact Or.inr ⟨6, pl B n pF, hSF.trans (FinH_6 (by omega) (by omega)), by omega, by omega⟩), (by exact om11), (by exact oc11)⟩⟩
          · refine r_aload_n hC dX10_readHill_59 0 rfl ?_
            refine r_getr hC 4 (ci := 10) rfl u10_in (by decide) mT_4_239 dX10_readHill_60 ka0 rfl rfl hbr ?_
            refine r_getiN hC 3 (ci := 9) rfl u9_in (by decide) nF_3 dX10_readHill_63 krm rfl rfl (fun x12_ e12 => ?_)
            have r12 := hs2.rng krm rfl e12
            have f12 : x12_.toInt = (I2 rm 3).toInt := by rw [e12]
            refine r_if_eq hC (tgt := 79) dX10_readHill_66 (by decide) (fun c13 => ?_) (fun c13 => ?_)
            · refine r_aload_n hC dX10_readHill_79 0 rfl ?_
              refine r_bipush hC (v := (6)) dX10_readHill_80 (by decide) (by decide) (fun x14_ e14 t14 => ?_)
              refine r_callV hC (As := [.int x14_]) (rest := []) (ci := 10) (f_X10_wrong g (xL X) K len I2 J2 R hs2 a0 ka0 x14_ (tkF.e5)) mT_5_236 mT_1_10 mT_5_233 mT_5_235 mP_55 okX10_wrong ⟨by decide, by decide⟩ rfl (by show kO (K a0) = _; rw [ka0]; rfl) rfl rfl (Nat.le_of_ble_eq_true rfl) ⟨by decide, by decide⟩ dX10_readHill_82 (aV1 (F := fun st M => P g X 2 85 [(0, .ref a0), (1, .int x2_1)] st _ _ M) (M := (K, len, I2, J2, R)) fun I15 h15 => ?_)
              obtain ⟨hs15, hf15, k15_0, k15_1, k15_2⟩ := h15
              show P g X 2 85 [(0, .ref a0), (1, .int x2_1)] [] _ _ (K, len, I15, J2, R)
              have hF15 : Fr K [(10, 0), (10, 1), (10, 2), (10, 3), (10, 4), (10, 5), (10, 6), (10, 7), (10, 8), (10, 9), (10, 10), (11, 8), (11, 9), (11, 10), (11, 11), (11, 12), (11, 13), (70, 999), (71, 999), (72, 999), (73, 999), (74, 999), (75, 999), (76, 999), (77, 999), (78, 999), (79, 999), (80, 999), (81, 999), (83, 999), (84, 999), (1000, 999)] I I15 := hF2.trans hf15 rfl rfl
              have oc15 := v2_4.mv qM_big hf15 rfl
              have rw15 := rwF.mv hcx qM_big hf15 rfl
              have om15 := v2_3.mv hf15 rfl
              have ni15 := niF.mv hf15 kns knn (fun _ => rfl) (fun _ => rfl)
              have hwp15 := tkF.2.1
              exact r_vret hC hQ hlk hr (by decide) (by decide) dX10_readHill_85 ⟨_, _, rfl, rfl, ⟨hs15, hF15, hFJ2, (by first | exact Or.inl ⟨DF, hSF.trans (FinH_k (by omega) (by omega)), repF.1, rw15, hJF, hDF, h12F⟩ | exact Or.inr ⟨kfF, qfF, hSF, by omega, by omega⟩ | exact Or.inr ⟨1, pl B n pF, hSF.trans (FinH_1 (by omega)), by omega, by omega⟩ | exact Or.inr ⟨6, pl B n pF, hSF.trans (FinH_6 (by omega) (by omega)), by omega, by omega⟩), (by exact om15), (by exact oc15)⟩⟩
            · refine r_aload_n hC dX10_readHill_69 0 rfl ?_
              refine r_getr hC 4 (ci := 10) rfl u10_in (by decide) mT_4_239 dX10_readHill_70 ka0 rfl rfl hbr ?_
              refine r_getiN hC 7 (ci := 9) rfl u9_in (by decide) nF_7 dX10_readHill_73 krm rfl rfl (fun x16_ e16 => ?_)
              have r16 := hs2.rng krm rfl e16
              have f16 : x16_.toInt = (I2 rm 7).toInt := by rw [e16]
              refine r_if_ne hC (tgt := 85) dX10_readHill_76 (by decide) (fun c17 => ?_) (fun c17 => ?_)
              · exact r_vret hC hQ hlk hr (by decide) (by decide) dX10_readHill_85 ⟨_, _, rfl, rfl, ⟨hs2, hF2, hFJ2, (by first | exact Or.inl ⟨DF, hSF.trans (FinH_k (by omega) (by omega)), repF.1, rwF, hJF, hDF, h12F⟩ | exact Or.inr ⟨kfF, qfF, hSF, by omega, by omega⟩ | exact Or.inr ⟨1, pl B n pF, hSF.trans (FinH_1 (by omega)), by omega, by omega⟩ | exact Or.inr ⟨6, pl B n pF, hSF.trans (FinH_6 (by omega) (by omega)), by omega, by omega⟩), (by exact v2_3), (by exact v2_4)⟩⟩
              · refine r_aload_n hC dX10_readHill_79 0 rfl ?_
                refine r_bipush hC (v := (6)) dX10_readHill_80 (by decide) (by decide) (fun x18_ e18 t18 => ?_)
                refine r_callV hC (As := [.int x18_]) (rest := []) (ci := 10) (f_X10_wrong g (xL X) K len I2 J2 R hs2 a0 ka0 x18_ (tkF.e5)) mT_5_236 mT_1_10 mT_5_233 mT_5_235 mP_55 okX10_wrong ⟨by decide, by decide⟩ rfl (by show kO (K a0) = _; rw [ka0]; rfl) rfl rfl (Nat.le_of_ble_eq_true rfl) ⟨by decide, by decide⟩ dX10_readHill_82 (aV1 (F := fun st M => P g X 2 85 [(0, .ref a0), (1, .int x2_1)] st _ _ M) (M := (K, len, I2, J2, R)) fun I19 h19 => ?_)
                obtain ⟨hs19, hf19, k19_0, k19_1, k19_2⟩ := h19
                show P g X 2 85 [(0, .ref a0), (1, .int x2_1)] [] _ _ (K, len, I19, J2, R)
                have hF19 : Fr K [(10, 0), (10, 1), (10, 2), (10, 3), (10, 4), (10, 5), (10, 6), (10, 7), (10, 8), (10, 9), (10, 10), (11, 8), (11, 9), (11, 10), (11, 11), (11, 12), (11, 13), (70, 999), (71, 999), (72, 999), (73, 999), (74, 999), (75, 999), (76, 999), (77, 999), (78, 999), (79, 999), (80, 999), (81, 999), (83, 999), (84, 999), (1000, 999)] I I19 := hF2.trans hf19 rfl rfl
                have oc19 := v2_4.mv qM_big hf19 rfl
                have rw19 := rwF.mv hcx qM_big hf19 rfl
                have om19 := v2_3.mv hf19 rfl
                have ni19 := niF.mv hf19 kns knn (fun _ => rfl) (fun _ => rfl)
                have hwp19 := tkF.2.1
                exact r_vret hC hQ hlk hr (by decide) (by decide) dX10_readHill_85 ⟨_, _, rfl, rfl, ⟨hs19, hF19, hFJ2, (by first | exact Or.inl ⟨DF, hSF.trans (FinH_k (by omega) (by omega)), repF.1, rw19, hJF, hDF, h12F⟩ | exact Or.inr ⟨kfF, qfF, hSF, by omega, by omega⟩ | exact Or.inr ⟨1, pl B n pF, hSF.trans (FinH_1 (by omega)), by omega, by omega⟩ | exact Or.inr ⟨6, pl B n pF, hSF.trans (FinH_6 (by omega) (by omega)), by omega, by omega⟩), (by exact om19), (by exact oc19)⟩⟩
        · refine r_aload_n hC dX10_readHill_43 0 rfl ?_
          refine r_iconst hC (v := (1)) dX10_readHill_44 (by decide) (by decide) (fun x20_ e20 t20 => ?_)
          refine r_callV hC (As := [.int x20_]) (rest := []) (ci := 10) (f_X10_wrong g (xL X) K len I2 J2 R hs2 a0 ka0 x20_ (tkF.e5)) mT_5_236 mT_1_10 mT_5_233 mT_5_235 mP_55 okX10_wrong ⟨by decide, by decide⟩ rfl (by show kO (K a0) = _; rw [ka0]; rfl) rfl rfl (Nat.le_of_ble_eq_true rfl) ⟨by decide, by decide⟩ dX10_readHill_45 (aV1 (F := fun st M => P g X 2 48 [(0, .ref a0), (1, .int x2_1)] st _ _ M) (M := (K, len, I2, J2, R)) fun I21 h21 => ?_)
          obtain ⟨hs21, hf21, k21_0, k21_1, k21_2⟩ := h21
          show P g X 2 48 [(0, .ref a0), (1, .int x2_1)] [] _ _ (K, len, I21, J2, R)
          have hF21 : Fr K [(10, 0), (10, 1), (10, 2), (10, 3), (10, 4), (10, 5), (10, 6), (10, 7), (10, 8), (10, 9), (10, 10), (11, 8), (11, 9), (11, 10), (11, 11), (11, 12), (11, 13), (70, 999), (71, 999), (72, 999), (73, 999), (74, 999), (75, 999), (76, 999), (77, 999), (78, 999), (79, 999), (80, 999), (81, 999), (83, 999), (84, 999), (1000, 999)] I I21 := hF2.trans hf21 rfl rfl
          have oc21 := v2_4.mv qM_big hf21 rfl
          have rw21 := rwF.mv hcx qM_big hf21 rfl
          have om21 := v2_3.mv hf21 rfl
          have ni21 := niF.mv hf21 kns knn (fun _ => rfl) (fun _ => rfl)
          have hwp21 := tkF.2.1
          refine r_aload_n hC dX10_readHill_48 0 rfl ?_
          refine r_getr hC 4 (ci := 10) rfl u10_in (by decide) mT_4_239 dX10_readHill_49 ka0 rfl rfl hbr ?_
          refine r_getiN hC 0 (ci := 9) rfl u9_in (by decide) nF_0 dX10_readHill_52 krm rfl rfl (fun x22_ e22 => ?_)
          have f22 : x22_.toInt = (I21 rm 0).toInt := by rw [e22]
          refine r_iconst hC (v := (-1)) dX10_readHill_55 (by decide) (by decide) (fun x23_ e23 t23 => ?_)
          refine r_icmp_eq hC (tgt := 79) dX10_readHill_56 (by decide) (fun c24 => ?_) (fun c24 => ?_)
          · refine r_aload_n hC dX10_readHill_79 0 rfl ?_
            refine r_bipush hC (v := (6)) dX10_readHill_80 (by decide) (by decide) (fun x25_ e25 t25 => ?_)
            refine r_callV hC (As := [.int x25_]) (rest := []) (ci := 10) (e_X10_wrong g (xL X) K len I21 J2 R hs21 a0 ka0 x25_ (by omega)) mT_5_236 mT_1_10 mT_5_233 mT_5_235 mP_55 okX10_wrong ⟨by decide, by decide⟩ rfl (by show kO (K a0) = _; rw [ka0]; rfl) rfl rfl (Nat.le_of_ble_eq_true rfl) ⟨by decide, by decide⟩ dX10_readHill_82 (aV1 (F := fun st M => P g X 2 85 [(0, .ref a0), (1, .int x2_1)] st _ _ M) (M := (K, len, I21, J2, R)) fun I26 h26 => ?_)
            obtain ⟨hs26, hf26, k26_0, k26_1, k26_2⟩ := h26
            show P g X 2 85 [(0, .ref a0), (1, .int x2_1)] [] _ _ (K, len, I26, J2, R)
            have hF26 : Fr K [(10, 0), (10, 1), (10, 2), (10, 3), (10, 4), (10, 5), (10, 6), (10, 7), (10, 8), (10, 9), (10, 10), (11, 8), (11, 9), (11, 10), (11, 11), (11, 12), (11, 13), (70, 999), (71, 999), (72, 999), (73, 999), (74, 999), (75, 999), (76, 999), (77, 999), (78, 999), (79, 999), (80, 999), (81, 999), (83, 999), (84, 999), (1000, 999)] I I26 := hF21.trans hf26 rfl rfl
            have oc26 := oc21.mv qM_big hf26 rfl
            have om26 := om21.mv hf26 rfl
            exact r_vret hC hQ hlk hr (by decide) (by decide) dX10_readHill_85 ⟨_, _, rfl, rfl, ⟨hs26, hF26, hFJ2, (by first | exact Or.inl ⟨DF, hSF.trans (FinH_k (by omega) (by omega)), repF.1, rw21, hJF, hDF, h12F⟩ | exact Or.inr ⟨kfF, qfF, hSF, by omega, by omega⟩ | exact Or.inr ⟨1, pl B n pF, hSF.trans (FinH_1 (by omega)), by omega, by omega⟩ | exact Or.inr ⟨6, pl B n pF, hSF.trans (FinH_6 (by omega) (by omega)), by omega, by omega⟩), (by exact om26), (by exact oc26)⟩⟩
          · refine r_aload_n hC dX10_readHill_59 0 rfl ?_
            refine r_getr hC 4 (ci := 10) rfl u10_in (by decide) mT_4_239 dX10_readHill_60 ka0 rfl rfl hbr ?_
            refine r_getiN hC 3 (ci := 9) rfl u9_in (by decide) nF_3 dX10_readHill_63 krm rfl rfl (fun x27_ e27 => ?_)
            have r27 := hs21.rng krm rfl e27
            have f27 : x27_.toInt = (I21 rm 3).toInt := by rw [e27]
            refine r_if_eq hC (tgt := 79) dX10_readHill_66 (by decide) (fun c28 => ?_) (fun c28 => ?_)
            · refine r_aload_n hC dX10_readHill_79 0 rfl ?_
              refine r_bipush hC (v := (6)) dX10_readHill_80 (by decide) (by decide) (fun x29_ e29 t29 => ?_)
              refine r_callV hC (As := [.int x29_]) (rest := []) (ci := 10) (e_X10_wrong g (xL X) K len I21 J2 R hs21 a0 ka0 x29_ (by omega)) mT_5_236 mT_1_10 mT_5_233 mT_5_235 mP_55 okX10_wrong ⟨by decide, by decide⟩ rfl (by show kO (K a0) = _; rw [ka0]; rfl) rfl rfl (Nat.le_of_ble_eq_true rfl) ⟨by decide, by decide⟩ dX10_readHill_82 (aV1 (F := fun st M => P g X 2 85 [(0, .ref a0), (1, .int x2_1)] st _ _ M) (M := (K, len, I21, J2, R)) fun I30 h30 => ?_)
              obtain ⟨hs30, hf30, k30_0, k30_1, k30_2⟩ := h30
              show P g X 2 85 [(0, .ref a0), (1, .int x2_1)] [] _ _ (K, len, I30, J2, R)
              have hF30 : Fr K [(10, 0), (10, 1), (10, 2), (10, 3), (10, 4), (10, 5), (10, 6), (10, 7), (10, 8), (10, 9), (10, 10), (11, 8), (11, 9), (11, 10), (11, 11), (11, 12), (11, 13), (70, 999), (71, 999), (72, 999), (73, 999), (74, 999), (75, 999), (76, 999), (77, 999), (78, 999), (79, 999), (80, 999), (81, 999), (83, 999), (84, 999), (1000, 999)] I I30 := hF21.trans hf30 rfl rfl
              have oc30 := oc21.mv qM_big hf30 rfl
              have om30 := om21.mv hf30 rfl
              exact r_vret hC hQ hlk hr (by decide) (by decide) dX10_readHill_85 ⟨_, _, rfl, rfl, ⟨hs30, hF30, hFJ2, (by first | exact Or.inl ⟨DF, hSF.trans (FinH_k (by omega) (by omega)), repF.1, rw21, hJF, hDF, h12F⟩ | exact Or.inr ⟨kfF, qfF, hSF, by omega, by omega⟩ | exact Or.inr ⟨1, pl B n pF, hSF.trans (FinH_1 (by omega)), by omega, by omega⟩ | exact Or.inr ⟨6, pl B n pF, hSF.trans (FinH_6 (by omega) (by omega)), by omega, by omega⟩), (by exact om30), (by exact oc30)⟩⟩
            · refine r_aload_n hC dX10_readHill_69 0 rfl ?_
              refine r_getr hC 4 (ci := 10) rfl u10_in (by decide) mT_4_239 dX10_readHill_70 ka0 rfl rfl hbr ?_
              refine r_getiN hC 7 (ci := 9) rfl u9_in (by decide) nF_7 dX10_readHill_73 krm rfl rfl (fun x31_ e31 => ?_)
              have r31 := hs21.rng krm rfl e31
              have f31 : x31_.toInt = (I21 rm 7).toInt := by rw [e31]
              refine r_if_ne hC (tgt := 85) dX10_readHill_76 (by decide) (fun c32 => ?_) (fun c32 => ?_)
              · exact r_vret hC hQ hlk hr (by decide) (by decide) dX10_readHill_85 ⟨_, _, rfl, rfl, ⟨hs21, hF21, hFJ2, (by first | exact Or.inl ⟨DF, hSF.trans (FinH_k (by omega) (by omega)), repF.1, rw21, hJF, hDF, h12F⟩ | exact Or.inr ⟨kfF, qfF, hSF, by omega, by omega⟩ | exact Or.inr ⟨1, pl B n pF, hSF.trans (FinH_1 (by omega)), by omega, by omega⟩ | exact Or.inr ⟨6, pl B n pF, hSF.trans (FinH_6 (by omega) (by omega)), by omega, by omega⟩), (by exact om21), (by exact oc21)⟩⟩
              · refine r_aload_n hC dX10_readHill_79 0 rfl ?_
                refine r_bipush hC (v := (6)) dX10_readHill_80 (by decide) (by decide) (fun x33_ e33 t33 => ?_)
                refine r_callV hC (As := [.int x33_]) (rest := []) (ci := 10) (e_X10_wrong g (xL X) K len I21 J2 R hs21 a0 ka0 x33_ (by omega)) mT_5_236 mT_1_10 mT_5_233 mT_5_235 mP_55 okX10_wrong ⟨by decide, by decide⟩ rfl (by show kO (K a0) = _; rw [ka0]; rfl) rfl rfl (Nat.le_of_ble_eq_true rfl) ⟨by decide, by decide⟩ dX10_readHill_82 (aV1 (F := fun st M => P g X 2 85 [(0, .ref a0), (1, .int x2_1)] st _ _ M) (M := (K, len, I21, J2, R)) fun I34 h34 => ?_)
                obtain ⟨hs34, hf34, k34_0, k34_1, k34_2⟩ := h34
                show P g X 2 85 [(0, .ref a0), (1, .int x2_1)] [] _ _ (K, len, I34, J2, R)
                have hF34 : Fr K [(10, 0), (10, 1), (10, 2), (10, 3), (10, 4), (10, 5), (10, 6), (10, 7), (10, 8), (10, 9), (10, 10), (11, 8), (11, 9), (11, 10), (11, 11), (11, 12), (11, 13), (70, 999), (71, 999), (72, 999), (73, 999), (74, 999), (75, 999), (76, 999), (77, 999), (78, 999), (79, 999), (80, 999), (81, 999), (83, 999), (84, 999), (1000, 999)] I I34 := hF21.trans hf34 rfl rfl
                have oc34 := oc21.mv qM_big hf34 rfl
                have om34 := om21.mv hf34 rfl
                exact r_vret hC hQ hlk hr (by decide) (by decide) dX10_readHill_85 ⟨_, _, rfl, rfl, ⟨hs34, hF34, hFJ2, (by first | exact Or.inl ⟨DF, hSF.trans (FinH_k (by omega) (by omega)), repF.1, rw21, hJF, hDF, h12F⟩ | exact Or.inr ⟨kfF, qfF, hSF, by omega, by omega⟩ | exact Or.inr ⟨1, pl B n pF, hSF.trans (FinH_1 (by omega)), by omega, by omega⟩ | exact Or.inr ⟨6, pl B n pF, hSF.trans (FinH_6 (by omega) (by omega)), by omega, by omega⟩), (by exact om34), (by exact oc34)⟩⟩
      · refine r_aload_n hC dX10_readHill_35 0 rfl ?_
        refine r_geti hC 9 (ci := 10) rfl u10_in (by decide) mT_5_4 dX10_readHill_36 ka0 rfl rfl (fun x35_ e35 => ?_)
        have f35 : x35_.toInt = (I2 a0 9).toInt := by rw [e35]
        refine r_iconst hC (v := (1)) dX10_readHill_39 (by decide) (by decide) (fun x36_ e36 t36 => ?_)
        refine r_icmp_eq hC (tgt := 48) dX10_readHill_40 (by decide) (fun c37 => ?_) (fun c37 => ?_)
        · exfalso; omega
        refine r_aload_n hC dX10_readHill_43 0 rfl ?_
        refine r_iconst hC (v := (1)) dX10_readHill_44 (by decide) (by decide) (fun x38_ e38 t38 => ?_)
        refine r_callV hC (As := [.int x38_]) (rest := []) (ci := 10) (e_X10_wrong g (xL X) K len I2 J2 R hs2 a0 ka0 x38_ (by omega)) mT_5_236 mT_1_10 mT_5_233 mT_5_235 mP_55 okX10_wrong ⟨by decide, by decide⟩ rfl (by show kO (K a0) = _; rw [ka0]; rfl) rfl rfl (Nat.le_of_ble_eq_true rfl) ⟨by decide, by decide⟩ dX10_readHill_45 (aV1 (F := fun st M => P g X 2 48 [(0, .ref a0), (1, .int x2_1)] st _ _ M) (M := (K, len, I2, J2, R)) fun I39 h39 => ?_)
        obtain ⟨hs39, hf39, k39_0, k39_1, k39_2⟩ := h39
        show P g X 2 48 [(0, .ref a0), (1, .int x2_1)] [] _ _ (K, len, I39, J2, R)
        have hF39 : Fr K [(10, 0), (10, 1), (10, 2), (10, 3), (10, 4), (10, 5), (10, 6), (10, 7), (10, 8), (10, 9), (10, 10), (11, 8), (11, 9), (11, 10), (11, 11), (11, 12), (11, 13), (70, 999), (71, 999), (72, 999), (73, 999), (74, 999), (75, 999), (76, 999), (77, 999), (78, 999), (79, 999), (80, 999), (81, 999), (83, 999), (84, 999), (1000, 999)] I I39 := hF2.trans hf39 rfl rfl
        have oc39 := v2_4.mv qM_big hf39 rfl
        have om39 := v2_3.mv hf39 rfl
        refine r_aload_n hC dX10_readHill_48 0 rfl ?_
        refine r_getr hC 4 (ci := 10) rfl u10_in (by decide) mT_4_239 dX10_readHill_49 ka0 rfl rfl hbr ?_
        refine r_getiN hC 0 (ci := 9) rfl u9_in (by decide) nF_0 dX10_readHill_52 krm rfl rfl (fun x40_ e40 => ?_)
        have f40 : x40_.toInt = (I39 rm 0).toInt := by rw [e40]
        refine r_iconst hC (v := (-1)) dX10_readHill_55 (by decide) (by decide) (fun x41_ e41 t41 => ?_)
        refine r_icmp_eq hC (tgt := 79) dX10_readHill_56 (by decide) (fun c42 => ?_) (fun c42 => ?_)
        · refine r_aload_n hC dX10_readHill_79 0 rfl ?_
          refine r_bipush hC (v := (6)) dX10_readHill_80 (by decide) (by decide) (fun x43_ e43 t43 => ?_)
          refine r_callV hC (As := [.int x43_]) (rest := []) (ci := 10) (e_X10_wrong g (xL X) K len I39 J2 R hs39 a0 ka0 x43_ (by omega)) mT_5_236 mT_1_10 mT_5_233 mT_5_235 mP_55 okX10_wrong ⟨by decide, by decide⟩ rfl (by show kO (K a0) = _; rw [ka0]; rfl) rfl rfl (Nat.le_of_ble_eq_true rfl) ⟨by decide, by decide⟩ dX10_readHill_82 (aV1 (F := fun st M => P g X 2 85 [(0, .ref a0), (1, .int x2_1)] st _ _ M) (M := (K, len, I39, J2, R)) fun I44 h44 => ?_)
          obtain ⟨hs44, hf44, k44_0, k44_1, k44_2⟩ := h44
          show P g X 2 85 [(0, .ref a0), (1, .int x2_1)] [] _ _ (K, len, I44, J2, R)
          have hF44 : Fr K [(10, 0), (10, 1), (10, 2), (10, 3), (10, 4), (10, 5), (10, 6), (10, 7), (10, 8), (10, 9), (10, 10), (11, 8), (11, 9), (11, 10), (11, 11), (11, 12), (11, 13), (70, 999), (71, 999), (72, 999), (73, 999), (74, 999), (75, 999), (76, 999), (77, 999), (78, 999), (79, 999), (80, 999), (81, 999), (83, 999), (84, 999), (1000, 999)] I I44 := hF39.trans hf44 rfl rfl
          have oc44 := oc39.mv qM_big hf44 rfl
          have om44 := om39.mv hf44 rfl
          exact r_vret hC hQ hlk hr (by decide) (by decide) dX10_readHill_85 ⟨_, _, rfl, rfl, ⟨hs44, hF44, hFJ2, (by first | exact Or.inl ⟨DF, hSF.trans (FinH_k (by omega) (by omega)), rep.1, rwd, hJF, hDF, rfl⟩ | exact Or.inr ⟨kfF, qfF, hSF, by omega, by omega⟩ | exact Or.inr ⟨1, pl B n pF, hSF.trans (FinH_1 (by omega)), by omega, by omega⟩ | exact Or.inr ⟨6, pl B n pF, hSF.trans (FinH_6 (by omega) (by omega)), by omega, by omega⟩), (by exact om44), (by exact oc44)⟩⟩
        · refine r_aload_n hC dX10_readHill_59 0 rfl ?_
          refine r_getr hC 4 (ci := 10) rfl u10_in (by decide) mT_4_239 dX10_readHill_60 ka0 rfl rfl hbr ?_
          refine r_getiN hC 3 (ci := 9) rfl u9_in (by decide) nF_3 dX10_readHill_63 krm rfl rfl (fun x45_ e45 => ?_)
          have r45 := hs39.rng krm rfl e45
          have f45 : x45_.toInt = (I39 rm 3).toInt := by rw [e45]
          refine r_if_eq hC (tgt := 79) dX10_readHill_66 (by decide) (fun c46 => ?_) (fun c46 => ?_)
          · refine r_aload_n hC dX10_readHill_79 0 rfl ?_
            refine r_bipush hC (v := (6)) dX10_readHill_80 (by decide) (by decide) (fun x47_ e47 t47 => ?_)
            refine r_callV hC (As := [.int x47_]) (rest := []) (ci := 10) (e_X10_wrong g (xL X) K len I39 J2 R hs39 a0 ka0 x47_ (by omega)) mT_5_236 mT_1_10 mT_5_233 mT_5_235 mP_55 okX10_wrong ⟨by decide, by decide⟩ rfl (by show kO (K a0) = _; rw [ka0]; rfl) rfl rfl (Nat.le_of_ble_eq_true rfl) ⟨by decide, by decide⟩ dX10_readHill_82 (aV1 (F := fun st M => P g X 2 85 [(0, .ref a0), (1, .int x2_1)] st _ _ M) (M := (K, len, I39, J2, R)) fun I48 h48 => ?_)
            obtain ⟨hs48, hf48, k48_0, k48_1, k48_2⟩ := h48
            show P g X 2 85 [(0, .ref a0), (1, .int x2_1)] [] _ _ (K, len, I48, J2, R)
            have hF48 : Fr K [(10, 0), (10, 1), (10, 2), (10, 3), (10, 4), (10, 5), (10, 6), (10, 7), (10, 8), (10, 9), (10, 10), (11, 8), (11, 9), (11, 10), (11, 11), (11, 12), (11, 13), (70, 999), (71, 999), (72, 999), (73, 999), (74, 999), (75, 999), (76, 999), (77, 999), (78, 999), (79, 999), (80, 999), (81, 999), (83, 999), (84, 999), (1000, 999)] I I48 := hF39.trans hf48 rfl rfl
            have oc48 := oc39.mv qM_big hf48 rfl
            have om48 := om39.mv hf48 rfl
            exact r_vret hC hQ hlk hr (by decide) (by decide) dX10_readHill_85 ⟨_, _, rfl, rfl, ⟨hs48, hF48, hFJ2, (by first | exact Or.inl ⟨DF, hSF.trans (FinH_k (by omega) (by omega)), rep.1, rwd, hJF, hDF, rfl⟩ | exact Or.inr ⟨kfF, qfF, hSF, by omega, by omega⟩ | exact Or.inr ⟨1, pl B n pF, hSF.trans (FinH_1 (by omega)), by omega, by omega⟩ | exact Or.inr ⟨6, pl B n pF, hSF.trans (FinH_6 (by omega) (by omega)), by omega, by omega⟩), (by exact om48), (by exact oc48)⟩⟩
          · refine r_aload_n hC dX10_readHill_69 0 rfl ?_
            refine r_getr hC 4 (ci := 10) rfl u10_in (by decide) mT_4_239 dX10_readHill_70 ka0 rfl rfl hbr ?_
            refine r_getiN hC 7 (ci := 9) rfl u9_in (by decide) nF_7 dX10_readHill_73 krm rfl rfl (fun x49_ e49 => ?_)
            have r49 := hs39.rng krm rfl e49
            have f49 : x49_.toInt = (I39 rm 7).toInt := by rw [e49]
            refine r_if_ne hC (tgt := 85) dX10_readHill_76 (by decide) (fun c50 => ?_) (fun c50 => ?_)
            · exact r_vret hC hQ hlk hr (by decide) (by decide) dX10_readHill_85 ⟨_, _, rfl, rfl, ⟨hs39, hF39, hFJ2, (by first | exact Or.inl ⟨DF, hSF.trans (FinH_k (by omega) (by omega)), rep.1, rwd, hJF, hDF, rfl⟩ | exact Or.inr ⟨kfF, qfF, hSF, by omega, by omega⟩ | exact Or.inr ⟨1, pl B n pF, hSF.trans (FinH_1 (by omega)), by omega, by omega⟩ | exact Or.inr ⟨6, pl B n pF, hSF.trans (FinH_6 (by omega) (by omega)), by omega, by omega⟩), (by exact om39), (by exact oc39)⟩⟩
            · refine r_aload_n hC dX10_readHill_79 0 rfl ?_
              refine r_bipush hC (v := (6)) dX10_readHill_80 (by decide) (by decide) (fun x51_ e51 t51 => ?_)
              refine r_callV hC (As := [.int x51_]) (rest := []) (ci := 10) (e_X10_wrong g (xL X) K len I39 J2 R hs39 a0 ka0 x51_ (by omega)) mT_5_236 mT_1_10 mT_5_233 mT_5_235 mP_55 okX10_wrong ⟨by decide, by decide⟩ rfl (by show kO (K a0) = _; rw [ka0]; rfl) rfl rfl (Nat.le_of_ble_eq_true rfl) ⟨by decide, by decide⟩ dX10_readHill_82 (aV1 (F := fun st M => P g X 2 85 [(0, .ref a0), (1, .int x2_1)] st _ _ M) (M := (K, len, I39, J2, R)) fun I52 h52 => ?_)
              obtain ⟨hs52, hf52, k52_0, k52_1, k52_2⟩ := h52
              show P g X 2 85 [(0, .ref a0), (1, .int x2_1)] [] _ _ (K, len, I52, J2, R)
              have hF52 : Fr K [(10, 0), (10, 1), (10, 2), (10, 3), (10, 4), (10, 5), (10, 6), (10, 7), (10, 8), (10, 9), (10, 10), (11, 8), (11, 9), (11, 10), (11, 11), (11, 12), (11, 13), (70, 999), (71, 999), (72, 999), (73, 999), (74, 999), (75, 999), (76, 999), (77, 999), (78, 999), (79, 999), (80, 999), (81, 999), (83, 999), (84, 999), (1000, 999)] I I52 := hF39.trans hf52 rfl rfl
              have oc52 := oc39.mv qM_big hf52 rfl
              have om52 := om39.mv hf52 rfl
              exact r_vret hC hQ hlk hr (by decide) (by decide) dX10_readHill_85 ⟨_, _, rfl, rfl, ⟨hs52, hF52, hFJ2, (by first | exact Or.inl ⟨DF, hSF.trans (FinH_k (by omega) (by omega)), rep.1, rwd, hJF, hDF, rfl⟩ | exact Or.inr ⟨kfF, qfF, hSF, by omega, by omega⟩ | exact Or.inr ⟨1, pl B n pF, hSF.trans (FinH_1 (by omega)), by omega, by omega⟩ | exact Or.inr ⟨6, pl B n pF, hSF.trans (FinH_6 (by omega) (by omega)), by omega, by omega⟩), (by exact om52), (by exact oc52)⟩⟩
    · obtain ⟨DL, pL, hpL, tkL, ⟨repL, niL, rwL, hJL⟩, hDL, h12L, hfL, hSL⟩ := v2_2.one (by omega)
      refine r_aload_n hC dX10_readHill_6 0 rfl ?_
      refine r_callV hC (As := []) (rest := []) (ci := 10) (f_X10_readLine g (xL X) K len I2 J2 R hs2 a0 ka0 rm hbr krm mt hmt kmt nmt B n (hB.mv9 hF2 kmt (fun _ => rfl)) hBr hn pL hpL tkL nr hnr knr lnr ns hns kns lns nn hnn knn lnn DL hDL repL.1 repL.2.1 repL.2.2 niL rwL hJL) mT_5_218 mT_1_10 mT_5_215 mT_5_217 mP_52 okX10_readLine ⟨by decide, by decide⟩ rfl (by show kO (K a0) = _; rw [ka0]; rfl) rfl rfl (Nat.le_of_ble_eq_true rfl) ⟨by decide, by decide⟩ dX10_readHill_7 (aV2 (F := fun st M => P g X 2 10 [(0, .ref a0), (1, .int x2_1)] st _ _ M) (M := (K, len, I2, J2, R)) fun I53 J53 h53 => ?_)
      obtain ⟨hs53, hf53, hfj53, k53_0, k53_1, k53_2⟩ := h53
      show P g X 2 10 [(0, .ref a0), (1, .int x2_1)] [] _ _ (K, len, I53, J53, R)
      have hF53 : Fr K [(10, 0), (10, 1), (10, 2), (10, 3), (10, 4), (10, 5), (10, 6), (10, 7), (10, 8), (10, 9), (10, 10), (11, 8), (11, 9), (11, 10), (11, 11), (11, 12), (11, 13), (70, 999), (71, 999), (72, 999), (73, 999), (74, 999), (75, 999), (76, 999), (77, 999), (78, 999), (79, 999), (80, 999), (81, 999), (83, 999), (84, 999), (1000, 999)] I I53 := hF2.trans hf53 rfl rfl
      have hFJ53 : Fr K [(11, 14), (82, 999)] J J53 := hFJ2.trans hfj53 rfl rfl
      have oc53 := v2_4.tr k53_2
      have om53 := v2_3.tr k53_1
      rcases k53_0 with ⟨D53, p53, hsp53, hp53, tk53, rep53, niL53, rwL53, fl53⟩ | ⟨kf53, qf53, hsp53, hf053, hf153, hf253⟩
      · have fq53 : I53 a0 12 = I a0 12 := fl53.trans h12L
        refine r_aload_n hC dX10_readHill_10 0 rfl ?_
        have n5_11 := tk53.e5
        have ek4b := tk53.e4
        refine r_geti hC 9 (ci := 10) rfl u10_in (by decide) mT_5_4 dX10_readHill_11 ka0 rfl rfl (fun x54_ e54 => ?_)
        have f54 : x54_.toInt = (I53 a0 9).toInt := by rw [e54]
        refine r_iconst hC (v := (4)) dX10_readHill_14 (by decide) (by decide) (fun x55_ e55 t55 => ?_)
        refine r_icmp_ne hC (tgt := 22) dX10_readHill_15 (by decide) (fun c56 => ?_) (fun c56 => ?_)
        · refine r_iconst hC (v := (0)) dX10_readHill_22 (by decide) (by decide) (fun x57_ e57 t57 => ?_)
          refine r_istore_n hC (lv' := [(1, .int x57_), (0, .ref a0)]) dX10_readHill_23 (by decide) rfl ?_
          refine r_iload_n hC dX10_readHill_24 0 rfl ?_
          refine r_if_eq hC (tgt := 2) dX10_readHill_25 (by decide) (fun c58 => ?_) (fun c58 => ?_)
          rotate_left
          · exfalso; omega
          refine r_sub [1, 0] rfl ?_
          exact ih2 (((((gf - 1) + (gf - 1) : Nat) : Int) + x57_.toInt).toNat) (by omega) x57_ I53 J53 (gf - 1) hs53 hF53 hFJ53 (by omega) (by omega) (by first | exact Or.inl ⟨by omega, D, p, hp, tkm, ⟨⟨sm, nm, pg⟩, ni, rwd, hJ⟩, hD, rfl, by omega, rfl⟩ | exact HM.mk1 hpL hfL hSL hDL hsp53 (by omega) (by omega) tk53 ⟨rep53, niL53, rwL53, sLine_dj hpL hDL hJL hsp53⟩ fq53 | exact HM.mk0 hpL hfL hSL hDL hsp53 (by omega) (by omega) tk53 ⟨rep53, niL53, rwL53, sLine_dj hpL hDL hJL hsp53⟩ fq53 | exact HM.mke hpL hfL hSL hsp53 (by omega) (by omega) (by omega) (by omega)) (by exact om53) (by exact oc53) rfl
        · refine r_iconst hC (v := (1)) dX10_readHill_18 (by decide) (by decide) (fun x59_ e59 t59 => ?_)
          refine r_goto hC (tgt := 23) dX10_readHill_19 (by decide) ?_
          refine r_istore_n hC (lv' := [(1, .int x59_), (0, .ref a0)]) dX10_readHill_23 (by decide) rfl ?_
          refine r_iload_n hC dX10_readHill_24 0 rfl ?_
          refine r_if_eq hC (tgt := 2) dX10_readHill_25 (by decide) (fun c60 => ?_) (fun c60 => ?_)
          · exfalso; omega
          refine r_aload_n hC dX10_readHill_28 1 rfl ?_
          refine r_callV hC (As := []) (rest := []) (ci := 10) (f_X10_goesOn g (xL X) K len I53 J53 R hs53 a0 ka0 mt hmt kmt nmt B n (hB.mv9 hF53 kmt (fun _ => rfl)) hBr hn (nx B n p53) (nx_le hp53).2 (tk53.e5) (tk53.2.2.1 (by first | omega | (rw [NOkdp]; decide))) (tk53.2.2.2.1)) mT_5_199 mT_1_10 mT_5_196 mT_5_198 mP_49 okX10_goesOn ⟨by decide, by decide⟩ rfl (by show kO (K a0) = _; rw [ka0]; rfl) rfl rfl (Nat.le_of_ble_eq_true rfl) ⟨by decide, by decide⟩ dX10_readHill_29 (aV2 (F := fun st M => P g X 2 32 [(1, .int x59_), (0, .ref a0)] st _ _ M) (M := (K, len, I53, J53, R)) fun I61 J61 h61 => ?_)
          obtain ⟨hs61, hf61, hfj61, k61_0⟩ := h61
          show P g X 2 32 [(1, .int x59_), (0, .ref a0)] [] _ _ (K, len, I61, J61, R)
          have hF61 : Fr K [(10, 0), (10, 1), (10, 2), (10, 3), (10, 4), (10, 5), (10, 6), (10, 7), (10, 8), (10, 9), (10, 10), (11, 8), (11, 9), (11, 10), (11, 11), (11, 12), (11, 13), (70, 999), (71, 999), (72, 999), (73, 999), (74, 999), (75, 999), (76, 999), (77, 999), (78, 999), (79, 999), (80, 999), (81, 999), (83, 999), (84, 999), (1000, 999)] I I61 := hF53.trans hf61 rfl rfl
          have hFJ61 : Fr K [(11, 14), (82, 999)] J J61 := hFJ53.trans hfj61 rfl rfl
          have fp61 : I61 a0 12 = I a0 12 := (hf61.get ka0 rfl).trans fq53
          have oc61 := oc53.mv qM_big hf61 rfl
          have rw61 := rwL53.mv hcx qM_big hf61 rfl
          have om61 := om53.mv hf61 rfl
          have ni61 := niL53.mv hf61 kns knn (fun _ => rfl) (fun _ => rfl)
          have rp61 := rep53.go hf61 hfj61 krm knr kns (fun _ => rfl) (fun _ => rfl) (fun _ => rfl)
          refine r_goto hC (tgt := 2) dX10_readHill_32 (by decide) ?_
          refine r_sub [1, 0] rfl ?_
          exact ih2 (((((gf - 1) + (gf - 1) : Nat) : Int) + x59_.toInt).toNat) (by omega) x59_ I61 J61 (gf - 1) hs61 hF61 hFJ61 (by omega) (by omega) (by first | exact Or.inl ⟨by omega, D, p, hp, tkm, ⟨⟨sm, nm, pg⟩, ni, rwd, hJ⟩, hD, rfl, by omega, rfl⟩ | exact HM.mk1 hpL hfL hSL hDL hsp53 (by omega) (by omega) k61_0 ⟨rp61, ni61, rw61, sLine_dj hpL hDL hJL hsp53⟩ fp61 | exact HM.mk0 hpL hfL hSL hDL hsp53 (by omega) (by omega) k61_0 ⟨rp61, ni61, rw61, sLine_dj hpL hDL hJL hsp53⟩ fp61 | exact HM.mke hpL hfL hSL hsp53 (by omega) (by omega) (by omega) (by omega)) (by exact om61) (by exact oc61) rfl
      · refine r_aload_n hC dX10_readHill_10 0 rfl ?_
        refine r_geti hC 9 (ci := 10) rfl u10_in (by decide) mT_5_4 dX10_readHill_11 ka0 rfl rfl (fun x62_ e62 => ?_)
        have f62 : x62_.toInt = (I53 a0 9).toInt := by rw [e62]
        refine r_iconst hC (v := (4)) dX10_readHill_14 (by decide) (by decide) (fun x63_ e63 t63 => ?_)
        refine r_icmp_ne hC (tgt := 22) dX10_readHill_15 (by decide) (fun c64 => ?_) (fun c64 => ?_)
        rotate_left
        · exfalso; omega
        refine r_iconst hC (v := (0)) dX10_readHill_22 (by decide) (by decide) (fun x65_ e65 t65 => ?_)
        refine r_istore_n hC (lv' := [(1, .int x65_), (0, .ref a0)]) dX10_readHill_23 (by decide) rfl ?_
        refine r_iload_n hC dX10_readHill_24 0 rfl ?_
        refine r_if_eq hC (tgt := 2) dX10_readHill_25 (by decide) (fun c66 => ?_) (fun c66 => ?_)
        rotate_left
        · exfalso; omega
        refine r_sub [1, 0] rfl ?_
        exact ih2 (((((gf - 1) + (gf - 1) : Nat) : Int) + x65_.toInt).toNat) (by omega) x65_ I53 J53 (gf - 1) hs53 hF53 hFJ53 (by omega) (by omega) (by first | exact Or.inl ⟨by omega, D, p, hp, tkm, ⟨⟨sm, nm, pg⟩, ni, rwd, hJ⟩, hD, rfl, by omega, rfl⟩ | exact HM.mk1 hpL hfL hSL hDL hsp53 (by omega) (by omega) tkL ⟨repL, niL, rwL, sLine_dj hpL hDL hJL hsp53⟩ h12L | exact HM.mk0 hpL hfL hSL hDL hsp53 (by omega) (by omega) tkL ⟨repL, niL, rwL, sLine_dj hpL hDL hJL hsp53⟩ h12L | exact HM.mke hpL hfL hSL hsp53 (by omega) (by omega) (by omega) (by omega)) (by exact om53) (by exact oc53) rfl
  refine r_sub [1, 0] rfl ?_
  exact LP2 _ x1_ I J 902 hs hF hFJ (by omega) (by omega) (by first | exact Or.inl ⟨by omega, D, p, hp, tkm, ⟨⟨sm, nm, pg⟩, ni, rwd, hJ⟩, hD, rfl, by omega, rfl⟩ | exact HM.mk1 hpL hfL hSL hDL hsp0 (by omega) (by omega) tkm ⟨rep, ni, rwd, sLine_dj hpL hDL hJL hsp0⟩ rfl | exact HM.mk0 hpL hfL hSL hDL hsp0 (by omega) (by omega) tkm ⟨rep, ni, rwd, sLine_dj hpL hDL hJL hsp0⟩ rfl | exact HM.mke hpL hfL hSL hsp0 (by omega) (by omega) (by omega) (by omega)) (by exact om) (by exact oc) rfl
set_option maxHeartbeats 4000000 in
set_option maxRecDepth 100000 in
theorem tf_X10_hill {g : GG} {X : XT} {Post : Option Value → MM → Prop} (hC : Cx g X cX10_hill "HillTapModel" 2 rmX10_hill) (hQ : Rq g X rmX10_hill Post) (hlk : (xT X).locks = false) (hr : (xT X).sig.returnType = some .int) (K len : Nat → Nat) (I : Nat → Nat → Int32) (J : Nat → Nat → Int64) (R : Nat → Nat → Option Nat) (hs : Sf K len I R) (a0 : Nat) (ka0 : K a0 = 11) (x1 : Int32) (rm : Nat) (hbr : R a0 4 = some rm) (krm : K rm = 10) (mt : Nat) (hmt : R a0 5 = some mt) (kmt : K mt = 49) (nmt : len mt = 900) (B : Nat → Int) (n : Nat) (hB : BT B n mt I) (hBr : ∀ j : Nat, j < n → -128 ≤ B j ∧ B j ≤ 127) (hn : n ≤ 900) (nr : Nat) (hnr : R rm 25 = some nr) (knr : K nr = 82) (lnr : len nr = 19) (ns : Nat) (hns : R rm 26 = some ns) (kns : K ns = 83) (lns : len ns = 19) (nn : Nat) (hnn : R rm 27 = some nn) (knn : K nn = 84) (lnn : len nn = 19) (hu : UU K R) (rwd : RW (CM rm R) (cntN D0) D0 I) (sm : SM D0 rm I) (p0 : (I a0 8).toInt = 0) (p1 : (I a0 7).toInt = n) (p2 : (I a0 12).toInt = 0) (hfin : ∀ r I' J' R', (Sf K len I' R' ∧ Fr K [(10, 0), (10, 1), (10, 2), (10, 3), (10, 4), (10, 5), (10, 6), (10, 7), (10, 8), (10, 9), (10, 10), (11, 0), (11, 1), (11, 2), (11, 6), (11, 7), (11, 8), (11, 9), (11, 10), (11, 11), (11, 12), (11, 13), (11, 20), (70, 999), (71, 999), (72, 999), (73, 999), (74, 999), (75, 999), (76, 999), (77, 999), (78, 999), (79, 999), (80, 999), (81, 999), (83, 999), (84, 999), (1000, 999)] I I' ∧ Fr K [(11, 14), (82, 999)] J J' ∧ Fr K [(11, 3), (11, 4)] R R' ∧ ((((∃ (kf : Int) (qf : Nat), sHill B n 902 0 D0 = .error (kf, qf) ∧ r.toInt = -1 ∧ (I' a0 2).toInt = qf ∧ (I' a0 12).toInt = kf ∧ (I' a0 6).toInt = (I a0 6).toInt ∧ (I' a0 20).toInt = (I a0 20).toInt ∧ R' a0 3 = R a0 3) ∨ (∃ (D' : DD), sHill B n 902 0 D0 = .ok D' ∧ r.toInt = D' 0 7 ∧ (I' a0 2).toInt = -1 ∧ (I' a0 12).toInt = 0 ∧ (I' a0 6).toInt = (I a0 6).toInt ∧ (I' a0 20).toInt = 0 ∧ R' a0 3 = some rm ∧ SM D' rm I' ∧ RW (CM rm R') (cntN D') D' I' ∧ DJ D' ∧ DI D')) ∧ OM K rm I I' ∧ OC (CM rm R) qM K I I' ∧ UU K R'))) → Post (some (.int r)) (K, len, I', J', R')) : P g X 2 54 [(0, .ref a0), (1, .int x1)] [] 18 231 (K, len, I, J, R) := by
  have hF : Fr K [(10, 0), (10, 1), (10, 2), (10, 3), (10, 4), (10, 5), (10, 6), (10, 7), (10, 8), (10, 9), (10, 10), (11, 0), (11, 1), (11, 2), (11, 6), (11, 7), (11, 8), (11, 9), (11, 10), (11, 11), (11, 12), (11, 13), (11, 20), (70, 999), (71, 999), (72, 999), (73, 999), (74, 999), (75, 999), (76, 999), (77, 999), (78, 999), (79, 999), (80, 999), (81, 999), (83, 999), (84, 999), (1000, 999)] I I := Fr.refl
  have hFJ : Fr K [(11, 14), (82, 999)] J J := Fr.refl
  have hFR : Fr K [(11, 3), (11, 4)] R R := Fr.refl
  have b_x1 := ti_rng x1
  have hcx := CM_x hs krm
  have oc : OC (CM rm R) qM K I I := OC.rf
  obtain ⟨N0, eN0⟩ : ∃ z : Int32, z = I a0 7 := ⟨_, rfl⟩
  have fN0 : N0.toInt = (I a0 7).toInt := by rw [eN0]
  have rN0 := hs.rng ka0 rfl eN0
  obtain ⟨A0, eA0⟩ : ∃ z : Int32, z = I a0 8 := ⟨_, rfl⟩
  have fA0 : A0.toInt = (I a0 8).toInt := by rw [eA0]
  have rA0 := hs.rng ka0 rfl eA0
  obtain ⟨F0, eF0⟩ : ∃ z : Int32, z = I a0 12 := ⟨_, rfl⟩
  have fF0 : F0.toInt = (I a0 12).toInt := by rw [eF0]
  obtain ⟨L0, eL0⟩ : ∃ z : Int32, z = I a0 6 := ⟨_, rfl⟩
  have fL0 : L0.toInt = (I a0 6).toInt := by rw [eL0]
  have rL0 := hs.rng ka0 rfl eL0
  obtain ⟨C0, eC0⟩ : ∃ z : Int32, z = I a0 20 := ⟨_, rfl⟩
  have fC0 : C0.toInt = (I a0 20).toInt := by rw [eC0]
  have rC0 := hs.rng ka0 rfl eC0
  have om : OM K rm I I := OM.rf
  refine r_aload_n hC dX10_hill_54 0 rfl ?_
  refine r_iconst hC (v := (0)) dX10_hill_55 (by decide) (by decide) (fun x1_ e1 t1 => ?_)
  refine r_puti hC 9 (ci := 10) rfl u10_in tyX10_ok nmX10 (by decide) mT_5_4 rfl rfl rfl dX10_hill_56 ka0 rfl rfl (fun I2 eI2 => ?_)
  have hs2 := hs.put0 eI2 ka0 rfl rfl rfl (by decide)
  have hF2 := hF.put eI2 ka0 rfl
  have om2 := om.put eI2 ka0 (by first | exact Or.inr rfl | exact Or.inl (by decide) | exact Or.inl (by omega))
  have oh2 := oc.putO eI2 ka0 rfl
  have ry2 := rwd.putO hcx eI2 ka0 rfl
  have sx2 := sm.put eI2 ka0 krm (by decide)
  have h7 : I2 a0 7 = N0 := (Eq.trans (up2_at (Or.inr (by decide)) eI2) eN0.symm)
  have h7t : (I2 a0 7).toInt = N0.toInt := congrArg Int32.toInt h7
  have h8 : I2 a0 8 = A0 := (Eq.trans (up2_at (Or.inr (by decide)) eI2) eA0.symm)
  have h8t : (I2 a0 8).toInt = A0.toInt := congrArg Int32.toInt h8
  have h9_ : I2 a0 9 = x1_ := (by rw [eI2]; exact up2_self _ _ _ _)
  have h9_t : (I2 a0 9).toInt = x1_.toInt := congrArg Int32.toInt h9_
  refine r_aload_n hC dX10_hill_59 0 rfl ?_
  refine r_callV hC (As := []) (rest := []) (ci := 10) (f_X10_goesOn g (xL X) K len I2 J R hs2 a0 ka0 mt hmt kmt nmt B n (hB.mv9 hF2 kmt (fun _ => rfl)) hBr hn 0 (Nat.zero_le n) (by omega) (by omega) (by omega)) mT_5_199 mT_1_10 mT_5_196 mT_5_198 mP_49 okX10_goesOn ⟨by decide, by decide⟩ rfl (by show kO (K a0) = _; rw [ka0]; rfl) rfl rfl (Nat.le_of_ble_eq_true rfl) ⟨by decide, by decide⟩ dX10_hill_60 (aV2 (F := fun st M => P g X 2 63 [(0, .ref a0), (1, .int x1)] st _ _ M) (M := (K, len, I2, J, R)) fun I3 J3 h3 => ?_)
  obtain ⟨hs3, hf3, hfj3, k3_0⟩ := h3
  show P g X 2 63 [(0, .ref a0), (1, .int x1)] [] _ _ (K, len, I3, J3, R)
  have hF3 : Fr K [(10, 0), (10, 1), (10, 2), (10, 3), (10, 4), (10, 5), (10, 6), (10, 7), (10, 8), (10, 9), (10, 10), (11, 0), (11, 1), (11, 2), (11, 6), (11, 7), (11, 8), (11, 9), (11, 10), (11, 11), (11, 12), (11, 13), (11, 20), (70, 999), (71, 999), (72, 999), (73, 999), (74, 999), (75, 999), (76, 999), (77, 999), (78, 999), (79, 999), (80, 999), (81, 999), (83, 999), (84, 999), (1000, 999)] I I3 := hF2.trans hf3 rfl rfl
  have hFJ3 : Fr K [(11, 14), (82, 999)] J J3 := hFJ.trans hfj3 rfl rfl
  have om3 := om2.mv hf3 rfl
  have oh3 := oh2.mv qM_big hf3 rfl
  have ry3 := ry2.mv hcx qM_big hf3 rfl
  have sx3 := sx2.mvI hf3 krm (fun _ _ => rfl)
  refine r_aload_n hC dX10_hill_63 0 rfl ?_
  have h12 : I3 a0 12 = F0 := (Eq.trans (hf3.get ka0 rfl) (Eq.trans (up2_at (Or.inr (by decide)) eI2) eF0.symm))
  have h12t : (I3 a0 12).toInt = F0.toInt := congrArg Int32.toInt h12
  refine r_callV hC (As := []) (rest := []) (ci := 10) (f_X10_readHill g (xL X) K len I3 J3 R hs3 a0 ka0 rm hbr krm mt hmt kmt nmt B n (hB.mv9 hF3 kmt (fun _ => rfl)) hBr hn 0 (Nat.zero_le n) k3_0 nr hnr knr lnr ns hns kns lns nn hnn knn lnn D0 DI_0 sx3 NmM_0 PgI_0 NnI_0 ry3 dj_0) mT_5_214 mT_1_10 mT_5_211 mT_5_213 mP_51 okX10_readHill ⟨by decide, by decide⟩ rfl (by show kO (K a0) = _; rw [ka0]; rfl) rfl rfl (Nat.le_of_ble_eq_true rfl) ⟨by decide, by decide⟩ dX10_hill_64 (aV2 (F := fun st M => P g X 2 67 [(0, .ref a0), (1, .int x1)] st _ _ M) (M := (K, len, I3, J3, R)) fun I4 J4 h4 => ?_)
  obtain ⟨hs4, hf4, hfj4, k4_0, k4_1, k4_2⟩ := h4
  show P g X 2 67 [(0, .ref a0), (1, .int x1)] [] _ _ (K, len, I4, J4, R)
  have hF4 : Fr K [(10, 0), (10, 1), (10, 2), (10, 3), (10, 4), (10, 5), (10, 6), (10, 7), (10, 8), (10, 9), (10, 10), (11, 0), (11, 1), (11, 2), (11, 6), (11, 7), (11, 8), (11, 9), (11, 10), (11, 11), (11, 12), (11, 13), (11, 20), (70, 999), (71, 999), (72, 999), (73, 999), (74, 999), (75, 999), (76, 999), (77, 999), (78, 999), (79, 999), (80, 999), (81, 999), (83, 999), (84, 999), (1000, 999)] I I4 := hF3.trans hf4 rfl rfl
  have hFJ4 : Fr K [(11, 14), (82, 999)] J J4 := hFJ3.trans hfj4 rfl rfl
  have oh4 := oh3.tr k4_2
  have om4 := om3.tr k4_1
  rcases k4_0 with ⟨D4, hsp4, sm4, rwT4, hJT4, hDT4, fl4⟩ | ⟨kf4, qf4, hsp4, hf14, hf24⟩
  · obtain ⟨Q5, eQ5⟩ : ∃ z : Int32, z = I4 a0 12 := ⟨_, rfl⟩
    have fQ5 : Q5.toInt = (I4 a0 12).toInt := by rw [eQ5]
    have hz12 : (I4 a0 12).toInt = 0 := by rw [fl4, h12]; omega
    refine r_aload_n hC dX10_hill_67 0 rfl ?_
    refine r_geti hC 12 (ci := 10) rfl u10_in (by decide) mT_5_7 dX10_hill_68 ka0 rfl rfl (fun x8_ e8 => ?_)
    have f8 : x8_.toInt = (I4 a0 12).toInt := by rw [e8]
    have w8 : x8_ = Q5 := by rw [e8]; exact eQ5.symm
    have wt8 : x8_.toInt = Q5.toInt := by rw [w8]
    refine r_if_le hC (tgt := 89) dX10_hill_71 (by decide) (fun c9 => ?_) (fun c9 => ?_)
    rotate_left
    · exfalso; omega
    refine r_aload_n hC dX10_hill_89 0 rfl ?_
    refine r_aload_n hC dX10_hill_90 0 rfl ?_
    refine r_getr hC 4 (ci := 10) rfl u10_in (by decide) mT_4_239 dX10_hill_91 ka0 rfl rfl hbr ?_
    refine r_putr hC 3 (ci := 10) rfl u10_in tyX10_ok nmX10 (by decide) mT_4_238 rfl rfl rfl dX10_hill_94 ka0 rfl rfl (fun R10 eR10 => ?_)
    have hs10 := hs4.putR11 eR10 ka0 (by decide) krm
    have hFR10 := hFR.put eR10 ka0 rfl
    have hbR10 : R10 a0 3 = some rm := by rw [eR10, up2_self]
    have u910 := hu.put (Or.inr (Or.inr (Or.inr krm))) (by rw [krm]; decide) eR10
    refine r_aload_n hC dX10_hill_97 0 rfl ?_
    refine r_iconst hC (v := (0)) dX10_hill_98 (by decide) (by decide) (fun x11_ e11 t11 => ?_)
    refine r_puti hC 20 (ci := 10) rfl u10_in tyX10_ok nmX10 (by decide) mT_5_15 rfl rfl rfl dX10_hill_99 ka0 rfl rfl (fun I12 eI12 => ?_)
    have hs12 := hs10.put1 eI12 ka0 rfl (by omega) (by omega) rfl rfl (by decide)
    have hF12 := hF4.put eI12 ka0 rfl
    have om12 := om4.put eI12 ka0 (by first | exact Or.inr rfl | exact Or.inl (by decide) | exact Or.inl (by omega))
    have oh12 := oh4.putO eI12 ka0 rfl
    have ry12 := rwT4.putO hcx eI12 ka0 rfl
    have sx12 := sm4.put eI12 ka0 krm (by decide)
    refine r_aload_n hC dX10_hill_102 0 rfl ?_
    refine r_aload_n hC dX10_hill_103 0 rfl ?_
    refine r_getr hC 3 (ci := 10) rfl u10_in (by decide) mT_4_238 dX10_hill_104 ka0 rfl rfl hbR10 ?_
    refine r_getiN hC 7 (ci := 9) rfl u9_in (by decide) nF_7 dX10_hill_107 krm rfl rfl (fun x13_ e13 => ?_)
    have r13 := hs12.rng krm rfl e13
    have f13 : x13_.toInt = (I12 rm 7).toInt := by rw [e13]
    have hst := sx12.2.2.2.2.2.1
    refine r_callV hC (As := [.int x13_]) (rest := []) (ci := 10) (c_X10_done g (xL X) K len I12 J4 R10 hs12 a0 ka0 x13_) mT_6_79 mT_1_10 mT_6_76 mT_6_78 mP_67 okX10_done ⟨by decide, by decide⟩ rfl (by show kO (K a0) = _; rw [ka0]; rfl) rfl rfl (Nat.le_of_ble_eq_true rfl) ⟨by decide, by decide⟩ dX10_hill_110 (aI1 (F := fun st M => P g X 2 113 [(0, .ref a0), (1, .int x1)] st _ _ M) (M := (K, len, I12, J4, R10)) fun x14_ I14 h14 => ?_)
    obtain ⟨hs14, hf14, k14_0, k14_1, k14_2⟩ := h14
    show P g X 2 113 [(0, .ref a0), (1, .int x1)] [.int x14_] _ _ (K, len, I14, J4, R10)
    have hF14 : Fr K [(10, 0), (10, 1), (10, 2), (10, 3), (10, 4), (10, 5), (10, 6), (10, 7), (10, 8), (10, 9), (10, 10), (11, 0), (11, 1), (11, 2), (11, 6), (11, 7), (11, 8), (11, 9), (11, 10), (11, 11), (11, 12), (11, 13), (11, 20), (70, 999), (71, 999), (72, 999), (73, 999), (74, 999), (75, 999), (76, 999), (77, 999), (78, 999), (79, 999), (80, 999), (81, 999), (83, 999), (84, 999), (1000, 999)] I I14 := hF12.trans hf14 rfl rfl
    have om14 := om12.mv hf14 rfl
    have oh14 := oh12.mv qM_big hf14 rfl
    have ry14 := ry12.mv hcx qM_big hf14 rfl
    have sx14 := sx12.mvI hf14 krm (fun _ _ => rfl)
    have hv12 : I14 a0 12 = x8_ := (Eq.trans (hf14.get ka0 rfl) (Eq.trans (up2_at (Or.inr (by decide)) eI12) e8.symm))
    have hv12t : (I14 a0 12).toInt = x8_.toInt := congrArg Int32.toInt hv12
    have hv6 : I14 a0 6 = L0 := (Eq.trans (hf14.get ka0 rfl) (Eq.trans (up2_at (Or.inr (by decide)) eI12) (Eq.trans (hf4.get ka0 rfl) (Eq.trans (hf3.get ka0 rfl) (Eq.trans (up2_at (Or.inr (by decide)) eI2) eL0.symm)))))
    have hv6t : (I14 a0 6).toInt = L0.toInt := congrArg Int32.toInt hv6
    have hv20 : I14 a0 20 = x11_ := (Eq.trans (hf14.get ka0 rfl) (by rw [eI12]; exact up2_self _ _ _ _))
    have hv20t : (I14 a0 20).toInt = x11_.toInt := congrArg Int32.toInt hv20
    exact r_iret hC hQ hlk hr rfl (by decide) (by decide) dX10_hill_113 (hfin _ _ _ _ ⟨hs14, hF14, hFJ4, hFR10, by refine ⟨?_, om14, oh14, u910⟩; first | exact Or.inl ⟨kf4, qf4, hsp4, by omega, by omega, by omega, by omega, by omega, rfl⟩ | exact Or.inr ⟨D4, hsp4, by have h9 := congrArg Int32.toInt k14_0; omega, by omega, by omega, by omega, by omega, hbR10, sx14, ry14.cRM krm hFR10 rfl, hJT4, hDT4⟩⟩)
  · have hk1 := sHill_er 902 0 D0 (Nat.zero_le n) (by omega) DI_0 hsp4
    obtain ⟨Q6, eQ6⟩ : ∃ z : Int32, z = I4 a0 12 := ⟨_, rfl⟩
    have fQ6 : Q6.toInt = (I4 a0 12).toInt := by rw [eQ6]
    obtain ⟨Q7, eQ7⟩ : ∃ z : Int32, z = I4 a0 13 := ⟨_, rfl⟩
    have fQ7 : Q7.toInt = (I4 a0 13).toInt := by rw [eQ7]
    refine r_aload_n hC dX10_hill_67 0 rfl ?_
    refine r_geti hC 12 (ci := 10) rfl u10_in (by decide) mT_5_7 dX10_hill_68 ka0 rfl rfl (fun x15_ e15 => ?_)
    have f15 : x15_.toInt = (I4 a0 12).toInt := by rw [e15]
    have w15 : x15_ = Q6 := by rw [e15]; exact eQ6.symm
    have wt15 : x15_.toInt = Q6.toInt := by rw [w15]
    refine r_if_le hC (tgt := 89) dX10_hill_71 (by decide) (fun c16 => ?_) (fun c16 => ?_)
    · exfalso; omega
    refine r_aload_n hC dX10_hill_74 0 rfl ?_
    refine r_iconst hC (v := (4)) dX10_hill_75 (by decide) (by decide) (fun x17_ e17 t17 => ?_)
    refine r_puti hC 1 (ci := 10) rfl u10_in tyX10_ok nmX10 (by decide) mT_4_236 rfl rfl rfl dX10_hill_76 ka0 rfl rfl (fun I18 eI18 => ?_)
    have hs18 := hs4.put0 eI18 ka0 rfl rfl rfl (by decide)
    have hF18 := hF4.put eI18 ka0 rfl
    have om18 := om4.put eI18 ka0 (by first | exact Or.inr rfl | exact Or.inl (by decide) | exact Or.inl (by omega))
    have oh18 := oh4.putO eI18 ka0 rfl
    refine r_aload_n hC dX10_hill_79 0 rfl ?_
    refine r_aload_n hC dX10_hill_80 0 rfl ?_
    refine r_geti hC 13 (ci := 10) rfl u10_in (by decide) mT_5_8 dX10_hill_81 ka0 rfl rfl (fun x19_ e19 => ?_)
    have f19 : x19_.toInt = (I18 a0 13).toInt := by rw [e19]
    have w19 : x19_ = Q7 := by rw [e19]; exact (Eq.trans (up2_at (Or.inr (by decide)) eI18) eQ7.symm)
    have wt19 : x19_.toInt = Q7.toInt := by rw [w19]
    refine r_puti hC 2 (ci := 10) rfl u10_in tyX10_ok nmX10 (by decide) mT_4_237 rfl rfl rfl dX10_hill_84 ka0 rfl rfl (fun I20 eI20 => ?_)
    have hs20 := hs18.put0 eI20 ka0 rfl rfl rfl (by decide)
    have hF20 := hF18.put eI20 ka0 rfl
    have om20 := om18.put eI20 ka0 (by first | exact Or.inr rfl | exact Or.inl (by decide) | exact Or.inl (by omega))
    have oh20 := oh18.putO eI20 ka0 rfl
    refine r_iconst hC (v := (-1)) dX10_hill_87 (by decide) (by decide) (fun x21_ e21 t21 => ?_)
    have hv2 : I20 a0 2 = x19_ := (by rw [eI20]; exact up2_self _ _ _ _)
    have hv2t : (I20 a0 2).toInt = x19_.toInt := congrArg Int32.toInt hv2
    have hv12 : I20 a0 12 = x15_ := (Eq.trans (up2_at (Or.inr (by decide)) eI20) (Eq.trans (up2_at (Or.inr (by decide)) eI18) e15.symm))
    have hv12t : (I20 a0 12).toInt = x15_.toInt := congrArg Int32.toInt hv12
    have hv6 : I20 a0 6 = L0 := (Eq.trans (up2_at (Or.inr (by decide)) eI20) (Eq.trans (up2_at (Or.inr (by decide)) eI18) (Eq.trans (hf4.get ka0 rfl) (Eq.trans (hf3.get ka0 rfl) (Eq.trans (up2_at (Or.inr (by decide)) eI2) eL0.symm)))))
    have hv6t : (I20 a0 6).toInt = L0.toInt := congrArg Int32.toInt hv6
    have hv20 : I20 a0 20 = C0 := (Eq.trans (up2_at (Or.inr (by decide)) eI20) (Eq.trans (up2_at (Or.inr (by decide)) eI18) (Eq.trans (hf4.get ka0 rfl) (Eq.trans (hf3.get ka0 rfl) (Eq.trans (up2_at (Or.inr (by decide)) eI2) eC0.symm)))))
    have hv20t : (I20 a0 20).toInt = C0.toInt := congrArg Int32.toInt hv20
    exact r_iret hC hQ hlk hr rfl (by decide) (by decide) dX10_hill_88 (hfin _ _ _ _ ⟨hs20, hF20, hFJ4, hFR, by refine ⟨?_, om20, oh20, hu⟩; first | exact Or.inl ⟨kf4, qf4, hsp4, by omega, by omega, by omega, by omega, by omega, rfl⟩ | exact Or.inr ⟨D4, hsp4, by have h9 := congrArg Int32.toInt k4_0; omega, by omega, by omega, by omega, by omega, hz, None, None.cRM krm hFR rfl, hJT4, hDT4⟩⟩)
set_option maxHeartbeats 4000000 in
set_option maxRecDepth 100000 in
theorem f_X10_hill (g : GG) (l : Launch) (K len : Nat → Nat) (I : Nat → Nat → Int32) (J : Nat → Nat → Int64) (R : Nat → Nat → Option Nat) (hs : Sf K len I R) (a0 : Nat) (ka0 : K a0 = 11) (x1 : Int32) (mt : Nat) (hmt : R a0 5 = some mt) (kmt : K mt = 49) (nmt : len mt = 900) (B : Nat → Int) (N : Nat) (hN : (I a0 6).toInt = N) (hB : BT B N mt I) (hBr : ∀ j : Nat, j < N → -128 ≤ B j ∧ B j ≤ 127) (hu : UU K R) : Ct g l yX10_hill cX10_hill 2 (Option.some Jvm.ClassFile.FieldType.int) rmX10_hill [.ref a0, .int x1] (K, len, I, J, R) (pI5 (fun r M1 => Sf M1.1 M1.2.1 M1.2.2.1 M1.2.2.2.2 ∧ (∀ b, K b ≠ 0 → M1.1 b = K b ∧ M1.2.1 b = len b) ∧ (∀ b k, K b ≠ 0 → inS [(10, 0), (10, 1), (10, 2), (10, 3), (10, 4), (10, 5), (10, 6), (10, 7), (10, 8), (10, 9), (10, 10), (11, 0), (11, 1), (11, 2), (11, 6), (11, 7), (11, 8), (11, 9), (11, 10), (11, 11), (11, 12), (11, 13), (11, 20), (70, 999), (71, 999), (72, 999), (73, 999), (74, 999), (75, 999), (76, 999), (77, 999), (78, 999), (79, 999), (80, 999), (81, 999), (83, 999), (84, 999), (1000, 999)] (K b) k = false → M1.2.2.1 b k = I b k) ∧ (∀ b k, K b ≠ 0 → inS [(11, 3), (11, 4)] (K b) k = false → M1.2.2.2.2 b k = R b k) ∧ (∀ b, K b = 10 → M1.2.2.1 b = I b) ∧ (∀ b k, qM (K b) = true → (∃ c i, K c ≠ 0 ∧ R c i = some b) → M1.2.2.1 b k = I b k) ∧ UU M1.1 M1.2.2.2.2 ∧ ((¬ (0 ≤ x1.toInt ∧ x1.toInt ≤ N) ∧ r.toInt = -1 ∧ (M1.2.2.1 a0 2).toInt = -1 ∧ (M1.2.2.1 a0 6).toInt = (I a0 6).toInt ∧ (M1.2.2.1 a0 12).toInt = (I a0 12).toInt ∧ (M1.2.2.1 a0 20).toInt = (I a0 20).toInt ∧ M1.2.2.2.2 a0 3 = R a0 3) ∨ ((0 ≤ x1.toInt ∧ x1.toInt ≤ N) ∧ ((∃ (kf : Int) (qf : Nat), sHill B x1.toInt.toNat 902 0 D0 = .error (kf, qf) ∧ r.toInt = -1 ∧ (M1.2.2.1 a0 2).toInt = qf ∧ (M1.2.2.1 a0 12).toInt = kf ∧ (M1.2.2.1 a0 6).toInt = 0 ∧ (M1.2.2.1 a0 20).toInt = (I a0 20).toInt ∧ M1.2.2.2.2 a0 3 = R a0 3) ∨ (∃ (D' : DD) (q : Nat), sHill B x1.toInt.toNat 902 0 D0 = .ok D' ∧ r.toInt = D' 0 7 ∧ (M1.2.2.1 a0 2).toInt = -1 ∧ (M1.2.2.1 a0 12).toInt = 0 ∧ (M1.2.2.1 a0 6).toInt = 0 ∧ (M1.2.2.1 a0 20).toInt = 0 ∧ M1.2.2.2.2 a0 3 = some q ∧ M1.1 q = 10 ∧ SM D' q M1.2.2.1 ∧ RW (CM q M1.2.2.2.2) (cntN D') D' M1.2.2.1 ∧ DJ D' ∧ DI D')))))) := by
  refine Ct_intro (by decide +kernel) (Nat.le_of_ble_eq_true rfl) (fun X hC hL hKK hNm hr hlk hQ => ?_)
  subst hL
  have hC : Cx g X cX10_hill "HillTapModel" 2 rmX10_hill := hC
  show P g X 2 0 [(0, .ref a0), (1, .int x1)] [] 0 0 (K, len, I, J, R)
  have hF : Fr K [(10, 0), (10, 1), (10, 2), (10, 3), (10, 4), (10, 5), (10, 6), (10, 7), (10, 8), (10, 9), (10, 10), (11, 0), (11, 1), (11, 2), (11, 6), (11, 7), (11, 8), (11, 9), (11, 10), (11, 11), (11, 12), (11, 13), (11, 20), (70, 999), (71, 999), (72, 999), (73, 999), (74, 999), (75, 999), (76, 999), (77, 999), (78, 999), (79, 999), (80, 999), (81, 999), (83, 999), (84, 999), (1000, 999)] I I := Fr.refl
  have b_x1 := ti_rng x1
  obtain ⟨L0, eL0⟩ : ∃ z : Int32, z = I a0 6 := ⟨_, rfl⟩
  have fL0 : L0.toInt = (I a0 6).toInt := by rw [eL0]
  have rL0 := hs.rng ka0 rfl eL0
  obtain ⟨F0, eF0⟩ : ∃ z : Int32, z = I a0 12 := ⟨_, rfl⟩
  have fF0 : F0.toInt = (I a0 12).toInt := by rw [eF0]
  obtain ⟨C0, eC0⟩ : ∃ z : Int32, z = I a0 20 := ⟨_, rfl⟩
  have fC0 : C0.toInt = (I a0 20).toInt := by rw [eC0]
  have rC0 := hs.rng ka0 rfl eC0
  obtain ⟨W0, eW0⟩ : ∃ z : Int32, z = I a0 2 := ⟨_, rfl⟩
  have fW0 : W0.toInt = (I a0 2).toInt := by rw [eW0]
  refine r_aload_n hC dX10_hill_0 0 rfl ?_
  refine r_iconst hC (v := (0)) dX10_hill_1 (by decide) (by decide) (fun x1_ e1 t1 => ?_)
  refine r_puti hC 0 (ci := 10) rfl u10_in tyX10_ok nmX10 (by decide) mT_4_235 rfl rfl rfl dX10_hill_2 ka0 rfl rfl (fun I2 eI2 => ?_)
  have hs2 := hs.put0 eI2 ka0 rfl rfl rfl (by decide)
  have hF2 := hF.put eI2 ka0 rfl
  have hp2 : ∀ b, K b = 10 → ∀ k, I2 b k = I b k := fun b hb k => (up2_kk eI2 ka0 hb (by decide)).trans ((fun _ _ _ => rfl) b hb k)
  have hq92 : ∀ b, qM (K b) = true → ∀ k, I2 b k = I b k := fun b hb k => (up2_at (Or.inl (fun z => by rw [z, ka0] at hb; exact absurd hb (by decide))) eI2).trans ((fun _ _ _ => rfl) b hb k)
  refine r_iload_n hC dX10_hill_5 1 rfl ?_
  refine r_if_lt hC (tgt := 17) dX10_hill_6 (by decide) (fun c3 => ?_) (fun c3 => ?_)
  · refine r_aload_n hC dX10_hill_17 0 rfl ?_
    refine r_iconst hC (v := (2)) dX10_hill_18 (by decide) (by decide) (fun x4_ e4 t4 => ?_)
    refine r_callV hC (As := [.int x4_]) (rest := []) (ci := 10) (c_X10_refused g (xL X) K len I2 J R hs2 a0 ka0 x4_) mT_5_85 mT_1_10 mT_5_82 mT_5_84 mP_48 okX10_refused ⟨by decide, by decide⟩ rfl (by show kO (K a0) = _; rw [ka0]; rfl) rfl rfl (Nat.le_of_ble_eq_true rfl) ⟨by decide, by decide⟩ dX10_hill_19 (aI1 (F := fun st M => P g X 2 22 [(0, .ref a0), (1, .int x1)] st _ _ M) (M := (K, len, I2, J, R)) fun x5_ I5 h5 => ?_)
    obtain ⟨hs5, hf5, k5_0, k5_1, k5_2⟩ := h5
    show P g X 2 22 [(0, .ref a0), (1, .int x1)] [.int x5_] _ _ (K, len, I5, J, R)
    have hF5 : Fr K [(10, 0), (10, 1), (10, 2), (10, 3), (10, 4), (10, 5), (10, 6), (10, 7), (10, 8), (10, 9), (10, 10), (11, 0), (11, 1), (11, 2), (11, 6), (11, 7), (11, 8), (11, 9), (11, 10), (11, 11), (11, 12), (11, 13), (11, 20), (70, 999), (71, 999), (72, 999), (73, 999), (74, 999), (75, 999), (76, 999), (77, 999), (78, 999), (79, 999), (80, 999), (81, 999), (83, 999), (84, 999), (1000, 999)] I I5 := hF2.trans hf5 rfl rfl
    have hp5 : ∀ b, K b = 10 → ∀ k, I5 b k = I b k := fun b hb k => (hf5.get hb rfl).trans (hp2 b hb k)
    have hq95 : ∀ b, qM (K b) = true → ∀ k, I5 b k = I b k := fun b hb k => (hf5.get rfl (okQ_in (q := qM) rfl qM_big hb k)).trans (hq92 b hb k)
    have hv6 : I5 a0 6 = L0 := (Eq.trans (hf5.get ka0 rfl) (Eq.trans (up2_at (Or.inr (by decide)) eI2) eL0.symm))
    have hv6t : (I5 a0 6).toInt = L0.toInt := congrArg Int32.toInt hv6
    have hv12 : I5 a0 12 = F0 := (Eq.trans (hf5.get ka0 rfl) (Eq.trans (up2_at (Or.inr (by decide)) eI2) eF0.symm))
    have hv12t : (I5 a0 12).toInt = F0.toInt := congrArg Int32.toInt hv12
    have hv20 : I5 a0 20 = C0 := (Eq.trans (hf5.get ka0 rfl) (Eq.trans (up2_at (Or.inr (by decide)) eI2) eC0.symm))
    have hv20t : (I5 a0 20).toInt = C0.toInt := congrArg Int32.toInt hv20
    exact r_iret hC hQ hlk hr rfl (by decide) (by decide) dX10_hill_22 ⟨_, rfl, hs5, fun b _ => ⟨rfl, rfl⟩, fun b k _ hi => hF5 b k hi, fun _ _ _ _ => rfl, fun b hb => funext fun k => hp5 b hb k, fun b k hb _ => hq95 b hb k, hu, Or.inl ⟨by omega, by omega, by show (I5 a0 2).toInt = -1; omega, by show (I5 a0 6).toInt = _; omega, by show (I5 a0 12).toInt = _; omega, by show (I5 a0 20).toInt = _; omega, rfl⟩⟩
  · refine r_iload_n hC dX10_hill_9 1 rfl ?_
    refine r_aload_n hC dX10_hill_10 0 rfl ?_
    refine r_geti hC 6 (ci := 10) rfl u10_in (by decide) mT_5_1 dX10_hill_11 ka0 rfl rfl (fun x6_ e6 => ?_)
    have r6 := hs2.rng ka0 rfl e6
    have f6 : x6_.toInt = (I2 a0 6).toInt := by rw [e6]
    have w6 : x6_ = L0 := by rw [e6]; exact (Eq.trans (up2_at (Or.inr (by decide)) eI2) eL0.symm)
    have wt6 : x6_.toInt = L0.toInt := by rw [w6]
    refine r_icmp_le hC (tgt := 23) dX10_hill_14 (by decide) (fun c7 => ?_) (fun c7 => ?_)
    · refine r_aload_n hC dX10_hill_23 0 rfl ?_
      refine r_iload_n hC dX10_hill_24 1 rfl ?_
      refine r_puti hC 7 (ci := 10) rfl u10_in tyX10_ok nmX10 (by decide) mT_5_2 rfl rfl rfl dX10_hill_25 ka0 rfl rfl (fun I8 eI8 => ?_)
      have hs8 := hs2.put1 eI8 ka0 rfl (by omega) (by omega) rfl rfl (by decide)
      have hF8 := hF2.put eI8 ka0 rfl
      have hp8 : ∀ b, K b = 10 → ∀ k, I8 b k = I b k := fun b hb k => (up2_kk eI8 ka0 hb (by decide)).trans (hp2 b hb k)
      have hq98 : ∀ b, qM (K b) = true → ∀ k, I8 b k = I b k := fun b hb k => (up2_at (Or.inl (fun z => by rw [z, ka0] at hb; exact absurd hb (by decide))) eI8).trans (hq92 b hb k)
      refine r_aload_n hC dX10_hill_28 0 rfl ?_
      refine r_iconst hC (v := (0)) dX10_hill_29 (by decide) (by decide) (fun x9_ e9 t9 => ?_)
      refine r_puti hC 6 (ci := 10) rfl u10_in tyX10_ok nmX10 (by decide) mT_5_1 rfl rfl rfl dX10_hill_30 ka0 rfl rfl (fun I10 eI10 => ?_)
      have hs10 := hs8.put1 eI10 ka0 rfl (by omega) (by omega) rfl rfl (by decide)
      have hF10 := hF8.put eI10 ka0 rfl
      have hp10 : ∀ b, K b = 10 → ∀ k, I10 b k = I b k := fun b hb k => (up2_kk eI10 ka0 hb (by decide)).trans (hp8 b hb k)
      have hq910 : ∀ b, qM (K b) = true → ∀ k, I10 b k = I b k := fun b hb k => (up2_at (Or.inl (fun z => by rw [z, ka0] at hb; exact absurd hb (by decide))) eI10).trans (hq98 b hb k)
      refine r_aload_n hC dX10_hill_33 0 rfl ?_
      refine r_iconst hC (v := (0)) dX10_hill_34 (by decide) (by decide) (fun x11_ e11 t11 => ?_)
      refine r_puti hC 8 (ci := 10) rfl u10_in tyX10_ok nmX10 (by decide) mT_5_3 rfl rfl rfl dX10_hill_35 ka0 rfl rfl (fun I12 eI12 => ?_)
      have hs12 := hs10.put1 eI12 ka0 rfl (by omega) (by omega) rfl rfl (by decide)
      have hF12 := hF10.put eI12 ka0 rfl
      have hp12 : ∀ b, K b = 10 → ∀ k, I12 b k = I b k := fun b hb k => (up2_kk eI12 ka0 hb (by decide)).trans (hp10 b hb k)
      have hq912 : ∀ b, qM (K b) = true → ∀ k, I12 b k = I b k := fun b hb k => (up2_at (Or.inl (fun z => by rw [z, ka0] at hb; exact absurd hb (by decide))) eI12).trans (hq910 b hb k)
      refine r_aload_n hC dX10_hill_38 0 rfl ?_
      refine r_iconst hC (v := (0)) dX10_hill_39 (by decide) (by decide) (fun x13_ e13 t13 => ?_)
      refine r_puti hC 12 (ci := 10) rfl u10_in tyX10_ok nmX10 (by decide) mT_5_7 rfl rfl rfl dX10_hill_40 ka0 rfl rfl (fun I14 eI14 => ?_)
      have hs14 := hs12.put0 eI14 ka0 rfl rfl rfl (by decide)
      have hF14 := hF12.put eI14 ka0 rfl
      have hp14 : ∀ b, K b = 10 → ∀ k, I14 b k = I b k := fun b hb k => (up2_kk eI14 ka0 hb (by decide)).trans (hp12 b hb k)
      have hq914 : ∀ b, qM (K b) = true → ∀ k, I14 b k = I b k := fun b hb k => (up2_at (Or.inl (fun z => by rw [z, ka0] at hb; exact absurd hb (by decide))) eI14).trans (hq912 b hb k)
      have hz6 : I14 a0 6 = x9_ := (Eq.trans (up2_at (Or.inr (by decide)) eI14) (Eq.trans (up2_at (Or.inr (by decide)) eI12) (by rw [eI10]; exact up2_self _ _ _ _)))
      have hz6t : (I14 a0 6).toInt = x9_.toInt := congrArg Int32.toInt hz6
      have hz7 : I14 a0 7 = x1 := (Eq.trans (up2_at (Or.inr (by decide)) eI14) (Eq.trans (up2_at (Or.inr (by decide)) eI12) (Eq.trans (up2_at (Or.inr (by decide)) eI10) (by rw [eI8]; exact up2_self _ _ _ _))))
      have hz7t : (I14 a0 7).toInt = x1.toInt := congrArg Int32.toInt hz7
      have hz8 : I14 a0 8 = x11_ := (Eq.trans (up2_at (Or.inr (by decide)) eI14) (by rw [eI12]; exact up2_self _ _ _ _))
      have hz8t : (I14 a0 8).toInt = x11_.toInt := congrArg Int32.toInt hz8
      have hz12 : I14 a0 12 = x13_ := (by rw [eI14]; exact up2_self _ _ _ _)
      have hz12t : (I14 a0 12).toInt = x13_.toInt := congrArg Int32.toInt hz12
      have hz20 : I14 a0 20 = C0 := (Eq.trans (up2_at (Or.inr (by decide)) eI14) (Eq.trans (up2_at (Or.inr (by decide)) eI12) (Eq.trans (up2_at (Or.inr (by decide)) eI10) (Eq.trans (up2_at (Or.inr (by decide)) eI8) (Eq.trans (up2_at (Or.inr (by decide)) eI2) eC0.symm)))))
      have hz20t : (I14 a0 20).toInt = C0.toInt := congrArg Int32.toInt hz20
      refine r_aload_n hC dX10_hill_43 0 rfl ?_
      refine r_new hC (ci := 9) (ty := tyX9) rfl u9_in tyX9_ok df9 mT_5_86 mT_5_87 mT_1_17 rfl (by decide) (by decide) dX10_hill_44 (fun q hq => ?_)
      refine r_dup hC dX10_hill_47 rfl ?_
      refine r_callIN hC (As := []) (rest := [.ref q, .ref a0]) (c_X9_init g (xL X) _ _ _ _ _ (hs14.growO hq rfl) q (va_up_self _ _ _) (by funext j; exact z2_self _ _ _ _) (fun j => z2_self _ _ _ _) (UU.new (kd := 21 + 9) hu hq (by decide)) (UN.fresh hu hq)) mT_5_90 mT_1_17 nM_7 mT_5_89 rfl okX9_init ⟨by decide, by decide⟩ rfl rfl (Nat.le_of_ble_eq_true rfl) ⟨by decide, by decide⟩ dX10_hill_48 (aV5 (F := fun st M => P g X 2 51 [(0, .ref a0), (1, .int x1)] st _ _ M) fun M9 h9 => ?_)
      obtain ⟨K9, len9, I9, J9, R9⟩ := M9
      obtain ⟨⟨h9, rn9, hrn9, zrn9⟩, u9, uq9, uy9⟩ := h9
      dsimp only at u9 uq9 uy9 hrn9 zrn9
      have old := made_old hq h9
      have ka9 : K9 a0 = 11 := (old a0 (by rw [ka0]; decide)).1.trans ka0
      show P g X 2 51 [(0, .ref a0), (1, .int x1)] [.ref q, .ref a0] _ _ (K9, len9, I9, J9, R9)
      refine r_putr hC 4 (ci := 10) rfl u10_in tyX10_ok nmX10 (by decide) mT_4_239 rfl rfl rfl dX10_hill_51 ka9 rfl rfl (fun R10 eR10 => ?_)
      have hs10 := h9.1.putR11 eR10 ka9 (Or.inr rfl) h9.2.1
      obtain ⟨nr, hnr, knr, lnr⟩ := hs10.row (a := q) (q := 10) h9.2.1 25 82 19 (by decide) (by decide)
      obtain ⟨ns, hns, kns, lns⟩ := hs10.row (a := q) (q := 10) h9.2.1 26 83 19 (by decide) (by decide)
      obtain ⟨nn, hnn, knn, lnn⟩ := hs10.row (a := q) (q := 10) h9.2.1 27 84 19 (by decide) (by decide)
      have hu10 := u9.put (Or.inr (Or.inr (Or.inr h9.2.1))) (by rw [show K9 q = 10 from h9.2.1]; decide) eR10
      have hqa : q ≠ a0 := fun z => by rw [z, ka0] at hq; exact absurd hq (by decide)
      have hrn10 : R10 q 15 = some rn9 := by rw [eR10, up2_ne _ _ (Or.inl hqa)]; exact hrn9
      have omt := old mt (by rw [kmt]; decide)
      have oa := old a0 (by rw [ka0]; decide)
      have hmt9 : R10 a0 5 = some mt := by rw [eR10, up2_ne _ _ (Or.inr (by decide))]; exact (congrFun oa.2.2.2 5).trans hmt
      have hB9 : BT B x1.toInt.toNat mt I9 := fun j hj => by rw [congrFun omt.2.2.1 j]; exact (hB.mv9 hF14 kmt (fun _ => rfl)) j (by omega)
      have i8 : (I9 a0 8).toInt = 0 := by rw [congrFun oa.2.2.1 8]; omega
      have i7 : (I9 a0 7).toInt = x1.toInt.toNat := by rw [congrFun oa.2.2.1 7]; omega
      have i12 : (I9 a0 12).toInt = 0 := by rw [congrFun oa.2.2.1 12]; omega
      have i6 : (I9 a0 6).toInt = 0 := by rw [congrFun oa.2.2.1 6]; omega
      have i20 : (I9 a0 20).toInt = (I a0 20).toInt := by rw [congrFun oa.2.2.1 20]; omega
      have r3 : R10 a0 3 = R a0 3 := by rw [eR10, up2_ne _ _ (Or.inr (by decide))]; exact congrFun oa.2.2.2 3
      refine tf_X10_hill hC hQ hlk hr K9 len9 I9 J9 R10 hs10 a0 ka9 x1 q (by rw [eR10, up2_self]) h9.2.1 mt hmt9 (omt.1.trans kmt) (omt.2.1.trans nmt) B x1.toInt.toNat hB9 (fun j hj => hBr j (by omega)) (by omega) nr hnr knr lnr ns hns kns lns nn hnn knn lnn hu10 (RM_0 hrn10 (fun j => congrFun zrn9 j)) (SM_0 h9.2.2.1) i8 i7 i12 (fun r I1 J1 R1 hp => ?_)
      obtain ⟨w1, w2, w3, w4, w5, w6, w7, w8⟩ := hp
      refine ⟨r, rfl, w1, fun b hb => ⟨(old b hb).1, (old b hb).2.1⟩, fun b k hb hi => ?_, fun b k hb hi => ?_, fun b hb => ?_, fun b k hb hb2 => ?_, w8, Or.inr ⟨by omega, ?_⟩⟩
      · exact (w2 b k (by rw [(old b hb).1]; exact hi)).trans ((congrFun (old b hb).2.2.1 k).trans (hF14 b k hi))
      · refine (w4 b k (by rw [(old b hb).1]; exact hi)).trans ?_
        rw [eR10, up2_ne _ _ ?_]
        · exact congrFun (old b hb).2.2.2 k
        · by_cases y : b = a0
          · right; intro y2; subst y y2; rw [ka0] at hi; exact absurd hi (by decide)
          · exact Or.inl y
      · have hbq : b ≠ q := fun z => by rw [z, hq] at hb; exact absurd hb (by decide)
        refine (w6 b ((old b (by rw [hb]; decide)).1.trans hb) hbq).trans ((old b (by rw [hb]; decide)).2.2.1.trans ?_)
        funext k
        exact hp14 b hb k
      · have hbn : K b ≠ 0 := fun z => by rw [z] at hb; exact absurd hb (by decide)
        refine (w7 b k (by rw [(old b hbn).1]; exact hb) (fun r9 j9 hc => ?_)).trans ((congrFun (old b hbn).2.2.1 k).trans (hq914 b hb k))
        obtain ⟨-, -, -, hc4⟩ := hc
        rw [eR10, up2_ne _ _ (Or.inl hqa)] at hc4
        obtain ⟨c, i, hc0, hc5⟩ := hb2
        have hc6 : R9 c i = some b := by rw [congrFun (old c hc0).2.2.2 i]; exact hc5
        have hqm : K9 b ≠ 2 ∧ K9 b ≠ 6 ∧ K9 b ≠ 10 := by rw [(old b hbn).1]; exact qM_ne hb
        have h8 := (u9.2 q _ c i b hc4 hc6 hqm.1 hqm.2.1 hqm.2.2).1
        exact hc0 (by rw [← h8]; exact hq)
      · rcases w5 with ⟨kf, qf, g1, g2, g3, g4, g5, g6, g7⟩ | ⟨D9, g1, g2, g3, g4, g5, g6, g7, g8, g9, g10, g11⟩
        · exact Or.inl ⟨kf, qf, g1, g2, g3, g4, g5.trans i6, g6.trans i20, g7.trans r3⟩
        · exact Or.inr ⟨D9, q, g1, g2, g3, g4, g5.trans i6, g6, g7, h9.2.1, g8, g9, g10, g11⟩
    · refine r_aload_n hC dX10_hill_17 0 rfl ?_
      refine r_iconst hC (v := (2)) dX10_hill_18 (by decide) (by decide) (fun x15_ e15 t15 => ?_)
      refine r_callV hC (As := [.int x15_]) (rest := []) (ci := 10) (c_X10_refused g (xL X) K len I2 J R hs2 a0 ka0 x15_) mT_5_85 mT_1_10 mT_5_82 mT_5_84 mP_48 okX10_refused ⟨by decide, by decide⟩ rfl (by show kO (K a0) = _; rw [ka0]; rfl) rfl rfl (Nat.le_of_ble_eq_true rfl) ⟨by decide, by decide⟩ dX10_hill_19 (aI1 (F := fun st M => P g X 2 22 [(0, .ref a0), (1, .int x1)] st _ _ M) (M := (K, len, I2, J, R)) fun x16_ I16 h16 => ?_)
      obtain ⟨hs16, hf16, k16_0, k16_1, k16_2⟩ := h16
      show P g X 2 22 [(0, .ref a0), (1, .int x1)] [.int x16_] _ _ (K, len, I16, J, R)
      have hF16 : Fr K [(10, 0), (10, 1), (10, 2), (10, 3), (10, 4), (10, 5), (10, 6), (10, 7), (10, 8), (10, 9), (10, 10), (11, 0), (11, 1), (11, 2), (11, 6), (11, 7), (11, 8), (11, 9), (11, 10), (11, 11), (11, 12), (11, 13), (11, 20), (70, 999), (71, 999), (72, 999), (73, 999), (74, 999), (75, 999), (76, 999), (77, 999), (78, 999), (79, 999), (80, 999), (81, 999), (83, 999), (84, 999), (1000, 999)] I I16 := hF2.trans hf16 rfl rfl
      have hp16 : ∀ b, K b = 10 → ∀ k, I16 b k = I b k := fun b hb k => (hf16.get hb rfl).trans (hp2 b hb k)
      have hq916 : ∀ b, qM (K b) = true → ∀ k, I16 b k = I b k := fun b hb k => (hf16.get rfl (okQ_in (q := qM) rfl qM_big hb k)).trans (hq92 b hb k)
      have hv6 : I16 a0 6 = x6_ := (Eq.trans (hf16.get ka0 rfl) e6.symm)
      have hv6t : (I16 a0 6).toInt = x6_.toInt := congrArg Int32.toInt hv6
      have hv12 : I16 a0 12 = F0 := (Eq.trans (hf16.get ka0 rfl) (Eq.trans (up2_at (Or.inr (by decide)) eI2) eF0.symm))
      have hv12t : (I16 a0 12).toInt = F0.toInt := congrArg Int32.toInt hv12
      have hv20 : I16 a0 20 = C0 := (Eq.trans (hf16.get ka0 rfl) (Eq.trans (up2_at (Or.inr (by decide)) eI2) eC0.symm))
      have hv20t : (I16 a0 20).toInt = C0.toInt := congrArg Int32.toInt hv20
      exact r_iret hC hQ hlk hr rfl (by decide) (by decide) dX10_hill_22 ⟨_, rfl, hs16, fun b _ => ⟨rfl, rfl⟩, fun b k _ hi => hF16 b k hi, fun _ _ _ _ => rfl, fun b hb => funext fun k => hp16 b hb k, fun b k hb _ => hq916 b hb k, hu, Or.inl ⟨by omega, by omega, by show (I16 a0 2).toInt = -1; omega, by show (I16 a0 6).toInt = _; omega, by show (I16 a0 12).toInt = _; omega, by show (I16 a0 20).toInt = _; omega, rfl⟩⟩

