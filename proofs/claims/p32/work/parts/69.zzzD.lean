theorem LPd_b {D : DD} (hJ : DJ D) {G : Nat → Int} (hG : ∀ d, 0 ≤ G d ∧ G d ≤ 999) (j : Nat) : 0 ≤ Lp D G (j + 1) ∧ Lp D G (j + 1) ≤ 999 := Lp_b hJ hG (j + 1)

set_option maxHeartbeats 4000000 in
set_option maxRecDepth 100000 in
theorem f_X2_fillSteady (g : GG) (l : Launch) (K len : Nat → Nat) (I : Nat → Nat → Int32) (J : Nat → Nat → Int64) (R : Nat → Nat → Option Nat) (hs : Sf K len I R) (a0 : Nat) (ka0 : K a0 = 3) (a1 : Nat) (ka1 : K a1 = 41) (na1 : len a1 = 60) (x2 : Int32) (hz : Nat) (khz : K hz = 2) (hu : UU K R) (D : DD) (hJ : DJ D) (rwd : RW (CC hz a0 R) (cntN D) D I) (hd1 : (I a0 1).toInt = D 0 1) (hd2 : (I a0 2).toInt = D 0 2) (hd3 : (I a0 3).toInt = D 0 3) (hd4 : (I a0 4).toInt = D 0 4) (pg : 0 ≤ x2.toInt ∧ x2.toInt ≤ 999) : Ct g l yX2_fillSteady cX2_fillSteady 5 (Option.none : Option Jvm.ClassFile.FieldType) rmX2_fillSteady [.ref a0, .ref a1, .int x2] (K, len, I, J, R) (pV1 (K, len, I, J, R) (fun I' => Sf K len I' R ∧ Fr K [(41, 999)] I I' ∧ (∀ j : Nat, j < 60 → (I' a1 j).toInt = Lp D (fun _ => x2.toInt) (j + 1)) ∧ (∀ b k, b ≠ a1 → I' b k = I b k))) := by
  refine Ct_intro (by decide +kernel) (Nat.le_of_ble_eq_true rfl) (fun X hC hL hKK hNm hr hlk hQ => ?_)
  subst hL
  have hC : Cx g X cX2_fillSteady "HillTap$Lake" 5 rmX2_fillSteady := hC
  show P g X 5 0 [(0, .ref a0), (1, .ref a1), (2, .int x2)] [] 0 0 (K, len, I, J, R)
  have hF : Fr K [(41, 999)] I I := Fr.refl
  have hcx := CC_x hs khz ka0 hu
  have b_x2 := ti_rng x2
  refine r_aload_n hC dX2_fillSteady_0 0 rfl ?_
  refine r_geti hC 1 (ci := 2) rfl u2_in (by decide) mT_1_119 dX2_fillSteady_1 ka0 rfl rfl (fun x1_ e1 => ?_)
  have f1 : x1_.toInt = (I a0 1).toInt := by rw [e1]
  refine r_istore_n hC (lv' := [(3, .int x1_), (0, .ref a0), (1, .ref a1), (2, .int x2)]) dX2_fillSteady_4 (by decide) rfl ?_
  refine r_iconst hC (v := (0)) dX2_fillSteady_5 (by decide) (by decide) (fun x2_ e2 t2 => ?_)
  refine r_istore hC (lv' := [(4, .int x2_), (3, .int x1_), (0, .ref a0), (1, .ref a1), (2, .int x2)]) dX2_fillSteady_6 (by decide) rfl ?_
  have LP3 : ∀ (mu : Nat) (x3_4 : Int32) (x3_3 : Int32) (I3 : Nat → Nat → Int32) (hs3 : Sf K len I3 R) (hF3 : Fr K [(41, 999)] I I3) (v3_0 : 0 ≤ x3_4.toInt) (v3_1 : x3_4.toInt ≤ 60) (v3_2 : x3_3.toInt = Lp D (fun _ : Nat => x2.toInt) x3_4.toInt.toNat) (v3_3 : ∀ j : Nat, 0 ≤ j → (j : Int) < x3_4.toInt → (I3 a1 j).toInt = (fun j => Lp D (fun _ : Nat => x2.toInt) (j + 1)) j) (v3_4 : ∀ b k, b ≠ a1 → I3 b k = I b k), (60 - x3_4.toInt).toNat = mu → P g X 5 8 [(0, .ref a0), (1, .ref a1), (2, .int x2), (3, .int x3_3), (4, .int x3_4)] [] 0 0 (K, len, I3, J, R) := by
    intro mu; induction mu using Nat.strongRecOn with | ind mu ih => ?_
    intro x3_4 x3_3 I3 hs3 hF3 v3_0 v3_1 v3_2 v3_3 v3_4 hmu
    have ih3 := ih
    clear ih
    have hmu3 := hmu
    clear hmu
    refine r_iload hC dX2_fillSteady_8 4 rfl ?_
    refine r_bipush hC (v := (60)) dX2_fillSteady_10 (by decide) (by decide) (fun x4_ e4 t4 => ?_)
    refine r_icmp_ge hC (tgt := 33) dX2_fillSteady_12 (by decide) (fun c5 => ?_) (fun c5 => ?_)
    · exact r_vret hC hQ hlk hr (by decide) (by decide) dX2_fillSteady_33 ⟨_, rfl, rfl, ⟨hs3, hF3, (by exact fun j hj => v3_3 j (Nat.zero_le j) (by omega)), (by exact v3_4)⟩⟩
    · refine r_aload_n hC dX2_fillSteady_15 0 rfl ?_
      refine r_iload_n hC dX2_fillSteady_16 2 rfl ?_
      refine r_iload_n hC dX2_fillSteady_17 3 rfl ?_
      have lb := Lp_b hJ (G := (fun _ : Nat => x2.toInt)) (fun d => ⟨by omega, by omega⟩) x3_4.toInt.toNat
      have d2 := hJ.2.2.2.2.1
      have hm2 : (I3 a0 2).toInt = D 0 2 := by rw [hF3.get ka0 rfl]; exact hd2
      refine r_callV hC (As := [.int x2, .int x3_3]) (rest := []) (ci := 2) (f_X2_towards g (xL X) K len I3 J R hs3 a0 ka0 x2 x3_3 (by omega) (by omega) (by omega) (by omega) (by omega) (by omega)) mT_3_110 mT_1_6 mT_3_107 mT_3_109 mP_20 okX2_towards ⟨by decide, by decide⟩ rfl (by show kO (K a0) = _; rw [ka0]; rfl) rfl rfl (Nat.le_of_ble_eq_true rfl) ⟨by decide, by decide⟩ dX2_fillSteady_18 (aI0 (F := fun st M => P g X 5 21 [(0, .ref a0), (1, .ref a1), (2, .int x2), (3, .int x3_3), (4, .int x3_4)] st _ _ M) (M := (K, len, I3, J, R)) fun x6_ h6 => ?_)
      have k6_0 := h6
      clear h6
      show P g X 5 21 [(0, .ref a0), (1, .ref a1), (2, .int x2), (3, .int x3_3), (4, .int x3_4)] [.int x6_] _ _ (K, len, I3, J, R)
      have tf : x6_.toInt = Lp D (fun _ : Nat => x2.toInt) (x3_4.toInt.toNat + 1) := by show _ = tw (D 0 2) x2.toInt (Lp D (fun _ : Nat => x2.toInt) _); rw [k6_0, v3_2, hm2]
      refine r_istore_n hC (lv' := [(3, .int x6_), (0, .ref a0), (1, .ref a1), (2, .int x2), (4, .int x3_4)]) dX2_fillSteady_21 (by decide) rfl ?_
      refine r_aload_n hC dX2_fillSteady_22 2 rfl ?_
      refine r_iload hC dX2_fillSteady_23 4 rfl ?_
      refine r_iload_n hC dX2_fillSteady_25 0 rfl ?_
      refine x_iastore hC ka1 na1 (by decide) rfl rfl dX2_fillSteady_26 (by omega) (by omega) (fun I7 eI7 => ?_)
      have hs7 := hs3.put0 eI7 ka1 (rng_arr (by decide) _) rfl (xF_arr (by decide) _) (by decide)
      have hF7 := hF3.put eI7 ka1 (inS_arr rfl _)
      obtain ⟨x8_, e8⟩ : ∃ z : Int32, z = x3_4 + Int32.ofInt (1) := ⟨_, rfl⟩
      refine r_iinc hC (j := 4) (v := x8_) (lv' := [(4, .int x8_), (3, .int x6_), (0, .ref a0), (1, .ref a1), (2, .int x2)]) dX2_fillSteady_27 rfl (by rw [e8]) (by decide) rfl ?_
      try have t8 : x8_.toInt = x3_4.toInt + (1) := by rw [e8]; exact (ti_add (b := Int32.ofInt (1)) (by show _ ≤ _ + (1 : Int); omega) (by show _ + (1 : Int) ≤ _; omega))
      refine r_goto hC (tgt := 8) dX2_fillSteady_30 (by decide) ?_
      refine r_sub [2, 3, 4, 1, 0] rfl ?_
      exact ih3 ((60 - x8_.toInt).toNat) (by omega) x8_ x6_ I7 hs7 hF7 (by omega) (by omega) (by first | (rw [show x8_.toInt.toNat = 0 by omega]; show _ = D 0 1; omega) | (rw [show x8_.toInt.toNat = x3_4.toInt.toNat + 1 by omega]; exact tf)) (by first | exact all_0 (P := fun j => (I a1 j).toInt = Lp D (fun _ : Nat => x2.toInt) (j + 1)) (q := 0) (by omega) | exact fillf_s (f := fun j => Lp D (fun _ : Nat => x2.toInt) (j + 1)) (k := x3_4.toNatClampNeg) v3_3 eI7 (by have h9 := clampI (i := x3_4) (by omega); omega) (by rw [clx (i := x3_4) rfl (by omega)]; exact tf) (by omega)) (by first | exact fun b k hb => rfl | exact fill_o v3_4 eI7) rfl
  refine r_sub [2, 3, 4, 1, 0] rfl ?_
  exact LP3 _ x2_ x1_ I hs hF (by omega) (by omega) (by first | (rw [show x2_.toInt.toNat = 0 by omega]; show _ = D 0 1; omega) | (rw [show x2_.toInt.toNat = x3_4.toInt.toNat + 1 by omega]; exact tf)) (by first | exact all_0 (P := fun j => (I a1 j).toInt = Lp D (fun _ : Nat => x2.toInt) (j + 1)) (q := 0) (by omega) | exact fillf_s (f := fun j => Lp D (fun _ : Nat => x2.toInt) (j + 1)) (k := x3_4.toNatClampNeg) v3_3 eI (by have h9 := clampI (i := x3_4) (by omega); omega) (by rw [clx (i := x3_4) rfl (by omega)]; exact tf) (by omega)) (by first | exact fun b k hb => rfl | exact fill_o v3_4 eI) rfl
set_option maxHeartbeats 4000000 in
set_option maxRecDepth 100000 in
theorem f_X8_staysIfDownFrom (g : GG) (l : Launch) (K len : Nat → Nat) (I : Nat → Nat → Int32) (J : Nat → Nat → Int64) (R : Nat → Nat → Option Nat) (hs : Sf K len I R) (a0 : Nat) (ka0 : K a0 = 9) (x1 : Int32) (x2 : Int32) (h : Nat) (hh : R a0 2 = some h) (kh : K h = 2) (lk : Nat) (hlk2 : R h 0 = some lk) (klk : K lk = 3) (rd : Nat) (hrd : R a0 9 = some rd) (krd : K rd = 4) (lv : Nat) (hlv : R a0 4 = some lv) (klv : K lv = 41) (llv : len lv = 60) (kn : Nat) (hkn : R a0 6 = some kn) (kkn : K kn = 43) (lkn : len kn = 6) (cr : Nat) (hcr : R a0 5 = some cr) (kcr1 : K cr = 44) (lcr : len cr = 6) (hu : UU K R) (D : DD) (E : Nat → Nat → Int) (hc : KC D E a0 h lk rd I R) (p0 : 0 ≤ x1.toInt) (p1 : x1.toInt < D 0 7) : Ct g l yX8_staysIfDownFrom cX8_staysIfDownFrom 3 (Option.some Jvm.ClassFile.FieldType.boolean) rmX8_staysIfDownFrom [.ref a0, .int x1, .int x2] (K, len, I, J, R) (pI1 (K, len, I, J, R) (fun r I' => Sf K len I' R ∧ Fr K [(1, 5), (1, 6), (41, 999), (50, 999), (51, 999), (52, 999), (53, 999), (54, 999)] I I' ∧ (KC D E a0 h lk rd I' R) ∧ (r.toInt = 1 ∧ (GV D x1.toInt.toNat (Ad D x1.toInt.toNat (fun j => Lp D (Gp D x2.toInt) (j + 1)) 1) 60 = -2) ∨ r.toInt = 0 ∧ ¬ (GV D x1.toInt.toNat (Ad D x1.toInt.toNat (fun j => Lp D (Gp D x2.toInt) (j + 1)) 1) 60 = -2)))) := by
  refine Ct_intro (by decide +kernel) (Nat.le_of_ble_eq_true rfl) (fun X hC hL hKK hNm hr hlk hQ => ?_)
  subst hL
  have hC : Cx g X cX8_staysIfDownFrom "HillTap" 3 rmX8_staysIfDownFrom := hC
  show P g X 3 0 [(0, .ref a0), (1, .int x1), (2, .int x2)] [] 0 0 (K, len, I, J, R)
  have hF : Fr K [(1, 5), (1, 6), (41, 999), (50, 999), (51, 999), (52, 999), (53, 999), (54, 999)] I I := Fr.refl
  have ka : KA a0 h lk rd K len R := ⟨⟨_, hs⟩, hu, ka0, kh, klk, krd⟩
  obtain ⟨sd1, sd2, sd3, sd4, sd5, sd7, sd8, sd9⟩ := id hc.2.1
  have d7b := hs.rng kh (k := 6) rfl (x := I h 6) rfl
  have d5b := hs.rng kh (k := 1) rfl (x := I h 1) rfl
  have d8b := hs.rng kh (k := 8) rfl (x := I h 8) rfl
  obtain ⟨hJ, h6, -⟩ := hc.2.2.1 (by omega)
  obtain ⟨tl, htl, ktl, ltl⟩ := hs.row ka0 7 41 60 (by decide) (by decide)
  obtain ⟨tc, htc, ktc⟩ := hs.obj ka0 8 1 (by decide)
  obtain ⟨rr, hrr, krr, lrr⟩ := hs.row kh 5 57 60 (by decide) (by decide)
  obtain ⟨sr, hsr, ksr, lsr⟩ := hs.row ktc 0 50 300 (by decide) (by decide)
  obtain ⟨ir, hir, kir, lir⟩ := hs.row ktc 1 51 300 (by decide) (by decide)
  obtain ⟨wr, hwr, kwr, lwr⟩ := hs.row ktc 2 52 300 (by decide) (by decide)
  obtain ⟨tr, htr, ktr, ltr⟩ := hs.row ktc 3 53 60 (by decide) (by decide)
  obtain ⟨dr, hdr, kdr, ldr⟩ := hs.row ktc 4 54 60 (by decide) (by decide)
  have b_x1 := ti_rng x1
  have b_x2 := ti_rng x2
  refine r_aload_n hC dX8_staysIfDownFrom_0 0 rfl ?_
  refine r_getr hC 2 (ci := 8) rfl u8_in (by decide) mT_2_80 dX8_staysIfDownFrom_1 ka0 rfl rfl hh ?_
  refine r_getr hC 0 (ci := 1) rfl u1_in (by decide) mT_1_182 dX8_staysIfDownFrom_4 kh rfl rfl hlk2 ?_
  refine r_aload_n hC dX8_staysIfDownFrom_7 0 rfl ?_
  refine r_getr hC 7 (ci := 8) rfl u8_in (by decide) mT_2_85 dX8_staysIfDownFrom_8 ka0 rfl rfl htl ?_
  refine r_iload_n hC dX8_staysIfDownFrom_11 2 rfl ?_
  refine r_callV hC (As := [.ref tl, .int x2]) (rest := []) (ci := 2) (f_X2_fillByPlan g (xL X) K len I J R hs lk klk tl ktl ltl x2 h kh hu D hJ hc.1 sd1 sd2 sd3 sd4) mT_3_101 mT_1_6 mT_3_98 mT_3_99 mT_3_100 okX2_fillByPlan ⟨by decide, by decide⟩ rfl (by show kO (K lk) = _; rw [klk]; rfl) rfl rfl (Nat.le_of_ble_eq_true rfl) ⟨by decide, by decide⟩ dX8_staysIfDownFrom_12 (aV1 (F := fun st M => P g X 3 15 [(0, .ref a0), (1, .int x1), (2, .int x2)] st _ _ M) (M := (K, len, I, J, R)) fun I1 h1 => ?_)
  obtain ⟨hs1, hf1, k1_0, k1_1⟩ := h1
  show P g X 3 15 [(0, .ref a0), (1, .int x1), (2, .int x2)] [] _ _ (K, len, I1, J, R)
  have hF1 : Fr K [(1, 5), (1, 6), (41, 999), (50, 999), (51, 999), (52, 999), (53, 999), (54, 999)] I I1 := hF.trans hf1 rfl rfl
  have hc1 := hc.eqT ka htc htl (fun a k _ z1 z2 z3 => k1_1 a k z2)
  refine r_aload_n hC dX8_staysIfDownFrom_15 0 rfl ?_
  refine r_getr hC 8 (ci := 8) rfl u8_in (by decide) mT_2_86 dX8_staysIfDownFrom_16 ka0 rfl rfl htc ?_
  refine r_aload_n hC dX8_staysIfDownFrom_19 0 rfl ?_
  refine r_getr hC 2 (ci := 8) rfl u8_in (by decide) mT_2_80 dX8_staysIfDownFrom_20 ka0 rfl rfl hh ?_
  refine r_aload_n hC dX8_staysIfDownFrom_23 0 rfl ?_
  refine r_getr hC 2 (ci := 8) rfl u8_in (by decide) mT_2_80 dX8_staysIfDownFrom_24 ka0 rfl rfl hh ?_
  obtain ⟨a2_, hb2, hk2, hn2⟩ := hs1.row kh 7 45 6 (by decide) (by decide)
  refine r_getr hC 7 (ci := 1) rfl u1_in (by decide) mT_1_205 dX8_staysIfDownFrom_27 kh rfl rfl hb2 ?_
  refine r_iload_n hC dX8_staysIfDownFrom_30 1 rfl ?_
  obtain ⟨a3_, hb3, hk3⟩ := hs1.sto hk2 (i := x1) (by omega) (by omega)
  refine x_aaload (C := "HillTap$Story") hC hk2 hn2 (by decide) rfl (by decide) dX8_staysIfDownFrom_31 (by omega) (by omega) hb3 ?_
  refine r_aload_n hC dX8_staysIfDownFrom_32 0 rfl ?_
  refine r_getr hC 7 (ci := 8) rfl u8_in (by decide) mT_2_85 dX8_staysIfDownFrom_33 ka0 rfl rfl htl ?_
  refine r_iconst hC (v := (1)) dX8_staysIfDownFrom_36 (by decide) (by decide) (fun x4_ e4 t4 => ?_)
  have ecl : x1.toNatClampNeg = x1.toInt.toNat := clx rfl (by omega)
  have hbs : R a2_ x1.toInt.toNat = some a3_ := by rw [← ecl]; exact hb3
  obtain ⟨-, q7, q8, q9⟩ := hc1.sto hb2 hbs (by omega) (by omega)
  refine r_callV hC (As := [.ref h, .ref a3_, .ref tl, .int x4_]) (rest := []) (ci := 0) (f_X0_follow g (xL X) K len I1 J R hs1 tc ktc h kh a3_ hk3 tl ktl ltl x4_ sr hsr ksr lsr ir hir kir lir wr hwr kwr lwr tr htr ktr ltr dr hdr kdr ldr (fun j => Lp D (Gp D x2.toInt) (j + 1)) (fun j hj => ⟨k1_0 j hj, LPd_b hJ (fun d => Gp_b hJ) j⟩) (LPd_b hJ (fun d => Gp_b hJ)) D hJ h6 x1.toInt.toNat (by omega) q7 q8 q9 lk hlk2 klk hu hc1.1 hc1.2.1.1 hc1.2.1.2.2.2.2.1 rr hrr krr lrr (hc1.rn hrr)) mT_3_167 mT_1_8 mT_3_164 mT_3_165 mT_3_166 okX0_follow ⟨by decide, by decide⟩ rfl (by show kO (K tc) = _; rw [ktc]; rfl) rfl rfl (Nat.le_of_ble_eq_true rfl) ⟨by decide, by decide⟩ dX8_staysIfDownFrom_37 (aV1 (F := fun st M => P g X 3 40 [(0, .ref a0), (1, .int x1), (2, .int x2)] st _ _ M) (M := (K, len, I1, J, R)) fun I5 h5 => ?_)
  obtain ⟨hs5, hf5, k5_0, k5_1, k5_2, k5_3⟩ := h5
  show P g X 3 40 [(0, .ref a0), (1, .int x1), (2, .int x2)] [] _ _ (K, len, I5, J, R)
  have hF5 : Fr K [(1, 5), (1, 6), (41, 999), (50, 999), (51, 999), (52, 999), (53, 999), (54, 999)] I I5 := hF1.trans hf5 rfl rfl
  have hc5 := hc1.eqT ka htc htl (fun a k _ z1 z2 z3 => k5_3 a k z1 (fun y => z3 0 (by decide) (by rw [y]; exact hsr)) (fun y => z3 1 (by decide) (by rw [y]; exact hir)) (fun y => z3 2 (by decide) (by rw [y]; exact hwr)) (fun y => z3 3 (by decide) (by rw [y]; exact htr)) (fun y => z3 4 (by decide) (by rw [y]; exact hdr)))
  have j0 := k5_0; have j1 := k5_1; have j2 := k5_2
  rw [t4] at j0 j1 j2
  have cot : CO D x1.toInt.toNat (fun j => Lp D (Gp D x2.toInt) (j + 1)) 1 tc I5 R := ⟨fun s1 s2 s3 s4 g0 g1 g2 g3 => by rw [hsr] at g0; rw [hir] at g1; rw [hwr] at g2; rw [htr] at g3; cases g0; cases g1; cases g2; cases g3; exact j0, j1, j2⟩
  refine r_aload_n hC dX8_staysIfDownFrom_40 0 rfl ?_
  refine r_getr hC 8 (ci := 8) rfl u8_in (by decide) mT_2_86 dX8_staysIfDownFrom_41 ka0 rfl rfl htc ?_
  refine r_geti hC 5 (ci := 0) rfl u0_in (by decide) mT_2_36 dX8_staysIfDownFrom_44 ktc rfl rfl (fun x6_ e6 => ?_)
  have f6 : x6_.toInt = (I5 tc 5).toInt := by rw [e6]
  have q6 : x6_.toInt = GV D x1.toInt.toNat (Ad D x1.toInt.toNat (fun j => Lp D (Gp D x2.toInt) (j + 1)) 1) 60 := by rw [e6]; exact cot.2.1
  refine r_bipush hC (v := (-2)) dX8_staysIfDownFrom_47 (by decide) (by decide) (fun x7_ e7 t7 => ?_)
  refine r_icmp_ne hC (tgt := 56) dX8_staysIfDownFrom_49 (by decide) (fun c8 => ?_) (fun c8 => ?_)
  · refine r_iconst hC (v := (0)) dX8_staysIfDownFrom_56 (by decide) (by decide) (fun x9_ e9 t9 => ?_)
    exact r_iret hC hQ hlk hr (by rw [e9]; rfl) (by decide) (by decide) dX8_staysIfDownFrom_57 ⟨_, _, rfl, rfl, ⟨hs5, hF5, (by exact hc5), (by omega)⟩⟩
  · refine r_iconst hC (v := (1)) dX8_staysIfDownFrom_52 (by decide) (by decide) (fun x10_ e10 t10 => ?_)
    refine r_goto hC (tgt := 57) dX8_staysIfDownFrom_53 (by decide) ?_
    exact r_iret hC hQ hlk hr (by rw [e10]; rfl) (by decide) (by decide) dX8_staysIfDownFrom_57 ⟨_, _, rfl, rfl, ⟨hs5, hF5, (by exact hc5), (by omega)⟩⟩
set_option maxHeartbeats 4000000 in
set_option maxRecDepth 100000 in
theorem f_X8_staysIfSteady (g : GG) (l : Launch) (K len : Nat → Nat) (I : Nat → Nat → Int32) (J : Nat → Nat → Int64) (R : Nat → Nat → Option Nat) (hs : Sf K len I R) (a0 : Nat) (ka0 : K a0 = 9) (x1 : Int32) (x2 : Int32) (h : Nat) (hh : R a0 2 = some h) (kh : K h = 2) (lk : Nat) (hlk2 : R h 0 = some lk) (klk : K lk = 3) (rd : Nat) (hrd : R a0 9 = some rd) (krd : K rd = 4) (lv : Nat) (hlv : R a0 4 = some lv) (klv : K lv = 41) (llv : len lv = 60) (kn : Nat) (hkn : R a0 6 = some kn) (kkn : K kn = 43) (lkn : len kn = 6) (cr : Nat) (hcr : R a0 5 = some cr) (kcr1 : K cr = 44) (lcr : len cr = 6) (hu : UU K R) (D : DD) (E : Nat → Nat → Int) (hc : KC D E a0 h lk rd I R) (p0 : 0 ≤ x1.toInt) (p1 : x1.toInt < D 0 7) (p2 : 0 ≤ x2.toInt ∧ x2.toInt ≤ 999) : Ct g l yX8_staysIfSteady cX8_staysIfSteady 3 (Option.some Jvm.ClassFile.FieldType.boolean) rmX8_staysIfSteady [.ref a0, .int x1, .int x2] (K, len, I, J, R) (pI1 (K, len, I, J, R) (fun r I' => Sf K len I' R ∧ Fr K [(1, 5), (1, 6), (41, 999), (50, 999), (51, 999), (52, 999), (53, 999), (54, 999)] I I' ∧ (KC D E a0 h lk rd I' R) ∧ (r.toInt = 1 ∧ (GV D x1.toInt.toNat (Ad D x1.toInt.toNat (fun j => Lp D (fun _ => x2.toInt) (j + 1)) 1) 60 = -2) ∨ r.toInt = 0 ∧ ¬ (GV D x1.toInt.toNat (Ad D x1.toInt.toNat (fun j => Lp D (fun _ => x2.toInt) (j + 1)) 1) 60 = -2)))) := by
  refine Ct_intro (by decide +kernel) (Nat.le_of_ble_eq_true rfl) (fun X hC hL hKK hNm hr hlk hQ => ?_)
  subst hL
  have hC : Cx g X cX8_staysIfSteady "HillTap" 3 rmX8_staysIfSteady := hC
  show P g X 3 0 [(0, .ref a0), (1, .int x1), (2, .int x2)] [] 0 0 (K, len, I, J, R)
  have hF : Fr K [(1, 5), (1, 6), (41, 999), (50, 999), (51, 999), (52, 999), (53, 999), (54, 999)] I I := Fr.refl
  have ka : KA a0 h lk rd K len R := ⟨⟨_, hs⟩, hu, ka0, kh, klk, krd⟩
  obtain ⟨sd1, sd2, sd3, sd4, sd5, sd7, sd8, sd9⟩ := id hc.2.1
  have d7b := hs.rng kh (k := 6) rfl (x := I h 6) rfl
  have d5b := hs.rng kh (k := 1) rfl (x := I h 1) rfl
  have d8b := hs.rng kh (k := 8) rfl (x := I h 8) rfl
  obtain ⟨hJ, h6, -⟩ := hc.2.2.1 (by omega)
  obtain ⟨tl, htl, ktl, ltl⟩ := hs.row ka0 7 41 60 (by decide) (by decide)
  obtain ⟨tc, htc, ktc⟩ := hs.obj ka0 8 1 (by decide)
  obtain ⟨rr, hrr, krr, lrr⟩ := hs.row kh 5 57 60 (by decide) (by decide)
  obtain ⟨sr, hsr, ksr, lsr⟩ := hs.row ktc 0 50 300 (by decide) (by decide)
  obtain ⟨ir, hir, kir, lir⟩ := hs.row ktc 1 51 300 (by decide) (by decide)
  obtain ⟨wr, hwr, kwr, lwr⟩ := hs.row ktc 2 52 300 (by decide) (by decide)
  obtain ⟨tr, htr, ktr, ltr⟩ := hs.row ktc 3 53 60 (by decide) (by decide)
  obtain ⟨dr, hdr, kdr, ldr⟩ := hs.row ktc 4 54 60 (by decide) (by decide)
  have pg : 0 ≤ x2.toInt ∧ x2.toInt ≤ 999 := by omega
  have b_x1 := ti_rng x1
  have b_x2 := ti_rng x2
  refine r_aload_n hC dX8_staysIfSteady_0 0 rfl ?_
  refine r_getr hC 2 (ci := 8) rfl u8_in (by decide) mT_2_80 dX8_staysIfSteady_1 ka0 rfl rfl hh ?_
  refine r_getr hC 0 (ci := 1) rfl u1_in (by decide) mT_1_182 dX8_staysIfSteady_4 kh rfl rfl hlk2 ?_
  refine r_aload_n hC dX8_staysIfSteady_7 0 rfl ?_
  refine r_getr hC 7 (ci := 8) rfl u8_in (by decide) mT_2_85 dX8_staysIfSteady_8 ka0 rfl rfl htl ?_
  refine r_iload_n hC dX8_staysIfSteady_11 2 rfl ?_
  refine r_callV hC (As := [.ref tl, .int x2]) (rest := []) (ci := 2) (f_X2_fillSteady g (xL X) K len I J R hs lk klk tl ktl ltl x2 h kh hu D hJ hc.1 sd1 sd2 sd3 sd4 pg) mT_4_90 mT_1_6 mT_4_87 mT_4_88 mT_4_89 okX2_fillSteady ⟨by decide, by decide⟩ rfl (by show kO (K lk) = _; rw [klk]; rfl) rfl rfl (Nat.le_of_ble_eq_true rfl) ⟨by decide, by decide⟩ dX8_staysIfSteady_12 (aV1 (F := fun st M => P g X 3 15 [(0, .ref a0), (1, .int x1), (2, .int x2)] st _ _ M) (M := (K, len, I, J, R)) fun I1 h1 => ?_)
  obtain ⟨hs1, hf1, k1_0, k1_1⟩ := h1
  show P g X 3 15 [(0, .ref a0), (1, .int x1), (2, .int x2)] [] _ _ (K, len, I1, J, R)
  have hF1 : Fr K [(1, 5), (1, 6), (41, 999), (50, 999), (51, 999), (52, 999), (53, 999), (54, 999)] I I1 := hF.trans hf1 rfl rfl
  have hc1 := hc.eqT ka htc htl (fun a k _ z1 z2 z3 => k1_1 a k z2)
  refine r_aload_n hC dX8_staysIfSteady_15 0 rfl ?_
  refine r_getr hC 8 (ci := 8) rfl u8_in (by decide) mT_2_86 dX8_staysIfSteady_16 ka0 rfl rfl htc ?_
  refine r_aload_n hC dX8_staysIfSteady_19 0 rfl ?_
  refine r_getr hC 2 (ci := 8) rfl u8_in (by decide) mT_2_80 dX8_staysIfSteady_20 ka0 rfl rfl hh ?_
  refine r_aload_n hC dX8_staysIfSteady_23 0 rfl ?_
  refine r_getr hC 2 (ci := 8) rfl u8_in (by decide) mT_2_80 dX8_staysIfSteady_24 ka0 rfl rfl hh ?_
  obtain ⟨a2_, hb2, hk2, hn2⟩ := hs1.row kh 7 45 6 (by decide) (by decide)
  refine r_getr hC 7 (ci := 1) rfl u1_in (by decide) mT_1_205 dX8_staysIfSteady_27 kh rfl rfl hb2 ?_
  refine r_iload_n hC dX8_staysIfSteady_30 1 rfl ?_
  obtain ⟨a3_, hb3, hk3⟩ := hs1.sto hk2 (i := x1) (by omega) (by omega)
  refine x_aaload (C := "HillTap$Story") hC hk2 hn2 (by decide) rfl (by decide) dX8_staysIfSteady_31 (by omega) (by omega) hb3 ?_
  refine r_aload_n hC dX8_staysIfSteady_32 0 rfl ?_
  refine r_getr hC 7 (ci := 8) rfl u8_in (by decide) mT_2_85 dX8_staysIfSteady_33 ka0 rfl rfl htl ?_
  refine r_iconst hC (v := (1)) dX8_staysIfSteady_36 (by decide) (by decide) (fun x4_ e4 t4 => ?_)
  have ecl : x1.toNatClampNeg = x1.toInt.toNat := clx rfl (by omega)
  have hbs : R a2_ x1.toInt.toNat = some a3_ := by rw [← ecl]; exact hb3
  obtain ⟨-, q7, q8, q9⟩ := hc1.sto hb2 hbs (by omega) (by omega)
  refine r_callV hC (As := [.ref h, .ref a3_, .ref tl, .int x4_]) (rest := []) (ci := 0) (f_X0_follow g (xL X) K len I1 J R hs1 tc ktc h kh a3_ hk3 tl ktl ltl x4_ sr hsr ksr lsr ir hir kir lir wr hwr kwr lwr tr htr ktr ltr dr hdr kdr ldr (fun j => Lp D (fun _ => x2.toInt) (j + 1)) (fun j hj => ⟨k1_0 j hj, LPd_b hJ (fun d => pg) j⟩) (LPd_b hJ (fun d => pg)) D hJ h6 x1.toInt.toNat (by omega) q7 q8 q9 lk hlk2 klk hu hc1.1 hc1.2.1.1 hc1.2.1.2.2.2.2.1 rr hrr krr lrr (hc1.rn hrr)) mT_3_167 mT_1_8 mT_3_164 mT_3_165 mT_3_166 okX0_follow ⟨by decide, by decide⟩ rfl (by show kO (K tc) = _; rw [ktc]; rfl) rfl rfl (Nat.le_of_ble_eq_true rfl) ⟨by decide, by decide⟩ dX8_staysIfSteady_37 (aV1 (F := fun st M => P g X 3 40 [(0, .ref a0), (1, .int x1), (2, .int x2)] st _ _ M) (M := (K, len, I1, J, R)) fun I5 h5 => ?_)
  obtain ⟨hs5, hf5, k5_0, k5_1, k5_2, k5_3⟩ := h5
  show P g X 3 40 [(0, .ref a0), (1, .int x1), (2, .int x2)] [] _ _ (K, len, I5, J, R)
  have hF5 : Fr K [(1, 5), (1, 6), (41, 999), (50, 999), (51, 999), (52, 999), (53, 999), (54, 999)] I I5 := hF1.trans hf5 rfl rfl
  have hc5 := hc1.eqT ka htc htl (fun a k _ z1 z2 z3 => k5_3 a k z1 (fun y => z3 0 (by decide) (by rw [y]; exact hsr)) (fun y => z3 1 (by decide) (by rw [y]; exact hir)) (fun y => z3 2 (by decide) (by rw [y]; exact hwr)) (fun y => z3 3 (by decide) (by rw [y]; exact htr)) (fun y => z3 4 (by decide) (by rw [y]; exact hdr)))
  have j0 := k5_0; have j1 := k5_1; have j2 := k5_2
  rw [t4] at j0 j1 j2
  have cot : CO D x1.toInt.toNat (fun j => Lp D (fun _ => x2.toInt) (j + 1)) 1 tc I5 R := ⟨fun s1 s2 s3 s4 g0 g1 g2 g3 => by rw [hsr] at g0; rw [hir] at g1; rw [hwr] at g2; rw [htr] at g3; cases g0; cases g1; cases g2; cases g3; exact j0, j1, j2⟩
  refine r_aload_n hC dX8_staysIfSteady_40 0 rfl ?_
  refine r_getr hC 8 (ci := 8) rfl u8_in (by decide) mT_2_86 dX8_staysIfSteady_41 ka0 rfl rfl htc ?_
  refine r_geti hC 5 (ci := 0) rfl u0_in (by decide) mT_2_36 dX8_staysIfSteady_44 ktc rfl rfl (fun x6_ e6 => ?_)
  have f6 : x6_.toInt = (I5 tc 5).toInt := by rw [e6]
  have q6 : x6_.toInt = GV D x1.toInt.toNat (Ad D x1.toInt.toNat (fun j => Lp D (fun _ => x2.toInt) (j + 1)) 1) 60 := by rw [e6]; exact cot.2.1
  refine r_bipush hC (v := (-2)) dX8_staysIfSteady_47 (by decide) (by decide) (fun x7_ e7 t7 => ?_)
  refine r_icmp_ne hC (tgt := 56) dX8_staysIfSteady_49 (by decide) (fun c8 => ?_) (fun c8 => ?_)
  · refine r_iconst hC (v := (0)) dX8_staysIfSteady_56 (by decide) (by decide) (fun x9_ e9 t9 => ?_)
    exact r_iret hC hQ hlk hr (by rw [e9]; rfl) (by decide) (by decide) dX8_staysIfSteady_57 ⟨_, _, rfl, rfl, ⟨hs5, hF5, (by exact hc5), (by omega)⟩⟩
  · refine r_iconst hC (v := (1)) dX8_staysIfSteady_52 (by decide) (by decide) (fun x10_ e10 t10 => ?_)
    refine r_goto hC (tgt := 57) dX8_staysIfSteady_53 (by decide) ?_
    exact r_iret hC hQ hlk hr (by rw [e10]; rfl) (by decide) (by decide) dX8_staysIfSteady_57 ⟨_, _, rfl, rfl, ⟨hs5, hF5, (by exact hc5), (by omega)⟩⟩
set_option maxHeartbeats 4000000 in
set_option maxRecDepth 100000 in
theorem f_X8_helps (g : GG) (l : Launch) (K len : Nat → Nat) (I : Nat → Nat → Int32) (J : Nat → Nat → Int64) (R : Nat → Nat → Option Nat) (hs : Sf K len I R) (a0 : Nat) (ka0 : K a0 = 9) (x1 : Int32) (x2 : Int32) (h : Nat) (hh : R a0 2 = some h) (kh : K h = 2) (lk : Nat) (hlk2 : R h 0 = some lk) (klk : K lk = 3) (rd : Nat) (hrd : R a0 9 = some rd) (krd : K rd = 4) (lv : Nat) (hlv : R a0 4 = some lv) (klv : K lv = 41) (llv : len lv = 60) (kn : Nat) (hkn : R a0 6 = some kn) (kkn : K kn = 43) (lkn : len kn = 6) (cr : Nat) (hcr : R a0 5 = some cr) (kcr1 : K cr = 44) (lcr : len cr = 6) (hu : UU K R) (D : DD) (E : Nat → Nat → Int) (hc : KC D E a0 h lk rd I R) : Ct g l yX8_helps cX8_helps 3 (Option.some Jvm.ClassFile.FieldType.int) rmX8_helps [.ref a0, .int x1, .int x2] (K, len, I, J, R) (pI1 (K, len, I, J, R) (fun r I' => Sf K len I' R ∧ Fr K [(1, 5), (1, 6), (9, 12), (41, 999), (50, 999), (51, 999), (52, 999), (53, 999), (54, 999)] I I' ∧ (KC D E a0 h lk rd I' R) ∧ ((I' a0 12).toInt ≠ 4))) := by
  refine Ct_intro (by decide +kernel) (Nat.le_of_ble_eq_true rfl) (fun X hC hL hKK hNm hr hlk hQ => ?_)
  subst hL
  have hC : Cx g X cX8_helps "HillTap" 3 rmX8_helps := hC
  show P g X 3 0 [(0, .ref a0), (1, .int x1), (2, .int x2)] [] 0 0 (K, len, I, J, R)
  have hF : Fr K [(1, 5), (1, 6), (9, 12), (41, 999), (50, 999), (51, 999), (52, 999), (53, 999), (54, 999)] I I := Fr.refl
  have ka : KA a0 h lk rd K len R := ⟨⟨_, hs⟩, hu, ka0, kh, klk, krd⟩
  obtain ⟨sd1, sd2, sd3, sd4, sd5, sd7, sd8, sd9⟩ := id hc.2.1
  have d7b := hs.rng kh (k := 6) rfl (x := I h 6) rfl
  have d5b := hs.rng kh (k := 1) rfl (x := I h 1) rfl
  have d8b := hs.rng kh (k := 8) rfl (x := I h 8) rfl
  have b_x1 := ti_rng x1
  have b_x2 := ti_rng x2
  refine r_aload_n hC dX8_helps_0 0 rfl ?_
  refine r_iload_n hC dX8_helps_1 1 rfl ?_
  refine r_callV hC (As := [.int x1]) (rest := []) (ci := 8) (f_X8_isStory g (xL X) K len I J R hs a0 ka0 x1 h hh kh) mT_3_155 mT_1_1 mT_3_152 mT_3_154 mP_24 okX8_isStory ⟨by decide, by decide⟩ rfl (by show kO (K a0) = _; rw [ka0]; rfl) rfl rfl (Nat.le_of_ble_eq_true rfl) ⟨by decide, by decide⟩ dX8_helps_2 (aI0 (F := fun st M => P g X 3 5 [(0, .ref a0), (1, .int x1), (2, .int x2)] st _ _ M) (M := (K, len, I, J, R)) fun x1_ h1 => ?_)
  have k1_0 := h1
  clear h1
  show P g X 3 5 [(0, .ref a0), (1, .int x1), (2, .int x2)] [.int x1_] _ _ (K, len, I, J, R)
  rcases k1_0 with ⟨hr1, hw1⟩ | ⟨hr1, hw1⟩
  · refine r_if_eq hC (tgt := 15) dX8_helps_5 (by decide) (fun c2 => ?_) (fun c2 => ?_)
    · exfalso; omega
    refine r_iload_n hC dX8_helps_8 2 rfl ?_
    refine r_callS hC (As := [.int x2]) (rest := []) (f_X8_isDay g (xL X) K len I J R hs x2) mT_3_134 mT_1_1 mT_3_132 mT_3_133 okX8_isDay ⟨by decide, by decide⟩ rfl rfl (Nat.le_of_ble_eq_true rfl) ⟨by decide, by decide⟩ dX8_helps_9 (aI0 (F := fun st M => P g X 3 12 [(0, .ref a0), (1, .int x1), (2, .int x2)] st _ _ M) (M := (K, len, I, J, R)) fun x3_ h3 => ?_)
    have k3_0 := h3
    clear h3
    show P g X 3 12 [(0, .ref a0), (1, .int x1), (2, .int x2)] [.int x3_] _ _ (K, len, I, J, R)
    rcases k3_0 with ⟨hr3, hw3⟩ | ⟨hr3, hw3⟩
    · refine r_if_ne hC (tgt := 21) dX8_helps_12 (by decide) (fun c4 => ?_) (fun c4 => ?_)
      rotate_left
      · exfalso; omega
      refine r_aload_n hC dX8_helps_21 0 rfl ?_
      refine r_aload_n hC dX8_helps_22 0 rfl ?_
      refine r_iload_n hC dX8_helps_23 1 rfl ?_
      refine r_iload_n hC dX8_helps_24 2 rfl ?_
      refine r_callV hC (As := [.int x1, .int x2]) (rest := [.ref a0]) (ci := 8) (f_X8_staysIfDownFrom g (xL X) K len I J R hs a0 ka0 x1 x2 h hh kh lk hlk2 klk rd hrd krd lv hlv klv llv kn hkn kkn lkn cr hcr kcr1 lcr hu D E hc (by omega) (by omega)) mT_4_74 mT_1_1 mT_4_71 mT_4_73 mP_41 okX8_staysIfDownFrom ⟨by decide, by decide⟩ rfl (by show kO (K a0) = _; rw [ka0]; rfl) rfl rfl (Nat.le_of_ble_eq_true rfl) ⟨by decide, by decide⟩ dX8_helps_25 (aI1 (F := fun st M => P g X 3 28 [(0, .ref a0), (1, .int x1), (2, .int x2)] st _ _ M) (M := (K, len, I, J, R)) fun x5_ I5 h5 => ?_)
      obtain ⟨hs5, hf5, k5_0, k5_1⟩ := h5
      show P g X 3 28 [(0, .ref a0), (1, .int x1), (2, .int x2)] [.int x5_, .ref a0] _ _ (K, len, I5, J, R)
      have hF5 : Fr K [(1, 5), (1, 6), (9, 12), (41, 999), (50, 999), (51, 999), (52, 999), (53, 999), (54, 999)] I I5 := hF.trans hf5 rfl rfl
      rcases k5_1 with ⟨hr5, hw5⟩ | ⟨hr5, hw5⟩
      · refine r_if_eq hC (tgt := 35) dX8_helps_28 (by decide) (fun c6 => ?_) (fun c6 => ?_)
        · exfalso; omega
        refine r_iconst hC (v := (1)) dX8_helps_31 (by decide) (by decide) (fun x7_ e7 t7 => ?_)
        refine r_goto hC (tgt := 36) dX8_helps_32 (by decide) ?_
        refine r_callV hC (As := [.int x7_]) (rest := []) (ci := 8) (c_X8_answer g (xL X) K len I5 J R hs5 a0 ka0 x7_) mT_3_115 mT_1_1 mT_3_112 mT_3_114 mP_21 okX8_answer ⟨by decide, by decide⟩ rfl (by show kO (K a0) = _; rw [ka0]; rfl) rfl rfl (Nat.le_of_ble_eq_true rfl) ⟨by decide, by decide⟩ dX8_helps_36 (aI1 (F := fun st M => P g X 3 39 [(0, .ref a0), (1, .int x1), (2, .int x2)] st _ _ M) (M := (K, len, I5, J, R)) fun x8_ I8 h8 => ?_)
        obtain ⟨hs8, hf8, k8_0, k8_1⟩ := h8
        show P g X 3 39 [(0, .ref a0), (1, .int x1), (2, .int x2)] [.int x8_] _ _ (K, len, I8, J, R)
        have hF8 : Fr K [(1, 5), (1, 6), (9, 12), (41, 999), (50, 999), (51, 999), (52, 999), (53, 999), (54, 999)] I I8 := hF5.trans hf8 rfl rfl
        have hc8 := k5_0.mv ka hf8 rfl
        exact r_iret hC hQ hlk hr rfl (by decide) (by decide) dX8_helps_39 ⟨_, _, rfl, rfl, ⟨hs8, hF8, (by exact hc8), (by omega)⟩⟩
      · refine r_if_eq hC (tgt := 35) dX8_helps_28 (by decide) (fun c9 => ?_) (fun c9 => ?_)
        rotate_left
        · exfalso; omega
        refine r_iconst hC (v := (0)) dX8_helps_35 (by decide) (by decide) (fun x10_ e10 t10 => ?_)
        refine r_callV hC (As := [.int x10_]) (rest := []) (ci := 8) (c_X8_answer g (xL X) K len I5 J R hs5 a0 ka0 x10_) mT_3_115 mT_1_1 mT_3_112 mT_3_114 mP_21 okX8_answer ⟨by decide, by decide⟩ rfl (by show kO (K a0) = _; rw [ka0]; rfl) rfl rfl (Nat.le_of_ble_eq_true rfl) ⟨by decide, by decide⟩ dX8_helps_36 (aI1 (F := fun st M => P g X 3 39 [(0, .ref a0), (1, .int x1), (2, .int x2)] st _ _ M) (M := (K, len, I5, J, R)) fun x11_ I11 h11 => ?_)
        obtain ⟨hs11, hf11, k11_0, k11_1⟩ := h11
        show P g X 3 39 [(0, .ref a0), (1, .int x1), (2, .int x2)] [.int x11_] _ _ (K, len, I11, J, R)
        have hF11 : Fr K [(1, 5), (1, 6), (9, 12), (41, 999), (50, 999), (51, 999), (52, 999), (53, 999), (54, 999)] I I11 := hF5.trans hf11 rfl rfl
        have hc11 := k5_0.mv ka hf11 rfl
        exact r_iret hC hQ hlk hr rfl (by decide) (by decide) dX8_helps_39 ⟨_, _, rfl, rfl, ⟨hs11, hF11, (by exact hc11), (by omega)⟩⟩
    · refine r_if_ne hC (tgt := 21) dX8_helps_12 (by decide) (fun c12 => ?_) (fun c12 => ?_)
      · exfalso; omega
      refine r_aload_n hC dX8_helps_15 0 rfl ?_
      refine r_iconst hC (v := (1)) dX8_helps_16 (by decide) (by decide) (fun x13_ e13 t13 => ?_)
      refine r_callV hC (As := [.int x13_]) (rest := []) (ci := 8) (c_X8_refuse g (xL X) K len I J R hs a0 ka0 x13_) mT_2_133 mT_1_1 mT_2_130 mT_2_132 mP_0 okX8_refuse ⟨by decide, by decide⟩ rfl (by show kO (K a0) = _; rw [ka0]; rfl) rfl rfl (Nat.le_of_ble_eq_true rfl) ⟨by decide, by decide⟩ dX8_helps_17 (aI1 (F := fun st M => P g X 3 20 [(0, .ref a0), (1, .int x1), (2, .int x2)] st _ _ M) (M := (K, len, I, J, R)) fun x14_ I14 h14 => ?_)
      obtain ⟨hs14, hf14, k14_0, k14_1⟩ := h14
      show P g X 3 20 [(0, .ref a0), (1, .int x1), (2, .int x2)] [.int x14_] _ _ (K, len, I14, J, R)
      have hF14 : Fr K [(1, 5), (1, 6), (9, 12), (41, 999), (50, 999), (51, 999), (52, 999), (53, 999), (54, 999)] I I14 := hF.trans hf14 rfl rfl
      have hc14 := hc.mv ka hf14 rfl
      exact r_iret hC hQ hlk hr rfl (by decide) (by decide) dX8_helps_20 ⟨_, _, rfl, rfl, ⟨hs14, hF14, (by exact hc14), (by omega)⟩⟩
  · refine r_if_eq hC (tgt := 15) dX8_helps_5 (by decide) (fun c15 => ?_) (fun c15 => ?_)
    rotate_left
    · exfalso; omega
    refine r_aload_n hC dX8_helps_15 0 rfl ?_
    refine r_iconst hC (v := (1)) dX8_helps_16 (by decide) (by decide) (fun x16_ e16 t16 => ?_)
    refine r_callV hC (As := [.int x16_]) (rest := []) (ci := 8) (c_X8_refuse g (xL X) K len I J R hs a0 ka0 x16_) mT_2_133 mT_1_1 mT_2_130 mT_2_132 mP_0 okX8_refuse ⟨by decide, by decide⟩ rfl (by show kO (K a0) = _; rw [ka0]; rfl) rfl rfl (Nat.le_of_ble_eq_true rfl) ⟨by decide, by decide⟩ dX8_helps_17 (aI1 (F := fun st M => P g X 3 20 [(0, .ref a0), (1, .int x1), (2, .int x2)] st _ _ M) (M := (K, len, I, J, R)) fun x17_ I17 h17 => ?_)
    obtain ⟨hs17, hf17, k17_0, k17_1⟩ := h17
    show P g X 3 20 [(0, .ref a0), (1, .int x1), (2, .int x2)] [.int x17_] _ _ (K, len, I17, J, R)
    have hF17 : Fr K [(1, 5), (1, 6), (9, 12), (41, 999), (50, 999), (51, 999), (52, 999), (53, 999), (54, 999)] I I17 := hF.trans hf17 rfl rfl
    have hc17 := hc.mv ka hf17 rfl
    exact r_iret hC hQ hlk hr rfl (by decide) (by decide) dX8_helps_20 ⟨_, _, rfl, rfl, ⟨hs17, hF17, (by exact hc17), (by omega)⟩⟩
set_option maxHeartbeats 4000000 in
set_option maxRecDepth 100000 in
theorem f_X8_last (g : GG) (l : Launch) (K len : Nat → Nat) (I : Nat → Nat → Int32) (J : Nat → Nat → Int64) (R : Nat → Nat → Option Nat) (hs : Sf K len I R) (a0 : Nat) (ka0 : K a0 = 9) (x1 : Int32) (h : Nat) (hh : R a0 2 = some h) (kh : K h = 2) (lk : Nat) (hlk2 : R h 0 = some lk) (klk : K lk = 3) (rd : Nat) (hrd : R a0 9 = some rd) (krd : K rd = 4) (lv : Nat) (hlv : R a0 4 = some lv) (klv : K lv = 41) (llv : len lv = 60) (kn : Nat) (hkn : R a0 6 = some kn) (kkn : K kn = 43) (lkn : len kn = 6) (cr : Nat) (hcr : R a0 5 = some cr) (kcr1 : K cr = 44) (lcr : len cr = 6) (hu : UU K R) (D : DD) (E : Nat → Nat → Int) (hc : KC D E a0 h lk rd I R) : Ct g l yX8_last cX8_last 6 (Option.some Jvm.ClassFile.FieldType.int) rmX8_last [.ref a0, .int x1] (K, len, I, J, R) (pI1 (K, len, I, J, R) (fun r I' => Sf K len I' R ∧ Fr K [(1, 5), (1, 6), (9, 12), (41, 999), (50, 999), (51, 999), (52, 999), (53, 999), (54, 999)] I I' ∧ (KC D E a0 h lk rd I' R) ∧ ((I' a0 12).toInt ≠ 4))) := by
  refine Ct_intro (by decide +kernel) (Nat.le_of_ble_eq_true rfl) (fun X hC hL hKK hNm hr hlk hQ => ?_)
  subst hL
  have hC : Cx g X cX8_last "HillTap" 6 rmX8_last := hC
  show P g X 6 0 [(0, .ref a0), (1, .int x1)] [] 0 0 (K, len, I, J, R)
  have hF : Fr K [(1, 5), (1, 6), (9, 12), (41, 999), (50, 999), (51, 999), (52, 999), (53, 999), (54, 999)] I I := Fr.refl
  have ka : KA a0 h lk rd K len R := ⟨⟨_, hs⟩, hu, ka0, kh, klk, krd⟩
  obtain ⟨sd1, sd2, sd3, sd4, sd5, sd7, sd8, sd9⟩ := id hc.2.1
  have d7b := hs.rng kh (k := 6) rfl (x := I h 6) rfl
  have d5b := hs.rng kh (k := 1) rfl (x := I h 1) rfl
  have d8b := hs.rng kh (k := 8) rfl (x := I h 8) rfl
  have b_x1 := ti_rng x1
  refine r_aload_n hC dX8_last_0 0 rfl ?_
  refine r_iload_n hC dX8_last_1 1 rfl ?_
  refine r_callV hC (As := [.int x1]) (rest := []) (ci := 8) (f_X8_isStory g (xL X) K len I J R hs a0 ka0 x1 h hh kh) mT_3_155 mT_1_1 mT_3_152 mT_3_154 mP_24 okX8_isStory ⟨by decide, by decide⟩ rfl (by show kO (K a0) = _; rw [ka0]; rfl) rfl rfl (Nat.le_of_ble_eq_true rfl) ⟨by decide, by decide⟩ dX8_last_2 (aI0 (F := fun st M => P g X 6 5 [(0, .ref a0), (1, .int x1)] st _ _ M) (M := (K, len, I, J, R)) fun x1_ h1 => ?_)
  have k1_0 := h1
  clear h1
  show P g X 6 5 [(0, .ref a0), (1, .int x1)] [.int x1_] _ _ (K, len, I, J, R)
  rcases k1_0 with ⟨hr1, hw1⟩ | ⟨hr1, hw1⟩
  · refine r_if_ne hC (tgt := 14) dX8_last_5 (by decide) (fun c2 => ?_) (fun c2 => ?_)
    rotate_left
    · exfalso; omega
    refine r_iconst hC (v := (-1)) dX8_last_14 (by decide) (by decide) (fun x3_ e3 t3 => ?_)
    refine r_istore_n hC (lv' := [(2, .int x3_), (0, .ref a0), (1, .int x1)]) dX8_last_15 (by decide) rfl ?_
    refine r_bipush hC (v := (59)) dX8_last_16 (by decide) (by decide) (fun x4_ e4 t4 => ?_)
    refine r_istore_n hC (lv' := [(3, .int x4_), (2, .int x3_), (0, .ref a0), (1, .int x1)]) dX8_last_18 (by decide) rfl ?_
    refine r_iconst hC (v := (0)) dX8_last_19 (by decide) (by decide) (fun x5_ e5 t5 => ?_)
    refine r_istore hC (lv' := [(4, .int x5_), (3, .int x4_), (2, .int x3_), (0, .ref a0), (1, .int x1)]) dX8_last_20 (by decide) rfl ?_
    have LP6 : ∀ (mu : Nat) (x6_4 : Int32) (x6_3 : Int32) (x6_2 : Int32) (I6 : Nat → Nat → Int32) (hs6 : Sf K len I6 R) (hF6 : Fr K [(1, 5), (1, 6), (9, 12), (41, 999), (50, 999), (51, 999), (52, 999), (53, 999), (54, 999)] I I6) (v6_0 : 0 ≤ x6_4.toInt) (v6_1 : x6_4.toInt ≤ 60) (v6_2 : -1 ≤ x6_2.toInt) (v6_3 : x6_2.toInt ≤ 59) (v6_4 : -1 ≤ x6_3.toInt) (v6_5 : x6_3.toInt ≤ 59) (v6_6 : KC D E a0 h lk rd I6 R), (60 - x6_4.toInt).toNat = mu → P g X 6 22 [(0, .ref a0), (1, .int x1), (2, .int x6_2), (3, .int x6_3), (4, .int x6_4)] [] 0 0 (K, len, I6, J, R) := by
      intro mu; induction mu using Nat.strongRecOn with | ind mu ih => ?_
      intro x6_4 x6_3 x6_2 I6 hs6 hF6 v6_0 v6_1 v6_2 v6_3 v6_4 v6_5 v6_6 hmu
      have ih6 := ih
      clear ih
      have hmu6 := hmu
      clear hmu
      refine r_iload hC dX8_last_22 4 rfl ?_
      refine r_bipush hC (v := (60)) dX8_last_24 (by decide) (by decide) (fun x7_ e7 t7 => ?_)
      refine r_icmp_ge hC (tgt := 70) dX8_last_26 (by decide) (fun c8 => ?_) (fun c8 => ?_)
      · refine r_aload_n hC dX8_last_70 0 rfl ?_
        refine r_iload_n hC dX8_last_71 2 rfl ?_
        refine r_iconst hC (v := (-1)) dX8_last_72 (by decide) (by decide) (fun x9_ e9 t9 => ?_)
        refine r_icmp_ne hC (tgt := 81) dX8_last_73 (by decide) (fun c10 => ?_) (fun c10 => ?_)
        · refine r_iload_n hC dX8_last_81 2 rfl ?_
          refine r_callV hC (As := [.int x6_2]) (rest := []) (ci := 8) (c_X8_answer g (xL X) K len I6 J R hs6 a0 ka0 x6_2) mT_3_115 mT_1_1 mT_3_112 mT_3_114 mP_21 okX8_answer ⟨by decide, by decide⟩ rfl (by show kO (K a0) = _; rw [ka0]; rfl) rfl rfl (Nat.le_of_ble_eq_true rfl) ⟨by decide, by decide⟩ dX8_last_82 (aI1 (F := fun st M => P g X 6 85 [(0, .ref a0), (1, .int x1), (2, .int x6_2), (3, .int x6_3), (4, .int x6_4)] st _ _ M) (M := (K, len, I6, J, R)) fun x11_ I11 h11 => ?_)
          obtain ⟨hs11, hf11, k11_0, k11_1⟩ := h11
          show P g X 6 85 [(0, .ref a0), (1, .int x1), (2, .int x6_2), (3, .int x6_3), (4, .int x6_4)] [.int x11_] _ _ (K, len, I11, J, R)
          have hF11 : Fr K [(1, 5), (1, 6), (9, 12), (41, 999), (50, 999), (51, 999), (52, 999), (53, 999), (54, 999)] I I11 := hF6.trans hf11 rfl rfl
          have hc11 := v6_6.mv ka hf11 rfl
          exact r_iret hC hQ hlk hr rfl (by decide) (by decide) dX8_last_85 ⟨_, _, rfl, rfl, ⟨hs11, hF11, (by exact hc11), (by omega)⟩⟩
        · refine r_bipush hC (v := (-2)) dX8_last_76 (by decide) (by decide) (fun x12_ e12 t12 => ?_)
          refine r_goto hC (tgt := 82) dX8_last_78 (by decide) ?_
          refine r_callV hC (As := [.int x12_]) (rest := []) (ci := 8) (c_X8_answer g (xL X) K len I6 J R hs6 a0 ka0 x12_) mT_3_115 mT_1_1 mT_3_112 mT_3_114 mP_21 okX8_answer ⟨by decide, by decide⟩ rfl (by show kO (K a0) = _; rw [ka0]; rfl) rfl rfl (Nat.le_of_ble_eq_true rfl) ⟨by decide, by decide⟩ dX8_last_82 (aI1 (F := fun st M => P g X 6 85 [(0, .ref a0), (1, .int x1), (2, .int x6_2), (3, .int x6_3), (4, .int x6_4)] st _ _ M) (M := (K, len, I6, J, R)) fun x13_ I13 h13 => ?_)
          obtain ⟨hs13, hf13, k13_0, k13_1⟩ := h13
          show P g X 6 85 [(0, .ref a0), (1, .int x1), (2, .int x6_2), (3, .int x6_3), (4, .int x6_4)] [.int x13_] _ _ (K, len, I13, J, R)
          have hF13 : Fr K [(1, 5), (1, 6), (9, 12), (41, 999), (50, 999), (51, 999), (52, 999), (53, 999), (54, 999)] I I13 := hF6.trans hf13 rfl rfl
          have hc13 := v6_6.mv ka hf13 rfl
          exact r_iret hC hQ hlk hr rfl (by decide) (by decide) dX8_last_85 ⟨_, _, rfl, rfl, ⟨hs13, hF13, (by exact hc13), (by omega)⟩⟩
      · refine r_iload_n hC dX8_last_29 2 rfl ?_
        refine r_iload_n hC dX8_last_30 3 rfl ?_
        refine r_icmp_ge hC (tgt := 70) dX8_last_31 (by decide) (fun c14 => ?_) (fun c14 => ?_)
        · refine r_aload_n hC dX8_last_70 0 rfl ?_
          refine r_iload_n hC dX8_last_71 2 rfl ?_
          refine r_iconst hC (v := (-1)) dX8_last_72 (by decide) (by decide) (fun x15_ e15 t15 => ?_)
          refine r_icmp_ne hC (tgt := 81) dX8_last_73 (by decide) (fun c16 => ?_) (fun c16 => ?_)
          · refine r_iload_n hC dX8_last_81 2 rfl ?_
            refine r_callV hC (As := [.int x6_2]) (rest := []) (ci := 8) (c_X8_answer g (xL X) K len I6 J R hs6 a0 ka0 x6_2) mT_3_115 mT_1_1 mT_3_112 mT_3_114 mP_21 okX8_answer ⟨by decide, by decide⟩ rfl (by show kO (K a0) = _; rw [ka0]; rfl) rfl rfl (Nat.le_of_ble_eq_true rfl) ⟨by decide, by decide⟩ dX8_last_82 (aI1 (F := fun st M => P g X 6 85 [(0, .ref a0), (1, .int x1), (2, .int x6_2), (3, .int x6_3), (4, .int x6_4)] st _ _ M) (M := (K, len, I6, J, R)) fun x17_ I17 h17 => ?_)
            obtain ⟨hs17, hf17, k17_0, k17_1⟩ := h17
            show P g X 6 85 [(0, .ref a0), (1, .int x1), (2, .int x6_2), (3, .int x6_3), (4, .int x6_4)] [.int x17_] _ _ (K, len, I17, J, R)
            have hF17 : Fr K [(1, 5), (1, 6), (9, 12), (41, 999), (50, 999), (51, 999), (52, 999), (53, 999), (54, 999)] I I17 := hF6.trans hf17 rfl rfl
            have hc17 := v6_6.mv ka hf17 rfl
            exact r_iret hC hQ hlk hr rfl (by decide) (by decide) dX8_last_85 ⟨_, _, rfl, rfl, ⟨hs17, hF17, (by exact hc17), (by omega)⟩⟩
          · refine r_bipush hC (v := (-2)) dX8_last_76 (by decide) (by decide) (fun x18_ e18 t18 => ?_)
            refine r_goto hC (tgt := 82) dX8_last_78 (by decide) ?_
            refine r_callV hC (As := [.int x18_]) (rest := []) (ci := 8) (c_X8_answer g (xL X) K len I6 J R hs6 a0 ka0 x18_) mT_3_115 mT_1_1 mT_3_112 mT_3_114 mP_21 okX8_answer ⟨by decide, by decide⟩ rfl (by show kO (K a0) = _; rw [ka0]; rfl) rfl rfl (Nat.le_of_ble_eq_true rfl) ⟨by decide, by decide⟩ dX8_last_82 (aI1 (F := fun st M => P g X 6 85 [(0, .ref a0), (1, .int x1), (2, .int x6_2), (3, .int x6_3), (4, .int x6_4)] st _ _ M) (M := (K, len, I6, J, R)) fun x19_ I19 h19 => ?_)
            obtain ⟨hs19, hf19, k19_0, k19_1⟩ := h19
            show P g X 6 85 [(0, .ref a0), (1, .int x1), (2, .int x6_2), (3, .int x6_3), (4, .int x6_4)] [.int x19_] _ _ (K, len, I19, J, R)
            have hF19 : Fr K [(1, 5), (1, 6), (9, 12), (41, 999), (50, 999), (51, 999), (52, 999), (53, 999), (54, 999)] I I19 := hF6.trans hf19 rfl rfl
            have hc19 := v6_6.mv ka hf19 rfl
            exact r_iret hC hQ hlk hr rfl (by decide) (by decide) dX8_last_85 ⟨_, _, rfl, rfl, ⟨hs19, hF19, (by exact hc19), (by omega)⟩⟩
        · refine r_iload_n hC dX8_last_34 2 rfl ?_
          refine r_iload_n hC dX8_last_35 3 rfl ?_
          refine r_iadd hC dX8_last_36 (fun x20_ e20 => ?_)
          try have t20 : x20_.toInt = x6_2.toInt + x6_3.toInt := by rw [e20]; exact ti_add (by omega) (by omega)
          refine r_iconst hC (v := (1)) dX8_last_37 (by decide) (by decide) (fun x21_ e21 t21 => ?_)
          refine r_iadd hC dX8_last_38 (fun x22_ e22 => ?_)
          try have t22 : x22_.toInt = x20_.toInt + x21_.toInt := by rw [e22]; exact ti_add (by omega) (by omega)
          refine r_iconst hC (v := (2)) dX8_last_39 (by decide) (by decide) (fun x23_ e23 t23 => ?_)
          refine r_idiv hC dX8_last_40 (ne_0 (by omega)) (fun x24_ e24 => ?_)
          have td24 : x24_.toInt = x22_.toInt / 2 := by rw [e24, ti_div (by omega) (by omega), show x23_.toInt = 2 by omega]
          refine r_istore hC (lv' := [(5, .int x24_), (0, .ref a0), (1, .int x1), (2, .int x6_2), (3, .int x6_3), (4, .int x6_4)]) dX8_last_41 (by decide) rfl ?_
          refine r_aload_n hC dX8_last_43 1 rfl ?_
          refine r_iload_n hC dX8_last_44 2 rfl ?_
          refine r_iload hC dX8_last_45 0 rfl ?_
          refine r_callV hC (As := [.int x1, .int x24_]) (rest := []) (ci := 8) (f_X8_staysIfDownFrom g (xL X) K len I6 J R hs6 a0 ka0 x1 x24_ h hh kh lk hlk2 klk rd hrd krd lv hlv klv llv kn hkn kkn lkn cr hcr kcr1 lcr hu D E v6_6 (by omega) (by omega)) mT_4_74 mT_1_1 mT_4_71 mT_4_73 mP_41 okX8_staysIfDownFrom ⟨by decide, by decide⟩ rfl (by show kO (K a0) = _; rw [ka0]; rfl) rfl rfl (Nat.le_of_ble_eq_true rfl) ⟨by decide, by decide⟩ dX8_last_47 (aI1 (F := fun st M => P g X 6 50 [(5, .int x24_), (0, .ref a0), (1, .int x1), (2, .int x6_2), (3, .int x6_3), (4, .int x6_4)] st _ _ M) (M := (K, len, I6, J, R)) fun x25_ I25 h25 => ?_)
          obtain ⟨hs25, hf25, k25_0, k25_1⟩ := h25
          show P g X 6 50 [(5, .int x24_), (0, .ref a0), (1, .int x1), (2, .int x6_2), (3, .int x6_3), (4, .int x6_4)] [.int x25_] _ _ (K, len, I25, J, R)
          have hF25 : Fr K [(1, 5), (1, 6), (9, 12), (41, 999), (50, 999), (51, 999), (52, 999), (53, 999), (54, 999)] I I25 := hF6.trans hf25 rfl rfl
          rcases k25_1 with ⟨hr25, hw25⟩ | ⟨hr25, hw25⟩
          · refine r_if_eq hC (tgt := 59) dX8_last_50 (by decide) (fun c26 => ?_) (fun c26 => ?_)
            · exfalso; omega
            refine r_iload hC dX8_last_53 0 rfl ?_
            refine r_istore_n hC (lv' := [(2, .int x24_), (5, .int x24_), (0, .ref a0), (1, .int x1), (3, .int x6_3), (4, .int x6_4)]) dX8_last_55 (by decide) rfl ?_
            refine r_goto hC (tgt := 64) dX8_last_56 (by decide) ?_
            obtain ⟨x27_, e27⟩ : ∃ z : Int32, z = x6_4 + Int32.ofInt (1) := ⟨_, rfl⟩
            refine r_iinc hC (j := 5) (v := x27_) (lv' := [(4, .int x27_), (2, .int x24_), (5, .int x24_), (0, .ref a0), (1, .int x1), (3, .int x6_3)]) dX8_last_64 rfl (by rw [e27]) (by decide) rfl ?_
            try have t27 : x27_.toInt = x6_4.toInt + (1) := by rw [e27]; exact (ti_add (b := Int32.ofInt (1)) (by show _ ≤ _ + (1 : Int); omega) (by show _ + (1 : Int) ≤ _; omega))
            refine r_goto hC (tgt := 22) dX8_last_67 (by decide) ?_
            refine r_sub [3, 4, 1, 5, 0] rfl ?_
            exact ih6 ((60 - x27_.toInt).toNat) (by omega) x27_ x6_3 x24_ I25 hs25 hF25 (by omega) (by omega) (by omega) (by omega) (by omega) (by omega) (by exact k25_0) rfl
          · refine r_if_eq hC (tgt := 59) dX8_last_50 (by decide) (fun c28 => ?_) (fun c28 => ?_)
            rotate_left
            · exfalso; omega
            refine r_iload hC dX8_last_59 0 rfl ?_
            refine r_iconst hC (v := (1)) dX8_last_61 (by decide) (by decide) (fun x29_ e29 t29 => ?_)
            refine r_isub hC dX8_last_62 (fun x30_ e30 => ?_)
            try have t30 : x30_.toInt = x24_.toInt - x29_.toInt := by rw [e30]; exact ti_sub (by omega) (by omega)
            refine r_istore_n hC (lv' := [(3, .int x30_), (5, .int x24_), (0, .ref a0), (1, .int x1), (2, .int x6_2), (4, .int x6_4)]) dX8_last_63 (by decide) rfl ?_
            obtain ⟨x31_, e31⟩ : ∃ z : Int32, z = x6_4 + Int32.ofInt (1) := ⟨_, rfl⟩
            refine r_iinc hC (j := 5) (v := x31_) (lv' := [(4, .int x31_), (3, .int x30_), (5, .int x24_), (0, .ref a0), (1, .int x1), (2, .int x6_2)]) dX8_last_64 rfl (by rw [e31]) (by decide) rfl ?_
            try have t31 : x31_.toInt = x6_4.toInt + (1) := by rw [e31]; exact (ti_add (b := Int32.ofInt (1)) (by show _ ≤ _ + (1 : Int); omega) (by show _ + (1 : Int) ≤ _; omega))
            refine r_goto hC (tgt := 22) dX8_last_67 (by decide) ?_
            refine r_sub [3, 4, 5, 1, 0] rfl ?_
            exact ih6 ((60 - x31_.toInt).toNat) (by omega) x31_ x30_ x6_2 I25 hs25 hF25 (by omega) (by omega) (by omega) (by omega) (by omega) (by omega) (by exact k25_0) rfl
    refine r_sub [3, 4, 2, 1, 0] rfl ?_
    exact LP6 _ x5_ x4_ x3_ I hs hF (by omega) (by omega) (by omega) (by omega) (by omega) (by omega) (by exact hc) rfl
  · refine r_if_ne hC (tgt := 14) dX8_last_5 (by decide) (fun c32 => ?_) (fun c32 => ?_)
    · exfalso; omega
    refine r_aload_n hC dX8_last_8 0 rfl ?_
    refine r_iconst hC (v := (1)) dX8_last_9 (by decide) (by decide) (fun x33_ e33 t33 => ?_)
    refine r_callV hC (As := [.int x33_]) (rest := []) (ci := 8) (c_X8_refuse g (xL X) K len I J R hs a0 ka0 x33_) mT_2_133 mT_1_1 mT_2_130 mT_2_132 mP_0 okX8_refuse ⟨by decide, by decide⟩ rfl (by show kO (K a0) = _; rw [ka0]; rfl) rfl rfl (Nat.le_of_ble_eq_true rfl) ⟨by decide, by decide⟩ dX8_last_10 (aI1 (F := fun st M => P g X 6 13 [(0, .ref a0), (1, .int x1)] st _ _ M) (M := (K, len, I, J, R)) fun x34_ I34 h34 => ?_)
    obtain ⟨hs34, hf34, k34_0, k34_1⟩ := h34
    show P g X 6 13 [(0, .ref a0), (1, .int x1)] [.int x34_] _ _ (K, len, I34, J, R)
    have hF34 : Fr K [(1, 5), (1, 6), (9, 12), (41, 999), (50, 999), (51, 999), (52, 999), (53, 999), (54, 999)] I I34 := hF.trans hf34 rfl rfl
    have hc34 := hc.mv ka hf34 rfl
    exact r_iret hC hQ hlk hr rfl (by decide) (by decide) dX8_last_13 ⟨_, _, rfl, rfl, ⟨hs34, hF34, (by exact hc34), (by omega)⟩⟩
set_option maxHeartbeats 4000000 in
set_option maxRecDepth 100000 in
theorem f_X8_safe (g : GG) (l : Launch) (K len : Nat → Nat) (I : Nat → Nat → Int32) (J : Nat → Nat → Int64) (R : Nat → Nat → Option Nat) (hs : Sf K len I R) (a0 : Nat) (ka0 : K a0 = 9) (x1 : Int32) (h : Nat) (hh : R a0 2 = some h) (kh : K h = 2) (lk : Nat) (hlk2 : R h 0 = some lk) (klk : K lk = 3) (rd : Nat) (hrd : R a0 9 = some rd) (krd : K rd = 4) (lv : Nat) (hlv : R a0 4 = some lv) (klv : K lv = 41) (llv : len lv = 60) (kn : Nat) (hkn : R a0 6 = some kn) (kkn : K kn = 43) (lkn : len kn = 6) (cr : Nat) (hcr : R a0 5 = some cr) (kcr1 : K cr = 44) (lcr : len cr = 6) (hu : UU K R) (D : DD) (E : Nat → Nat → Int) (hc : KC D E a0 h lk rd I R) : Ct g l yX8_safe cX8_safe 6 (Option.some Jvm.ClassFile.FieldType.int) rmX8_safe [.ref a0, .int x1] (K, len, I, J, R) (pI1 (K, len, I, J, R) (fun r I' => Sf K len I' R ∧ Fr K [(1, 5), (1, 6), (9, 12), (41, 999), (50, 999), (51, 999), (52, 999), (53, 999), (54, 999)] I I' ∧ (KC D E a0 h lk rd I' R) ∧ ((I' a0 12).toInt ≠ 4))) := by
  refine Ct_intro (by decide +kernel) (Nat.le_of_ble_eq_true rfl) (fun X hC hL hKK hNm hr hlk hQ => ?_)
  subst hL
  have hC : Cx g X cX8_safe "HillTap" 6 rmX8_safe := hC
  show P g X 6 0 [(0, .ref a0), (1, .int x1)] [] 0 0 (K, len, I, J, R)
  have hF : Fr K [(1, 5), (1, 6), (9, 12), (41, 999), (50, 999), (51, 999), (52, 999), (53, 999), (54, 999)] I I := Fr.refl
  have ka : KA a0 h lk rd K len R := ⟨⟨_, hs⟩, hu, ka0, kh, klk, krd⟩
  obtain ⟨sd1, sd2, sd3, sd4, sd5, sd7, sd8, sd9⟩ := id hc.2.1
  have d7b := hs.rng kh (k := 6) rfl (x := I h 6) rfl
  have d5b := hs.rng kh (k := 1) rfl (x := I h 1) rfl
  have d8b := hs.rng kh (k := 8) rfl (x := I h 8) rfl
  have b_x1 := ti_rng x1
  refine r_aload_n hC dX8_safe_0 0 rfl ?_
  refine r_iload_n hC dX8_safe_1 1 rfl ?_
  refine r_callV hC (As := [.int x1]) (rest := []) (ci := 8) (f_X8_isStory g (xL X) K len I J R hs a0 ka0 x1 h hh kh) mT_3_155 mT_1_1 mT_3_152 mT_3_154 mP_24 okX8_isStory ⟨by decide, by decide⟩ rfl (by show kO (K a0) = _; rw [ka0]; rfl) rfl rfl (Nat.le_of_ble_eq_true rfl) ⟨by decide, by decide⟩ dX8_safe_2 (aI0 (F := fun st M => P g X 6 5 [(0, .ref a0), (1, .int x1)] st _ _ M) (M := (K, len, I, J, R)) fun x1_ h1 => ?_)
  have k1_0 := h1
  clear h1
  show P g X 6 5 [(0, .ref a0), (1, .int x1)] [.int x1_] _ _ (K, len, I, J, R)
  rcases k1_0 with ⟨hr1, hw1⟩ | ⟨hr1, hw1⟩
  · refine r_if_ne hC (tgt := 14) dX8_safe_5 (by decide) (fun c2 => ?_) (fun c2 => ?_)
    rotate_left
    · exfalso; omega
    refine r_iconst hC (v := (-1)) dX8_safe_14 (by decide) (by decide) (fun x3_ e3 t3 => ?_)
    refine r_istore_n hC (lv' := [(2, .int x3_), (0, .ref a0), (1, .int x1)]) dX8_safe_15 (by decide) rfl ?_
    refine r_aload_n hC dX8_safe_16 1 rfl ?_
    refine r_getr hC 2 (ci := 8) rfl u8_in (by decide) mT_2_80 dX8_safe_17 ka0 rfl rfl hh ?_
    refine r_getr hC 0 (ci := 1) rfl u1_in (by decide) mT_1_182 dX8_safe_20 kh rfl rfl hlk2 ?_
    refine r_geti hC 3 (ci := 2) rfl u2_in (by decide) mT_1_127 dX8_safe_23 klk rfl rfl (fun x4_ e4 => ?_)
    have f4 : x4_.toInt = (I lk 3).toInt := by rw [e4]
    have sc4 : x4_.toInt = D 0 3 := by rw [e4]; exact hc.2.1.2.2.1
    refine r_istore_n hC (lv' := [(3, .int x4_), (2, .int x3_), (0, .ref a0), (1, .int x1)]) dX8_safe_26 (by decide) rfl ?_
    obtain ⟨hJ, h6, -⟩ := hc.2.2.1 (by omega)
    have d3b := hJ.2.2.2.2.1
    refine r_iconst hC (v := (0)) dX8_safe_27 (by decide) (by decide) (fun x5_ e5 t5 => ?_)
    refine r_istore hC (lv' := [(4, .int x5_), (3, .int x4_), (2, .int x3_), (0, .ref a0), (1, .int x1)]) dX8_safe_28 (by decide) rfl ?_
    have LP6 : ∀ (mu : Nat) (x6_4 : Int32) (x6_3 : Int32) (x6_2 : Int32) (I6 : Nat → Nat → Int32) (hs6 : Sf K len I6 R) (hF6 : Fr K [(1, 5), (1, 6), (9, 12), (41, 999), (50, 999), (51, 999), (52, 999), (53, 999), (54, 999)] I I6) (v6_0 : 0 ≤ x6_4.toInt) (v6_1 : x6_4.toInt ≤ 1000) (v6_2 : -1 ≤ x6_2.toInt) (v6_3 : x6_2.toInt ≤ 999) (v6_4 : -1 ≤ x6_3.toInt) (v6_5 : x6_3.toInt ≤ 999) (v6_6 : KC D E a0 h lk rd I6 R), (1000 - x6_4.toInt).toNat = mu → P g X 6 30 [(0, .ref a0), (1, .int x1), (2, .int x6_2), (3, .int x6_3), (4, .int x6_4)] [] 0 0 (K, len, I6, J, R) := by
      intro mu; induction mu using Nat.strongRecOn with | ind mu ih => ?_
      intro x6_4 x6_3 x6_2 I6 hs6 hF6 v6_0 v6_1 v6_2 v6_3 v6_4 v6_5 v6_6 hmu
      have ih6 := ih
      clear ih
      have hmu6 := hmu
      clear hmu
      refine r_iload hC dX8_safe_30 4 rfl ?_
      refine r_sipush hC (v := (1000)) dX8_safe_32 (by decide) (by decide) (fun x7_ e7 t7 => ?_)
      refine r_icmp_ge hC (tgt := 79) dX8_safe_35 (by decide) (fun c8 => ?_) (fun c8 => ?_)
      · refine r_aload_n hC dX8_safe_79 0 rfl ?_
        refine r_iload_n hC dX8_safe_80 2 rfl ?_
        refine r_iconst hC (v := (-1)) dX8_safe_81 (by decide) (by decide) (fun x9_ e9 t9 => ?_)
        refine r_icmp_ne hC (tgt := 90) dX8_safe_82 (by decide) (fun c10 => ?_) (fun c10 => ?_)
        · refine r_iload_n hC dX8_safe_90 2 rfl ?_
          refine r_callV hC (As := [.int x6_2]) (rest := []) (ci := 8) (c_X8_answer g (xL X) K len I6 J R hs6 a0 ka0 x6_2) mT_3_115 mT_1_1 mT_3_112 mT_3_114 mP_21 okX8_answer ⟨by decide, by decide⟩ rfl (by show kO (K a0) = _; rw [ka0]; rfl) rfl rfl (Nat.le_of_ble_eq_true rfl) ⟨by decide, by decide⟩ dX8_safe_91 (aI1 (F := fun st M => P g X 6 94 [(0, .ref a0), (1, .int x1), (2, .int x6_2), (3, .int x6_3), (4, .int x6_4)] st _ _ M) (M := (K, len, I6, J, R)) fun x11_ I11 h11 => ?_)
          obtain ⟨hs11, hf11, k11_0, k11_1⟩ := h11
          show P g X 6 94 [(0, .ref a0), (1, .int x1), (2, .int x6_2), (3, .int x6_3), (4, .int x6_4)] [.int x11_] _ _ (K, len, I11, J, R)
          have hF11 : Fr K [(1, 5), (1, 6), (9, 12), (41, 999), (50, 999), (51, 999), (52, 999), (53, 999), (54, 999)] I I11 := hF6.trans hf11 rfl rfl
          have hc11 := v6_6.mv ka hf11 rfl
          exact r_iret hC hQ hlk hr rfl (by decide) (by decide) dX8_safe_94 ⟨_, _, rfl, rfl, ⟨hs11, hF11, (by exact hc11), (by omega)⟩⟩
        · refine r_bipush hC (v := (-2)) dX8_safe_85 (by decide) (by decide) (fun x12_ e12 t12 => ?_)
          refine r_goto hC (tgt := 91) dX8_safe_87 (by decide) ?_
          refine r_callV hC (As := [.int x12_]) (rest := []) (ci := 8) (c_X8_answer g (xL X) K len I6 J R hs6 a0 ka0 x12_) mT_3_115 mT_1_1 mT_3_112 mT_3_114 mP_21 okX8_answer ⟨by decide, by decide⟩ rfl (by show kO (K a0) = _; rw [ka0]; rfl) rfl rfl (Nat.le_of_ble_eq_true rfl) ⟨by decide, by decide⟩ dX8_safe_91 (aI1 (F := fun st M => P g X 6 94 [(0, .ref a0), (1, .int x1), (2, .int x6_2), (3, .int x6_3), (4, .int x6_4)] st _ _ M) (M := (K, len, I6, J, R)) fun x13_ I13 h13 => ?_)
          obtain ⟨hs13, hf13, k13_0, k13_1⟩ := h13
          show P g X 6 94 [(0, .ref a0), (1, .int x1), (2, .int x6_2), (3, .int x6_3), (4, .int x6_4)] [.int x13_] _ _ (K, len, I13, J, R)
          have hF13 : Fr K [(1, 5), (1, 6), (9, 12), (41, 999), (50, 999), (51, 999), (52, 999), (53, 999), (54, 999)] I I13 := hF6.trans hf13 rfl rfl
          have hc13 := v6_6.mv ka hf13 rfl
          exact r_iret hC hQ hlk hr rfl (by decide) (by decide) dX8_safe_94 ⟨_, _, rfl, rfl, ⟨hs13, hF13, (by exact hc13), (by omega)⟩⟩
      · refine r_iload_n hC dX8_safe_38 2 rfl ?_
        refine r_iload_n hC dX8_safe_39 3 rfl ?_
        refine r_icmp_ge hC (tgt := 79) dX8_safe_40 (by decide) (fun c14 => ?_) (fun c14 => ?_)
        · refine r_aload_n hC dX8_safe_79 0 rfl ?_
          refine r_iload_n hC dX8_safe_80 2 rfl ?_
          refine r_iconst hC (v := (-1)) dX8_safe_81 (by decide) (by decide) (fun x15_ e15 t15 => ?_)
          refine r_icmp_ne hC (tgt := 90) dX8_safe_82 (by decide) (fun c16 => ?_) (fun c16 => ?_)
          · refine r_iload_n hC dX8_safe_90 2 rfl ?_
            refine r_callV hC (As := [.int x6_2]) (rest := []) (ci := 8) (c_X8_answer g (xL X) K len I6 J R hs6 a0 ka0 x6_2) mT_3_115 mT_1_1 mT_3_112 mT_3_114 mP_21 okX8_answer ⟨by decide, by decide⟩ rfl (by show kO (K a0) = _; rw [ka0]; rfl) rfl rfl (Nat.le_of_ble_eq_true rfl) ⟨by decide, by decide⟩ dX8_safe_91 (aI1 (F := fun st M => P g X 6 94 [(0, .ref a0), (1, .int x1), (2, .int x6_2), (3, .int x6_3), (4, .int x6_4)] st _ _ M) (M := (K, len, I6, J, R)) fun x17_ I17 h17 => ?_)
            obtain ⟨hs17, hf17, k17_0, k17_1⟩ := h17
            show P g X 6 94 [(0, .ref a0), (1, .int x1), (2, .int x6_2), (3, .int x6_3), (4, .int x6_4)] [.int x17_] _ _ (K, len, I17, J, R)
            have hF17 : Fr K [(1, 5), (1, 6), (9, 12), (41, 999), (50, 999), (51, 999), (52, 999), (53, 999), (54, 999)] I I17 := hF6.trans hf17 rfl rfl
            have hc17 := v6_6.mv ka hf17 rfl
            exact r_iret hC hQ hlk hr rfl (by decide) (by decide) dX8_safe_94 ⟨_, _, rfl, rfl, ⟨hs17, hF17, (by exact hc17), (by omega)⟩⟩
          · refine r_bipush hC (v := (-2)) dX8_safe_85 (by decide) (by decide) (fun x18_ e18 t18 => ?_)
            refine r_goto hC (tgt := 91) dX8_safe_87 (by decide) ?_
            refine r_callV hC (As := [.int x18_]) (rest := []) (ci := 8) (c_X8_answer g (xL X) K len I6 J R hs6 a0 ka0 x18_) mT_3_115 mT_1_1 mT_3_112 mT_3_114 mP_21 okX8_answer ⟨by decide, by decide⟩ rfl (by show kO (K a0) = _; rw [ka0]; rfl) rfl rfl (Nat.le_of_ble_eq_true rfl) ⟨by decide, by decide⟩ dX8_safe_91 (aI1 (F := fun st M => P g X 6 94 [(0, .ref a0), (1, .int x1), (2, .int x6_2), (3, .int x6_3), (4, .int x6_4)] st _ _ M) (M := (K, len, I6, J, R)) fun x19_ I19 h19 => ?_)
            obtain ⟨hs19, hf19, k19_0, k19_1⟩ := h19
            show P g X 6 94 [(0, .ref a0), (1, .int x1), (2, .int x6_2), (3, .int x6_3), (4, .int x6_4)] [.int x19_] _ _ (K, len, I19, J, R)
            have hF19 : Fr K [(1, 5), (1, 6), (9, 12), (41, 999), (50, 999), (51, 999), (52, 999), (53, 999), (54, 999)] I I19 := hF6.trans hf19 rfl rfl
            have hc19 := v6_6.mv ka hf19 rfl
            exact r_iret hC hQ hlk hr rfl (by decide) (by decide) dX8_safe_94 ⟨_, _, rfl, rfl, ⟨hs19, hF19, (by exact hc19), (by omega)⟩⟩
        · refine r_iload_n hC dX8_safe_43 2 rfl ?_
          refine r_iload_n hC dX8_safe_44 3 rfl ?_
          refine r_iadd hC dX8_safe_45 (fun x20_ e20 => ?_)
          try have t20 : x20_.toInt = x6_2.toInt + x6_3.toInt := by rw [e20]; exact ti_add (by omega) (by omega)
          refine r_iconst hC (v := (1)) dX8_safe_46 (by decide) (by decide) (fun x21_ e21 t21 => ?_)
          refine r_iadd hC dX8_safe_47 (fun x22_ e22 => ?_)
          try have t22 : x22_.toInt = x20_.toInt + x21_.toInt := by rw [e22]; exact ti_add (by omega) (by omega)
          refine r_iconst hC (v := (2)) dX8_safe_48 (by decide) (by decide) (fun x23_ e23 t23 => ?_)
          refine r_idiv hC dX8_safe_49 (ne_0 (by omega)) (fun x24_ e24 => ?_)
          have td24 : x24_.toInt = x22_.toInt / 2 := by rw [e24, ti_div (by omega) (by omega), show x23_.toInt = 2 by omega]
          refine r_istore hC (lv' := [(5, .int x24_), (0, .ref a0), (1, .int x1), (2, .int x6_2), (3, .int x6_3), (4, .int x6_4)]) dX8_safe_50 (by decide) rfl ?_
          refine r_aload_n hC dX8_safe_52 1 rfl ?_
          refine r_iload_n hC dX8_safe_53 2 rfl ?_
          refine r_iload hC dX8_safe_54 0 rfl ?_
          refine r_callV hC (As := [.int x1, .int x24_]) (rest := []) (ci := 8) (f_X8_staysIfSteady g (xL X) K len I6 J R hs6 a0 ka0 x1 x24_ h hh kh lk hlk2 klk rd hrd krd lv hlv klv llv kn hkn kkn lkn cr hcr kcr1 lcr hu D E v6_6 (by omega) (by omega) (by omega)) mT_4_86 mT_1_1 mT_4_83 mT_4_85 mP_42 okX8_staysIfSteady ⟨by decide, by decide⟩ rfl (by show kO (K a0) = _; rw [ka0]; rfl) rfl rfl (Nat.le_of_ble_eq_true rfl) ⟨by decide, by decide⟩ dX8_safe_56 (aI1 (F := fun st M => P g X 6 59 [(5, .int x24_), (0, .ref a0), (1, .int x1), (2, .int x6_2), (3, .int x6_3), (4, .int x6_4)] st _ _ M) (M := (K, len, I6, J, R)) fun x25_ I25 h25 => ?_)
          obtain ⟨hs25, hf25, k25_0, k25_1⟩ := h25
          show P g X 6 59 [(5, .int x24_), (0, .ref a0), (1, .int x1), (2, .int x6_2), (3, .int x6_3), (4, .int x6_4)] [.int x25_] _ _ (K, len, I25, J, R)
          have hF25 : Fr K [(1, 5), (1, 6), (9, 12), (41, 999), (50, 999), (51, 999), (52, 999), (53, 999), (54, 999)] I I25 := hF6.trans hf25 rfl rfl
          rcases k25_1 with ⟨hr25, hw25⟩ | ⟨hr25, hw25⟩
          · refine r_if_eq hC (tgt := 68) dX8_safe_59 (by decide) (fun c26 => ?_) (fun c26 => ?_)
            · exfalso; omega
            refine r_iload hC dX8_safe_62 0 rfl ?_
            refine r_istore_n hC (lv' := [(2, .int x24_), (5, .int x24_), (0, .ref a0), (1, .int x1), (3, .int x6_3), (4, .int x6_4)]) dX8_safe_64 (by decide) rfl ?_
            refine r_goto hC (tgt := 73) dX8_safe_65 (by decide) ?_
            obtain ⟨x27_, e27⟩ : ∃ z : Int32, z = x6_4 + Int32.ofInt (1) := ⟨_, rfl⟩
            refine r_iinc hC (j := 5) (v := x27_) (lv' := [(4, .int x27_), (2, .int x24_), (5, .int x24_), (0, .ref a0), (1, .int x1), (3, .int x6_3)]) dX8_safe_73 rfl (by rw [e27]) (by decide) rfl ?_
            try have t27 : x27_.toInt = x6_4.toInt + (1) := by rw [e27]; exact (ti_add (b := Int32.ofInt (1)) (by show _ ≤ _ + (1 : Int); omega) (by show _ + (1 : Int) ≤ _; omega))
            refine r_goto hC (tgt := 30) dX8_safe_76 (by decide) ?_
            refine r_sub [3, 4, 1, 5, 0] rfl ?_
            exact ih6 ((1000 - x27_.toInt).toNat) (by omega) x27_ x6_3 x24_ I25 hs25 hF25 (by omega) (by omega) (by omega) (by omega) (by omega) (by omega) (by exact k25_0) rfl
          · refine r_if_eq hC (tgt := 68) dX8_safe_59 (by decide) (fun c28 => ?_) (fun c28 => ?_)
            rotate_left
            · exfalso; omega
            refine r_iload hC dX8_safe_68 0 rfl ?_
            refine r_iconst hC (v := (1)) dX8_safe_70 (by decide) (by decide) (fun x29_ e29 t29 => ?_)
            refine r_isub hC dX8_safe_71 (fun x30_ e30 => ?_)
            try have t30 : x30_.toInt = x24_.toInt - x29_.toInt := by rw [e30]; exact ti_sub (by omega) (by omega)
            refine r_istore_n hC (lv' := [(3, .int x30_), (5, .int x24_), (0, .ref a0), (1, .int x1), (2, .int x6_2), (4, .int x6_4)]) dX8_safe_72 (by decide) rfl ?_
            obtain ⟨x31_, e31⟩ : ∃ z : Int32, z = x6_4 + Int32.ofInt (1) := ⟨_, rfl⟩
            refine r_iinc hC (j := 5) (v := x31_) (lv' := [(4, .int x31_), (3, .int x30_), (5, .int x24_), (0, .ref a0), (1, .int x1), (2, .int x6_2)]) dX8_safe_73 rfl (by rw [e31]) (by decide) rfl ?_
            try have t31 : x31_.toInt = x6_4.toInt + (1) := by rw [e31]; exact (ti_add (b := Int32.ofInt (1)) (by show _ ≤ _ + (1 : Int); omega) (by show _ + (1 : Int) ≤ _; omega))
            refine r_goto hC (tgt := 30) dX8_safe_76 (by decide) ?_
            refine r_sub [3, 4, 5, 1, 0] rfl ?_
            exact ih6 ((1000 - x31_.toInt).toNat) (by omega) x31_ x30_ x6_2 I25 hs25 hF25 (by omega) (by omega) (by omega) (by omega) (by omega) (by omega) (by exact k25_0) rfl
    refine r_sub [3, 4, 2, 1, 0] rfl ?_
    exact LP6 _ x5_ x4_ x3_ I hs hF (by omega) (by omega) (by omega) (by omega) (by omega) (by omega) (by exact hc) rfl
  · refine r_if_ne hC (tgt := 14) dX8_safe_5 (by decide) (fun c32 => ?_) (fun c32 => ?_)
    · exfalso; omega
    refine r_aload_n hC dX8_safe_8 0 rfl ?_
    refine r_iconst hC (v := (1)) dX8_safe_9 (by decide) (by decide) (fun x33_ e33 t33 => ?_)
    refine r_callV hC (As := [.int x33_]) (rest := []) (ci := 8) (c_X8_refuse g (xL X) K len I J R hs a0 ka0 x33_) mT_2_133 mT_1_1 mT_2_130 mT_2_132 mP_0 okX8_refuse ⟨by decide, by decide⟩ rfl (by show kO (K a0) = _; rw [ka0]; rfl) rfl rfl (Nat.le_of_ble_eq_true rfl) ⟨by decide, by decide⟩ dX8_safe_10 (aI1 (F := fun st M => P g X 6 13 [(0, .ref a0), (1, .int x1)] st _ _ M) (M := (K, len, I, J, R)) fun x34_ I34 h34 => ?_)
    obtain ⟨hs34, hf34, k34_0, k34_1⟩ := h34
    show P g X 6 13 [(0, .ref a0), (1, .int x1)] [.int x34_] _ _ (K, len, I34, J, R)
    have hF34 : Fr K [(1, 5), (1, 6), (9, 12), (41, 999), (50, 999), (51, 999), (52, 999), (53, 999), (54, 999)] I I34 := hF.trans hf34 rfl rfl
    have hc34 := hc.mv ka hf34 rfl
    exact r_iret hC hQ hlk hr rfl (by decide) (by decide) dX8_safe_13 ⟨_, _, rfl, rfl, ⟨hs34, hF34, (by exact hc34), (by omega)⟩⟩
set_option maxHeartbeats 4000000 in
set_option maxRecDepth 100000 in
theorem f_X8_part (g : GG) (l : Launch) (K len : Nat → Nat) (I : Nat → Nat → Int32) (J : Nat → Nat → Int64) (R : Nat → Nat → Option Nat) (hs : Sf K len I R) (a0 : Nat) (ka0 : K a0 = 9) (x1 : Int32) (x2 : Int32) (x3 : Int32) (h : Nat) (hh : R a0 2 = some h) (kh : K h = 2) (lk : Nat) (hlk2 : R h 0 = some lk) (klk : K lk = 3) (rd : Nat) (hrd : R a0 9 = some rd) (krd : K rd = 4) (lv : Nat) (hlv : R a0 4 = some lv) (klv : K lv = 41) (llv : len lv = 60) (kn : Nat) (hkn : R a0 6 = some kn) (kkn : K kn = 43) (lkn : len kn = 6) (cr : Nat) (hcr : R a0 5 = some cr) (kcr1 : K cr = 44) (lcr : len cr = 6) (hu : UU K R) (D : DD) (E : Nat → Nat → Int) (hc : KC D E a0 h lk rd I R) : Ct g l yX8_part cX8_part 5 (Option.some Jvm.ClassFile.FieldType.int) rmX8_part [.ref a0, .int x1, .int x2, .int x3] (K, len, I, J, R) (pI1 (K, len, I, J, R) (fun r I' => Sf K len I' R ∧ Fr K [(1, 5), (1, 6), (9, 12), (43, 999), (50, 999), (51, 999), (52, 999), (53, 999), (54, 999)] I I' ∧ (KC D E a0 h lk rd I' R) ∧ ((I' a0 12).toInt ≠ 4))) := by
  refine Ct_intro (by decide +kernel) (Nat.le_of_ble_eq_true rfl) (fun X hC hL hKK hNm hr hlk hQ => ?_)
  subst hL
  have hC : Cx g X cX8_part "HillTap" 5 rmX8_part := hC
  show P g X 5 0 [(0, .ref a0), (1, .int x1), (2, .int x2), (3, .int x3)] [] 0 0 (K, len, I, J, R)
  have hF : Fr K [(1, 5), (1, 6), (9, 12), (43, 999), (50, 999), (51, 999), (52, 999), (53, 999), (54, 999)] I I := Fr.refl
  have ka : KA a0 h lk rd K len R := ⟨⟨_, hs⟩, hu, ka0, kh, klk, krd⟩
  obtain ⟨sd1, sd2, sd3, sd4, sd5, sd7, sd8, sd9⟩ := id hc.2.1
  have d7b := hs.rng kh (k := 6) rfl (x := I h 6) rfl
  have d5b := hs.rng kh (k := 1) rfl (x := I h 1) rfl
  have d8b := hs.rng kh (k := 8) rfl (x := I h 8) rfl
  obtain ⟨tl, htl, ktl, ltl⟩ := hs.row ka0 7 41 60 (by decide) (by decide)
  obtain ⟨tc, htc, ktc⟩ := hs.obj ka0 8 1 (by decide)
  obtain ⟨rr, hrr, krr, lrr⟩ := hs.row kh 5 57 60 (by decide) (by decide)
  obtain ⟨sr, hsr, ksr, lsr⟩ := hs.row ktc 0 50 300 (by decide) (by decide)
  obtain ⟨ir, hir, kir, lir⟩ := hs.row ktc 1 51 300 (by decide) (by decide)
  obtain ⟨wr, hwr, kwr, lwr⟩ := hs.row ktc 2 52 300 (by decide) (by decide)
  obtain ⟨tr, htr, ktr, ltr⟩ := hs.row ktc 3 53 60 (by decide) (by decide)
  obtain ⟨dr, hdr, kdr, ldr⟩ := hs.row ktc 4 54 60 (by decide) (by decide)
  have b_x1 := ti_rng x1
  have b_x2 := ti_rng x2
  have b_x3 := ti_rng x3
  refine r_aload_n hC dX8_part_0 0 rfl ?_
  refine r_iload_n hC dX8_part_1 1 rfl ?_
  refine r_iload_n hC dX8_part_2 2 rfl ?_
  refine r_iload_n hC dX8_part_3 3 rfl ?_
  refine r_callV hC (As := [.int x1, .int x2, .int x3]) (rest := []) (ci := 8) (f_X8_isPegDay g (xL X) K len I J R hs a0 ka0 x1 x2 x3 h hh kh) mT_3_151 mT_1_1 mT_3_148 mT_3_150 mP_23 okX8_isPegDay ⟨by decide, by decide⟩ rfl (by show kO (K a0) = _; rw [ka0]; rfl) rfl rfl (Nat.le_of_ble_eq_true rfl) ⟨by decide, by decide⟩ dX8_part_4 (aI0 (F := fun st M => P g X 5 7 [(0, .ref a0), (1, .int x1), (2, .int x2), (3, .int x3)] st _ _ M) (M := (K, len, I, J, R)) fun x1_ h1 => ?_)
  have k1_0 := h1
  clear h1
  show P g X 5 7 [(0, .ref a0), (1, .int x1), (2, .int x2), (3, .int x3)] [.int x1_] _ _ (K, len, I, J, R)
  rcases k1_0 with ⟨hr1, hw1⟩ | ⟨hr1, hw1⟩
  · refine r_if_ne hC (tgt := 16) dX8_part_7 (by decide) (fun c2 => ?_) (fun c2 => ?_)
    rotate_left
    · exfalso; omega
    refine r_aload_n hC dX8_part_16 0 rfl ?_
    refine r_getr hC 2 (ci := 8) rfl u8_in (by decide) mT_2_80 dX8_part_17 ka0 rfl rfl hh ?_
    obtain ⟨a3_, hb3, hk3, hn3⟩ := hs.row kh 7 45 6 (by decide) (by decide)
    refine r_getr hC 7 (ci := 1) rfl u1_in (by decide) mT_1_205 dX8_part_20 kh rfl rfl hb3 ?_
    refine r_iload_n hC dX8_part_23 1 rfl ?_
    obtain ⟨a4_, hb4, hk4⟩ := hs.sto hk3 (i := x1) (by omega) (by omega)
    refine x_aaload (C := "HillTap$Story") hC hk3 hn3 (by decide) rfl (by decide) dX8_part_24 (by omega) (by omega) hb4 ?_
    refine r_geti hC 1 (ci := 4) rfl u4_in (by decide) mT_1_165 dX8_part_25 hk4 rfl rfl (fun x5_ e5 => ?_)
    have f5 : x5_.toInt = (I a4_ 1).toInt := by rw [e5]
    have q5 : x5_.toInt = D 7 x1.toInt.toNat := by rw [e5]; exact (hc.sto hb3 (by rw [← clx (i := x1) rfl (by omega)]; exact hb4) (by omega) (by omega)).2.1
    refine r_iconst hC (v := (5)) dX8_part_28 (by decide) (by decide) (fun x6_ e6 t6 => ?_)
    refine r_icmp_eq hC (tgt := 38) dX8_part_29 (by decide) (fun c7 => ?_) (fun c7 => ?_)
    · refine r_aload_n hC dX8_part_38 0 rfl ?_
      refine r_getr hC 8 (ci := 8) rfl u8_in (by decide) mT_2_86 dX8_part_39 ka0 rfl rfl htc ?_
      refine r_aload_n hC dX8_part_42 0 rfl ?_
      refine r_getr hC 2 (ci := 8) rfl u8_in (by decide) mT_2_80 dX8_part_43 ka0 rfl rfl hh ?_
      refine r_aload_n hC dX8_part_46 0 rfl ?_
      refine r_getr hC 2 (ci := 8) rfl u8_in (by decide) mT_2_80 dX8_part_47 ka0 rfl rfl hh ?_
      refine r_getr hC 7 (ci := 1) rfl u1_in (by decide) mT_1_205 dX8_part_50 kh rfl rfl hb3 ?_
      refine r_iload_n hC dX8_part_53 1 rfl ?_
      obtain ⟨a8_, hb8, hk8⟩ := hs.sto hk3 (i := x1) (by omega) (by omega)
      refine x_aaload (C := "HillTap$Story") hC hk3 hn3 (by decide) rfl (by decide) dX8_part_54 (by omega) (by omega) hb8 ?_
      refine r_aload_n hC dX8_part_55 0 rfl ?_
      refine r_getr hC 4 (ci := 8) rfl u8_in (by decide) mT_2_82 dX8_part_56 ka0 rfl rfl hlv ?_
      refine r_iconst hC (v := (0)) dX8_part_59 (by decide) (by decide) (fun x9_ e9 t9 => ?_)
      obtain ⟨hJ, h6, -⟩ := hc.2.2.1 (by omega)
      have ecl : x1.toNatClampNeg = x1.toInt.toNat := clx rfl (by omega)
      have hbs : R a3_ x1.toInt.toNat = some a8_ := by rw [← ecl]; exact hb8
      obtain ⟨-, q7, q8, q9⟩ := hc.sto hb3 hbs (by omega) (by omega)
      refine r_callV hC (As := [.ref h, .ref a8_, .ref lv, .int x9_]) (rest := []) (ci := 0) (f_X0_follow g (xL X) K len I J R hs tc ktc h kh a8_ hk8 lv klv llv x9_ sr hsr ksr lsr ir hir kir lir wr hwr kwr lwr tr htr ktr ltr dr hdr kdr ldr (LP1 D) (hc.lev (by omega) hlv) (LP1_b hJ) D hJ h6 x1.toInt.toNat (by omega) q7 q8 q9 lk hlk2 klk hu hc.1 hc.2.1.1 hc.2.1.2.2.2.2.1 rr hrr krr lrr (hc.rn hrr)) mT_3_167 mT_1_8 mT_3_164 mT_3_165 mT_3_166 okX0_follow ⟨by decide, by decide⟩ rfl (by show kO (K tc) = _; rw [ktc]; rfl) rfl rfl (Nat.le_of_ble_eq_true rfl) ⟨by decide, by decide⟩ dX8_part_60 (aV1 (F := fun st M => P g X 5 63 [(0, .ref a0), (1, .int x1), (2, .int x2), (3, .int x3)] st _ _ M) (M := (K, len, I, J, R)) fun I10 h10 => ?_)
      obtain ⟨hs10, hf10, k10_0, k10_1, k10_2, k10_3⟩ := h10
      show P g X 5 63 [(0, .ref a0), (1, .int x1), (2, .int x2), (3, .int x3)] [] _ _ (K, len, I10, J, R)
      have hF10 : Fr K [(1, 5), (1, 6), (9, 12), (43, 999), (50, 999), (51, 999), (52, 999), (53, 999), (54, 999)] I I10 := hF.trans hf10 rfl rfl
      have hc10 := hc.eqT ka htc htl (fun a k _ z1 z2 z3 => k10_3 a k z1 (fun y => z3 0 (by decide) (by rw [y]; exact hsr)) (fun y => z3 1 (by decide) (by rw [y]; exact hir)) (fun y => z3 2 (by decide) (by rw [y]; exact hwr)) (fun y => z3 3 (by decide) (by rw [y]; exact htr)) (fun y => z3 4 (by decide) (by rw [y]; exact hdr)))
      have j0 := k10_0; have j1 := k10_1; have j2 := k10_2
      rw [t9] at j0 j1 j2
      have cot : CO D x1.toInt.toNat (LP1 D) 0 tc I10 R := ⟨fun s1 s2 s3 s4 g0 g1 g2 g3 => by rw [hsr] at g0; rw [hir] at g1; rw [hwr] at g2; rw [htr] at g3; cases g0; cases g1; cases g2; cases g3; exact j0, j1, j2⟩
      refine r_iload_n hC dX8_part_63 2 rfl ?_
      refine r_iload_n hC dX8_part_64 3 rfl ?_
      refine r_callS hC (As := [.int x2, .int x3]) (rest := []) (c_X8_row g (xL X) K len I10 J R hs10 x2 x3 (by omega) (by omega) (by omega) (by omega)) mT_3_192 mT_1_1 mT_3_197 mT_3_191 okX8_row ⟨by decide, by decide⟩ rfl rfl (Nat.le_of_ble_eq_true rfl) ⟨by decide, by decide⟩ dX8_part_65 (aI0 (F := fun st M => P g X 5 68 [(0, .ref a0), (1, .int x1), (2, .int x2), (3, .int x3)] st _ _ M) (M := (K, len, I10, J, R)) fun x11_ h11 => ?_)
      have k11_0 := h11
      clear h11
      show P g X 5 68 [(0, .ref a0), (1, .int x1), (2, .int x2), (3, .int x3)] [.int x11_] _ _ (K, len, I10, J, R)
      refine r_istore hC (lv' := [(4, .int x11_), (0, .ref a0), (1, .int x1), (2, .int x2), (3, .int x3)]) dX8_part_68 (by decide) rfl ?_
      refine r_aload_n hC dX8_part_70 1 rfl ?_
      refine r_aload_n hC dX8_part_71 1 rfl ?_
      refine r_iload_n hC dX8_part_72 2 rfl ?_
      refine r_callV hC (As := [.int x1]) (rest := [.ref a0]) (ci := 8) (f_X8_courseOf g (xL X) K len I10 J R hs10 a0 ka0 x1 h hh kh lk hlk2 klk rd hrd krd lv hlv klv llv kn hkn kkn lkn cr hcr kcr1 lcr hu D E hc10 (by omega) (by omega)) mT_3_163 mT_1_1 mT_3_160 mT_3_162 mP_26 okX8_courseOf ⟨by decide, by decide⟩ rfl (by show kO (K a0) = _; rw [ka0]; rfl) rfl rfl (Nat.le_of_ble_eq_true rfl) ⟨by decide, by decide⟩ dX8_part_73 (aR1 (F := fun st M => P g X 5 76 [(4, .int x11_), (0, .ref a0), (1, .int x1), (2, .int x2), (3, .int x3)] st _ _ M) (M := (K, len, I10, J, R)) fun a12_ I12 h12 => ?_)
      obtain ⟨hs12, hf12, k12_0, k12_1, k12_2, k12_3, k12_4⟩ := h12
      show P g X 5 76 [(4, .int x11_), (0, .ref a0), (1, .int x1), (2, .int x2), (3, .int x3)] [.ref a12_, .ref a0] _ _ (K, len, I12, J, R)
      have hF12 : Fr K [(1, 5), (1, 6), (9, 12), (43, 999), (50, 999), (51, 999), (52, 999), (53, 999), (54, 999)] I I12 := hF10.trans hf12 rfl rfl
      obtain ⟨a13_, hb13, hk13, hn13⟩ := hs12.row k12_0 1 51 300 (by decide) (by decide)
      refine r_getr hC 1 (ci := 0) rfl u0_in (by decide) mT_2_29 dX8_part_76 k12_0 rfl rfl hb13 ?_
      refine r_iload hC dX8_part_79 0 rfl ?_
      refine x_iaload hC hk13 hn13 (by decide) rfl rfl dX8_part_81 (by omega) (by omega) (fun x14_ e14 => ?_)
      have q14 : x14_.toInt = NV D x1.toInt.toNat (Ad D x1.toInt.toNat (LP1 D) 1) x3.toInt.toNat x2.toInt.toNat := by rw [e14, clx (i := x11_) rfl (by omega), show x11_.toInt.toNat = 60 * x2.toInt.toNat + x3.toInt.toNat by omega]; exact k12_3.inc hs k12_0 hb13 (by omega) (by omega)
      have jb14 := k12_2.nvb (s := x1.toInt.toNat) (by omega) (w2 := 1) x3.toInt.toNat x2.toInt.toNat (by omega)
      refine r_aload_n hC dX8_part_82 1 rfl ?_
      refine r_getr hC 8 (ci := 8) rfl u8_in (by decide) mT_2_86 dX8_part_83 ka0 rfl rfl htc ?_
      obtain ⟨a15_, hb15, hk15, hn15⟩ := hs12.row ktc 1 51 300 (by decide) (by decide)
      refine r_getr hC 1 (ci := 0) rfl u0_in (by decide) mT_2_29 dX8_part_86 ktc rfl rfl hb15 ?_
      refine r_iload hC dX8_part_89 0 rfl ?_
      refine x_iaload hC hk15 hn15 (by decide) rfl rfl dX8_part_91 (by omega) (by omega) (fun x16_ e16 => ?_)
      refine r_isub hC dX8_part_92 (fun x17_ e17 => ?_)
      try have t17 : x17_.toInt = x14_.toInt - x16_.toInt := by rw [e17]; exact ti_sub (by omega) (by omega)
      refine r_callV hC (As := [.int x17_]) (rest := []) (ci := 8) (c_X8_answer g (xL X) K len I12 J R hs12 a0 ka0 x17_) mT_3_115 mT_1_1 mT_3_112 mT_3_114 mP_21 okX8_answer ⟨by decide, by decide⟩ rfl (by show kO (K a0) = _; rw [ka0]; rfl) rfl rfl (Nat.le_of_ble_eq_true rfl) ⟨by decide, by decide⟩ dX8_part_93 (aI1 (F := fun st M => P g X 5 96 [(4, .int x11_), (0, .ref a0), (1, .int x1), (2, .int x2), (3, .int x3)] st _ _ M) (M := (K, len, I12, J, R)) fun x18_ I18 h18 => ?_)
      obtain ⟨hs18, hf18, k18_0, k18_1⟩ := h18
      show P g X 5 96 [(4, .int x11_), (0, .ref a0), (1, .int x1), (2, .int x2), (3, .int x3)] [.int x18_] _ _ (K, len, I18, J, R)
      have hF18 : Fr K [(1, 5), (1, 6), (9, 12), (43, 999), (50, 999), (51, 999), (52, 999), (53, 999), (54, 999)] I I18 := hF12.trans hf18 rfl rfl
      have hc18 := k12_2.mv ka hf18 rfl
      have coa12__18 := k12_3.mv hs k12_0 hf18 rfl
      exact r_iret hC hQ hlk hr rfl (by decide) (by decide) dX8_part_96 ⟨_, _, rfl, rfl, ⟨hs18, hF18, (by exact hc18), (by omega)⟩⟩
    · refine r_aload_n hC dX8_part_32 0 rfl ?_
      refine r_iconst hC (v := (0)) dX8_part_33 (by decide) (by decide) (fun x19_ e19 t19 => ?_)
      refine r_callV hC (As := [.int x19_]) (rest := []) (ci := 8) (c_X8_answer g (xL X) K len I J R hs a0 ka0 x19_) mT_3_115 mT_1_1 mT_3_112 mT_3_114 mP_21 okX8_answer ⟨by decide, by decide⟩ rfl (by show kO (K a0) = _; rw [ka0]; rfl) rfl rfl (Nat.le_of_ble_eq_true rfl) ⟨by decide, by decide⟩ dX8_part_34 (aI1 (F := fun st M => P g X 5 37 [(0, .ref a0), (1, .int x1), (2, .int x2), (3, .int x3)] st _ _ M) (M := (K, len, I, J, R)) fun x20_ I20 h20 => ?_)
      obtain ⟨hs20, hf20, k20_0, k20_1⟩ := h20
      show P g X 5 37 [(0, .ref a0), (1, .int x1), (2, .int x2), (3, .int x3)] [.int x20_] _ _ (K, len, I20, J, R)
      have hF20 : Fr K [(1, 5), (1, 6), (9, 12), (43, 999), (50, 999), (51, 999), (52, 999), (53, 999), (54, 999)] I I20 := hF.trans hf20 rfl rfl
      have hc20 := hc.mv ka hf20 rfl
      exact r_iret hC hQ hlk hr rfl (by decide) (by decide) dX8_part_37 ⟨_, _, rfl, rfl, ⟨hs20, hF20, (by exact hc20), (by omega)⟩⟩
  · refine r_if_ne hC (tgt := 16) dX8_part_7 (by decide) (fun c21 => ?_) (fun c21 => ?_)
    · exfalso; omega
    refine r_aload_n hC dX8_part_10 0 rfl ?_
    refine r_iconst hC (v := (1)) dX8_part_11 (by decide) (by decide) (fun x22_ e22 t22 => ?_)
    refine r_callV hC (As := [.int x22_]) (rest := []) (ci := 8) (c_X8_refuse g (xL X) K len I J R hs a0 ka0 x22_) mT_2_133 mT_1_1 mT_2_130 mT_2_132 mP_0 okX8_refuse ⟨by decide, by decide⟩ rfl (by show kO (K a0) = _; rw [ka0]; rfl) rfl rfl (Nat.le_of_ble_eq_true rfl) ⟨by decide, by decide⟩ dX8_part_12 (aI1 (F := fun st M => P g X 5 15 [(0, .ref a0), (1, .int x1), (2, .int x2), (3, .int x3)] st _ _ M) (M := (K, len, I, J, R)) fun x23_ I23 h23 => ?_)
    obtain ⟨hs23, hf23, k23_0, k23_1⟩ := h23
    show P g X 5 15 [(0, .ref a0), (1, .int x1), (2, .int x2), (3, .int x3)] [.int x23_] _ _ (K, len, I23, J, R)
    have hF23 : Fr K [(1, 5), (1, 6), (9, 12), (43, 999), (50, 999), (51, 999), (52, 999), (53, 999), (54, 999)] I I23 := hF.trans hf23 rfl rfl
    have hc23 := hc.mv ka hf23 rfl
    exact r_iret hC hQ hlk hr rfl (by decide) (by decide) dX8_part_15 ⟨_, _, rfl, rfl, ⟨hs23, hF23, (by exact hc23), (by omega)⟩⟩

