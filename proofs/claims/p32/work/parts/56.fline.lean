set_option maxHeartbeats 4000000 in
set_option maxRecDepth 100000 in
theorem f_X2_addFrom (g : GG) (l : Launch) (K len : Nat → Nat) (I : Nat → Nat → Int32) (J : Nat → Nat → Int64) (R : Nat → Nat → Option Nat) (hs : Sf K len I R) (a0 : Nat) (ka0 : K a0 = 3) (x1 : Int32) (x2 : Int32) (hz : Nat) (khz : K hz = 2) (hu : UU K R) (E : DD) (N : Nat → Int) (rwd : RW (CC hz a0 R) N E I) (n0 : Nat) (hn0 : (I a0 4).toInt = n0) (hn3 : N 3 = n0) (hn4 : N 4 = n0) (u1 : Int) (hu1 : x1.toInt = u1) (u2 : Int) (hu2 : x2.toInt = u2) (h16 : n0 < 16) : Ct g l yX2_addFrom cX2_addFrom 3 (Option.none : Option Jvm.ClassFile.FieldType) rmX2_addFrom [.ref a0, .int x1, .int x2] (K, len, I, J, R) (pV1 (K, len, I, J, R) (fun I' => Sf K len I' R ∧ Fr K [(3, 4), (63, 999), (64, 999)] I I' ∧ ((I a0 4).toInt < 16 → (I' a0 4).toInt = (I a0 4).toInt + 1) ∧ ((I' a0 5).toInt = (I a0 5).toInt) ∧ (OB K hz a0 I I') ∧ (RW (CC hz a0 R) (upN (upN N 3 ((n0 : Int) + 1)) 4 ((n0 : Int) + 1)) (upD (upD E 3 n0 u1) 4 n0 u2) I') ∧ (OC (CC hz a0 R) qC K I I'))) := by
  refine Ct_intro (by decide +kernel) (Nat.le_of_ble_eq_true rfl) (fun X hC hL hKK hNm hr hlk hQ => ?_)
  subst hL
  have hC : Cx g X cX2_addFrom "HillTap$Lake" 3 rmX2_addFrom := hC
  show P g X 3 0 [(0, .ref a0), (1, .int x1), (2, .int x2)] [] 0 0 (K, len, I, J, R)
  have hF : Fr K [(3, 4), (63, 999), (64, 999)] I I := Fr.refl
  have ob : OB K hz a0 I I := OB.rf
  have hcx := CC_x hs khz ka0 hu
  have oc : OC (CC hz a0 R) qC K I I := OC.rf
  have b_x1 := ti_rng x1
  have b_x2 := ti_rng x2
  obtain ⟨F0, eF0⟩ : ∃ z : Int32, z = I a0 4 := ⟨_, rfl⟩
  have fF0 : F0.toInt = (I a0 4).toInt := by rw [eF0]
  have rF0 := hs.rng ka0 rfl eF0
  obtain ⟨P0, eP0⟩ : ∃ z : Int32, z = I a0 5 := ⟨_, rfl⟩
  have fP0 : P0.toInt = (I a0 5).toInt := by rw [eP0]
  have rP0 := hs.rng ka0 rfl eP0
  refine r_aload_n hC dX2_addFrom_0 0 rfl ?_
  refine r_geti hC 4 (ci := 2) rfl u2_in (by decide) mT_1_128 dX2_addFrom_1 ka0 rfl rfl (fun x1_ e1 => ?_)
  have r1 := hs.rng ka0 rfl e1
  have f1 : x1_.toInt = (I a0 4).toInt := by rw [e1]
  have w1 : x1_ = F0 := by rw [e1]; exact eF0.symm
  have wt1 : x1_.toInt = F0.toInt := by rw [w1]
  refine r_bipush hC (v := (16)) dX2_addFrom_4 (by decide) (by decide) (fun x2_ e2 t2 => ?_)
  refine r_icmp_ge hC (tgt := 39) dX2_addFrom_6 (by decide) (fun c3 => ?_) (fun c3 => ?_)
  · have hv4 : I a0 4 = x1_ := e1.symm
    have hv4t : (I a0 4).toInt = x1_.toInt := congrArg Int32.toInt hv4
    have hv5 : I a0 5 = P0 := eP0.symm
    have hv5t : (I a0 5).toInt = P0.toInt := congrArg Int32.toInt hv5
    exact r_vret hC hQ hlk hr (by decide) (by decide) dX2_addFrom_39 ⟨_, rfl, rfl, ⟨hs, hF, (by rw [hv4]; omega), (by rw [hv5, eP0]), (by exact ob), (by first | exact rwd | (exfalso; omega)), (by exact oc)⟩⟩
  · refine r_aload_n hC dX2_addFrom_9 0 rfl ?_
    obtain ⟨a4_, hb4, hk4, hn4⟩ := hs.row ka0 6 63 16 (by decide) (by decide)
    refine r_getr hC 6 (ci := 2) rfl u2_in (by decide) mT_1_133 dX2_addFrom_10 ka0 rfl rfl hb4 ?_
    refine r_aload_n hC dX2_addFrom_13 0 rfl ?_
    refine r_geti hC 4 (ci := 2) rfl u2_in (by decide) mT_1_128 dX2_addFrom_14 ka0 rfl rfl (fun x5_ e5 => ?_)
    have r5 := hs.rng ka0 rfl e5
    have f5 : x5_.toInt = (I a0 4).toInt := by rw [e5]
    have w5 : x5_ = x1_ := by rw [e5]; exact e1.symm
    have wt5 : x5_.toInt = x1_.toInt := by rw [w5]
    refine r_iload_n hC dX2_addFrom_17 1 rfl ?_
    refine x_iastore hC hk4 hn4 (by decide) rfl rfl dX2_addFrom_18 (by omega) (by omega) (fun I6 eI6 => ?_)
    have hs6 := hs.put0 eI6 hk4 (rng_arr (by decide) _) rfl (xF_arr (by decide) _) (by decide)
    have hF6 := hF.put eI6 hk4 (inS_arr rfl _)
    have ob6 := ob.put eI6 hk4 (by first | exact Or.inr rfl | exact Or.inl (by decide)) (by first | exact Or.inr rfl | exact Or.inl (by decide))
    have jx6 : x5_.toNatClampNeg = n0 := by have h9 := clampI (i := x5_) (by omega); omega
    rw [jx6] at eI6
    have rw6 := rwd.put hcx (r0 := 3) (j0 := n0) (w := u1) (cCf (r := 3) rfl hb4) eI6 (by omega) (by show ((n0 : Nat) : Int) = N 3; omega) (fun h9 => absurd h9 (by decide))
    have oc6 := oc.put (cCf (r := 3) rfl hb4) eI6
    refine r_aload_n hC dX2_addFrom_19 0 rfl ?_
    obtain ⟨a7_, hb7, hk7, hn7⟩ := hs6.row ka0 7 64 16 (by decide) (by decide)
    refine r_getr hC 7 (ci := 2) rfl u2_in (by decide) mT_1_134 dX2_addFrom_20 ka0 rfl rfl hb7 ?_
    refine r_aload_n hC dX2_addFrom_23 0 rfl ?_
    refine r_geti hC 4 (ci := 2) rfl u2_in (by decide) mT_1_128 dX2_addFrom_24 ka0 rfl rfl (fun x8_ e8 => ?_)
    have r8 := hs6.rng ka0 rfl e8
    have f8 : x8_.toInt = (I6 a0 4).toInt := by rw [e8]
    have w8 : x8_ = x5_ := by rw [e8]; exact (Eq.trans (up2_kk eI6 hk4 ka0 (by decide)) e5.symm)
    have wt8 : x8_.toInt = x5_.toInt := by rw [w8]
    refine r_iload_n hC dX2_addFrom_27 2 rfl ?_
    refine x_iastore hC hk7 hn7 (by decide) rfl rfl dX2_addFrom_28 (by omega) (by omega) (fun I9 eI9 => ?_)
    have hs9 := hs6.put0 eI9 hk7 (rng_arr (by decide) _) rfl (xF_arr (by decide) _) (by decide)
    have hF9 := hF6.put eI9 hk7 (inS_arr rfl _)
    have ob9 := ob6.put eI9 hk7 (by first | exact Or.inr rfl | exact Or.inl (by decide)) (by first | exact Or.inr rfl | exact Or.inl (by decide))
    have jx9 : x8_.toNatClampNeg = n0 := by have h9 := clampI (i := x8_) (by omega); omega
    rw [jx9] at eI9
    have rw9 := rw6.put hcx (r0 := 4) (j0 := n0) (w := u2) (cCf (r := 4) rfl hb7) eI9 (by omega) (by show ((n0 : Nat) : Int) = N 4; omega) (fun h9 => absurd h9 (by decide))
    have oc9 := oc6.put (cCf (r := 4) rfl hb7) eI9
    refine r_aload_n hC dX2_addFrom_29 0 rfl ?_
    refine r_dup hC dX2_addFrom_30 rfl ?_
    refine r_geti hC 4 (ci := 2) rfl u2_in (by decide) mT_1_128 dX2_addFrom_31 ka0 rfl rfl (fun x10_ e10 => ?_)
    have r10 := hs9.rng ka0 rfl e10
    have f10 : x10_.toInt = (I9 a0 4).toInt := by rw [e10]
    have w10 : x10_ = x8_ := by rw [e10]; exact (Eq.trans (up2_kk eI9 hk7 ka0 (by decide)) e8.symm)
    have wt10 : x10_.toInt = x8_.toInt := by rw [w10]
    refine r_iconst hC (v := (1)) dX2_addFrom_34 (by decide) (by decide) (fun x11_ e11 t11 => ?_)
    refine r_iadd hC dX2_addFrom_35 (fun x12_ e12 => ?_)
    try have t12 : x12_.toInt = x10_.toInt + x11_.toInt := by rw [e12]; exact ti_add (by omega) (by omega)
    refine r_puti hC 4 (ci := 2) rfl u2_in tyX2_ok nmX2 (by decide) mT_1_128 rfl rfl rfl dX2_addFrom_36 ka0 rfl rfl (fun I13 eI13 => ?_)
    have hs13 : Sf K len I13 R := hs9.put34 eI13 ka0 (by omega) (by omega) (by have h9 := hs9.plan ka0; rw [← e10] at h9; omega)
    have hF13 := hF9.put eI13 ka0 rfl
    have ob13 := ob9.put eI13 ka0 (by first | exact Or.inr rfl | exact Or.inl (by decide)) (by first | exact Or.inr rfl | exact Or.inl (by decide))
    have rw13 := rw9.putO hcx eI13 ka0 rfl
    have oc13 := oc9.putO eI13 ka0 rfl
    have hv4 : I13 a0 4 = x12_ := (by rw [eI13]; exact up2_self _ _ _ _)
    have hv4t : (I13 a0 4).toInt = x12_.toInt := congrArg Int32.toInt hv4
    have hv5 : I13 a0 5 = P0 := (Eq.trans (up2_at (Or.inr (by decide)) eI13) (Eq.trans (up2_kk eI9 hk7 ka0 (by decide)) (Eq.trans (up2_kk eI6 hk4 ka0 (by decide)) eP0.symm)))
    have hv5t : (I13 a0 5).toInt = P0.toInt := congrArg Int32.toInt hv5
    exact r_vret hC hQ hlk hr (by decide) (by decide) dX2_addFrom_39 ⟨_, rfl, rfl, ⟨hs13, hF13, (by rw [hv4]; omega), (by rw [hv5, eP0]), (by exact ob13), (by first | exact rw13 | (exfalso; omega)), (by exact oc13)⟩⟩
set_option maxHeartbeats 4000000 in
set_option maxRecDepth 100000 in
theorem f_X6_takeLake (g : GG) (l : Launch) (K len : Nat → Nat) (I : Nat → Nat → Int32) (J : Nat → Nat → Int64) (R : Nat → Nat → Option Nat) (hs : Sf K len I R) (a0 : Nat) (ka0 : K a0 = 7) (a1 : Nat) (ka1 : K a1 = 3) (tk : Nat) (htk : R a0 0 = some tk) (ktk : K tk = 8) (tp : Nat) (bt : Nat) (hbt : R tk 0 = some tp) (hkt : K tp = 6) (hbb : R tp 0 = some bt) (hkb : K bt = 40) (nbt : len bt = 900) (B : Nat → Int) (n : Nat) (hB : BT B n bt I) (hn : n ≤ 900) (p : Nat) (hp : p ≤ n) (tkc : TkC B n tk p I J) (nr : Nat) (hnr : R a0 1 = some nr) (knr : K nr = 42) (lnr : len nr = 19) (pr : Nat) (hpr : R a0 2 = some pr) (kpr : K pr = 48) (lpr : len pr = 5) (hl : Nat) (khl : K hl = 2) (D : DD) (hD : DI D) (rep : RpC D a0 nr pr hl a1 I J) (hu : UU K R) (rwd : RW (CC hl a1 R) (cntN D) D I) (hJ : DJ D) : Ct g l yX6_takeLake cX6_takeLake 2 (Option.some Jvm.ClassFile.FieldType.boolean) rmX6_takeLake [.ref a0, .ref a1] (K, len, I, J, R) (pI2 (K, len, I, J, R) (fun r I' J' => Sf K len I' R ∧ Fr K [(3, 0), (3, 1), (3, 2), (3, 3), (7, 4), (7, 5), (7, 6), (8, 2), (8, 3), (8, 4)] I I' ∧ Fr K [(8, 5)] J J' ∧ (0 ≤ r.toInt) ∧ (r.toInt ≤ 1) ∧ (r.toInt = 1 ∧ (∃ (D' : DD) (p' : Nat), sLake B n p D = .ok (D', p') ∧ p' ≤ n ∧ TkC B n tk p' I' J' ∧ RpC D' a0 nr pr hl a1 I' J' ∧ RW (CC hl a1 R) (cntN D') D' I' ∧ I' a0 5 = I a0 5) ∨ r.toInt = 0 ∧ (∃ (kf : Int) (qf : Nat), sLake B n p D = .error (kf, qf) ∧ (I' a0 5).toInt = kf ∧ (I' a0 6).toInt = qf)) ∧ (OB K hl a1 I I') ∧ (OC (CC hl a1 R) qC K I I'))) := by
  refine Ct_intro (by decide +kernel) (Nat.le_of_ble_eq_true rfl) (fun X hC hL hKK hNm hr hlk hQ => ?_)
  subst hL
  have hC : Cx g X cX6_takeLake "HillTap$Teller" 2 rmX6_takeLake := hC
  show P g X 2 0 [(0, .ref a0), (1, .ref a1)] [] 0 0 (K, len, I, J, R)
  have hF : Fr K [(3, 0), (3, 1), (3, 2), (3, 3), (7, 4), (7, 5), (7, 6), (8, 2), (8, 3), (8, 4)] I I := Fr.refl
  have hFJ : Fr K [(8, 5)] J J := Fr.refl
  have tkc9 := tkc
  obtain ⟨tk3, tk4, tk2, tk1, tk5⟩ := tkc9
  have hnp : nr ≠ pr := fun z => by rw [z, lpr] at lnr; exact absurd lnr (by decide)
  obtain ⟨hD0, ⟨hD1, hD2⟩, ⟨hD3, hD4⟩, ⟨hD5, hD6⟩, ⟨hD7, hD8⟩, ⟨hD9, hD10⟩, hD11, hD12⟩ := id hD
  obtain ⟨rs0, rs1, rs2, rs3, rs4, rs5, rs6, rs7, rs8, rs9, rs10⟩ := id rep.1
  have ob : OB K hl a1 I I := OB.rf
  have hcx := CC_x hs khl ka1 hu
  have oc : OC (CC hl a1 R) qC K I I := OC.rf
  refine r_aload_n hC dX6_takeLake_0 1 rfl ?_
  refine r_geti hC 0 (ci := 2) rfl u2_in (by decide) mT_1_118 dX6_takeLake_1 ka1 rfl rfl (fun x1_ e1 => ?_)
  have f1 : x1_.toInt = (I a1 0).toInt := by rw [e1]
  refine r_if_eq hC (tgt := 13) dX6_takeLake_4 (by decide) (fun c2 => ?_) (fun c2 => ?_)
  · refine r_aload_n hC dX6_takeLake_13 0 rfl ?_
    refine r_getr hC 0 (ci := 6) rfl u6_in (by decide) mT_1_81 dX6_takeLake_14 ka0 rfl rfl htk ?_
    refine r_callV hC (As := []) (rest := []) (ci := 7) (f_X7_next g (xL X) K len I J R hs tk ktk tp bt hbt hkt hbb hkb nbt B n (hB.mv hF hkb (fun _ => rfl)) hn (nx B n p) (nx_le hp).2 (tkc.2.2.1) (tkc.2.2.2.1)) mT_2_159 mT_1_4 mT_2_234 mT_2_157 mT_2_158 okX7_next ⟨by decide, by decide⟩ rfl (by show kO (K tk) = _; rw [ktk]; rfl) rfl rfl (Nat.le_of_ble_eq_true rfl) ⟨by decide, by decide⟩ dX6_takeLake_17 (aV2 (F := fun st M => P g X 2 20 [(0, .ref a0), (1, .ref a1)] st _ _ M) (M := (K, len, I, J, R)) fun I3 J3 h3 => ?_)
    obtain ⟨hs3, hf3, hfj3, k3_0⟩ := h3
    show P g X 2 20 [(0, .ref a0), (1, .ref a1)] [] _ _ (K, len, I3, J3, R)
    have hF3 : Fr K [(3, 0), (3, 1), (3, 2), (3, 3), (7, 4), (7, 5), (7, 6), (8, 2), (8, 3), (8, 4)] I I3 := hF.trans hf3 rfl rfl
    have hFJ3 : Fr K [(8, 5)] J J3 := hFJ.trans hfj3 rfl rfl
    have fp3 : I3 a0 5 = I a0 5 := (hf3.get ka0 rfl).trans rfl
    have rw3 := rwd.mv hcx qC_big hf3 rfl
    have oc3 := oc.mv qC_big hf3 rfl
    have rp3 := rep.mv hf3 hfj3 ka0 khl ka1 knr kpr rfl (fun _ => rfl) (fun _ => rfl)
    have ob3 := ob.mv hf3 rfl
    refine r_aload_n hC dX6_takeLake_20 0 rfl ?_
    refine r_ldcS hC (i := 1) (by decide) rfl rfl dX6_takeLake_21 ?_
    refine r_iconst hC (v := (0)) dX6_takeLake_23 (by decide) (by decide) (fun x4_ e4 t4 => ?_)
    refine r_sipush hC (v := (500)) dX6_takeLake_24 (by decide) (by decide) (fun x5_ e5 t5 => ?_)
    refine r_callV hC (As := [.ref (g.2.2.1 1), .int x4_, .int x5_]) (rest := []) (ci := 6) (f_X6_takeNumber g (xL X) K len I3 J3 R hs3 a0 ka0 1 (by decide) x4_ x5_ tk htk ktk tp bt hbt hkt hbb hkb nbt B n (hB.mv hF3 hkb (fun _ => rfl)) hn (nx B n p) (nx_le hp).2 k3_0) mT_2_239 mT_1_3 mT_2_236 mT_2_238 mP_6 okX6_takeNumber ⟨by decide, by decide⟩ rfl (by show kO (K a0) = _; rw [ka0]; rfl) rfl rfl (Nat.le_of_ble_eq_true rfl) ⟨by decide, by decide⟩ dX6_takeLake_27 (aI2 (F := fun st M => P g X 2 30 [(0, .ref a0), (1, .ref a1)] st _ _ M) (M := (K, len, I3, J3, R)) fun x6_ I6 J6 h6 => ?_)
    obtain ⟨hs6, hf6, hfj6, k6_0, k6_1, k6_2, k6_3⟩ := h6
    show P g X 2 30 [(0, .ref a0), (1, .ref a1)] [.int x6_] _ _ (K, len, I6, J6, R)
    have hF6 : Fr K [(3, 0), (3, 1), (3, 2), (3, 3), (7, 4), (7, 5), (7, 6), (8, 2), (8, 3), (8, 4)] I I6 := hF3.trans hf6 rfl rfl
    have hFJ6 : Fr K [(8, 5)] J J6 := hFJ3.trans hfj6 rfl rfl
    have rw6 := rw3.mv hcx qC_big hf6 rfl
    have oc6 := oc3.mv qC_big hf6 rfl
    have rp6 := rp3.mv hf6 hfj6 ka0 khl ka1 knr kpr rfl (fun _ => rfl) (fun _ => rfl)
    have ob6 := ob3.mv hf6 rfl
    rcases k6_3 with ⟨hr6, v6, p6, hsp6, hp6, tk6, hw6, fl6⟩ | ⟨hr6, kf6, qf6, hsp6, hf16, hf26⟩
    · have fq6 : I6 a0 5 = I a0 5 := fl6.trans fp3
      rw [show x4_.toInt = 0 by omega, show x5_.toInt = 500 by omega] at hsp6
      refine r_if_ne hC (tgt := 35) dX6_takeLake_30 (by decide) (fun c7 => ?_) (fun c7 => ?_)
      rotate_left
      · exfalso; omega
      refine r_aload_n hC dX6_takeLake_35 1 rfl ?_
      refine r_aload_n hC dX6_takeLake_36 0 rfl ?_
      refine r_geti hC 4 (ci := 6) rfl u6_in (by decide) mT_1_85 dX6_takeLake_37 ka0 rfl rfl (fun x8_ e8 => ?_)
      have f8 : x8_.toInt = (I6 a0 4).toInt := by rw [e8]
      refine r_puti hC 1 (ci := 2) rfl u2_in tyX2_ok nmX2 (by decide) mT_1_120 rfl rfl rfl dX6_takeLake_40 ka1 rfl rfl (fun I9 eI9 => ?_)
      have hs9 := hs6.put0 eI9 ka1 rfl rfl rfl (by decide)
      have hF9 := hF6.put eI9 ka1 rfl
      have fp9 : I9 a0 5 = I a0 5 := (up2_kk eI9 ka1 ka0 (by decide)).trans fq6
      have tkp9 := tk6.put eI9 ka1 ktk (by decide)
      have rc9 : (I6 a1 1).toInt = D 0 1 := rp6.1.2.1
      have rp9 := rp6.set1 (v := v6) eI9 (by omega) ka0 khl ka1
      have ob9 := ob6.put eI9 ka1 (by first | exact Or.inr rfl | exact Or.inl (by decide)) (by first | exact Or.inr rfl | exact Or.inl (by decide))
      have rw9 := rw6.putO hcx eI9 ka1 rfl
      have oc9 := oc6.putO eI9 ka1 rfl
      refine r_aload_n hC dX6_takeLake_43 0 rfl ?_
      refine r_ldcS hC (i := 2) (by decide) rfl rfl dX6_takeLake_44 ?_
      refine r_iconst hC (v := (1)) dX6_takeLake_46 (by decide) (by decide) (fun x10_ e10 t10 => ?_)
      refine r_bipush hC (v := (50)) dX6_takeLake_47 (by decide) (by decide) (fun x11_ e11 t11 => ?_)
      refine r_callV hC (As := [.ref (g.2.2.1 2), .int x10_, .int x11_]) (rest := []) (ci := 6) (f_X6_takeNumber g (xL X) K len I9 J6 R hs9 a0 ka0 2 (by decide) x10_ x11_ tk htk ktk tp bt hbt hkt hbb hkb nbt B n (hB.mv hF9 hkb (fun _ => rfl)) hn p6 hp6 tkp9) mT_2_239 mT_1_3 mT_2_236 mT_2_238 mP_6 okX6_takeNumber ⟨by decide, by decide⟩ rfl (by show kO (K a0) = _; rw [ka0]; rfl) rfl rfl (Nat.le_of_ble_eq_true rfl) ⟨by decide, by decide⟩ dX6_takeLake_49 (aI2 (F := fun st M => P g X 2 52 [(0, .ref a0), (1, .ref a1)] st _ _ M) (M := (K, len, I9, J6, R)) fun x12_ I12 J12 h12 => ?_)
      obtain ⟨hs12, hf12, hfj12, k12_0, k12_1, k12_2, k12_3⟩ := h12
      show P g X 2 52 [(0, .ref a0), (1, .ref a1)] [.int x12_] _ _ (K, len, I12, J12, R)
      have hF12 : Fr K [(3, 0), (3, 1), (3, 2), (3, 3), (7, 4), (7, 5), (7, 6), (8, 2), (8, 3), (8, 4)] I I12 := hF9.trans hf12 rfl rfl
      have hFJ12 : Fr K [(8, 5)] J J12 := hFJ6.trans hfj12 rfl rfl
      have rw12 := rw9.mv hcx qC_big hf12 rfl
      have oc12 := oc9.mv qC_big hf12 rfl
      have rp12 := rp9.mv hf12 hfj12 ka0 khl ka1 knr kpr rfl (fun _ => rfl) (fun _ => rfl)
      have ob12 := ob9.mv hf12 rfl
      rcases k12_3 with ⟨hr12, v12, p12, hsp12, hp12, tk12, hw12, fl12⟩ | ⟨hr12, kf12, qf12, hsp12, hf112, hf212⟩
      · have fq12 : I12 a0 5 = I a0 5 := fl12.trans fp9
        rw [show x10_.toInt = 1 by omega, show x11_.toInt = 50 by omega] at hsp12
        refine r_if_ne hC (tgt := 57) dX6_takeLake_52 (by decide) (fun c13 => ?_) (fun c13 => ?_)
        rotate_left
        · exfalso; omega
        refine r_aload_n hC dX6_takeLake_57 1 rfl ?_
        refine r_aload_n hC dX6_takeLake_58 0 rfl ?_
        refine r_geti hC 4 (ci := 6) rfl u6_in (by decide) mT_1_85 dX6_takeLake_59 ka0 rfl rfl (fun x14_ e14 => ?_)
        have f14 : x14_.toInt = (I12 a0 4).toInt := by rw [e14]
        refine r_puti hC 2 (ci := 2) rfl u2_in tyX2_ok nmX2 (by decide) mT_1_124 rfl rfl rfl dX6_takeLake_62 ka1 rfl rfl (fun I15 eI15 => ?_)
        have hs15 := hs12.put0 eI15 ka1 rfl rfl rfl (by decide)
        have hF15 := hF12.put eI15 ka1 rfl
        have fp15 : I15 a0 5 = I a0 5 := (up2_kk eI15 ka1 ka0 (by decide)).trans fq12
        have tkp15 := tk12.put eI15 ka1 ktk (by decide)
        have rc15 : (I12 a1 2).toInt = (upD D 0 1 v6) 0 2 := rp12.1.2.2.1
        have rp15 := rp12.set2 (v := v12) eI15 (by omega) ka0 khl ka1
        have ob15 := ob12.put eI15 ka1 (by first | exact Or.inr rfl | exact Or.inl (by decide)) (by first | exact Or.inr rfl | exact Or.inl (by decide))
        have rw15 := rw12.putO hcx eI15 ka1 rfl
        have oc15 := oc12.putO eI15 ka1 rfl
        refine r_aload_n hC dX6_takeLake_65 0 rfl ?_
        refine r_ldcS hC (i := 3) (by decide) rfl rfl dX6_takeLake_66 ?_
        refine r_iconst hC (v := (1)) dX6_takeLake_68 (by decide) (by decide) (fun x16_ e16 t16 => ?_)
        refine r_aload_n hC dX6_takeLake_69 1 rfl ?_
        refine r_geti hC 1 (ci := 2) rfl u2_in (by decide) mT_1_120 dX6_takeLake_70 ka1 rfl rfl (fun x17_ e17 => ?_)
        have f17 : x17_.toInt = (I15 a1 1).toInt := by rw [e17]
        have w17 : x17_ = x8_ := by rw [e17]; exact (Eq.trans (up2_at (Or.inr (by decide)) eI15) (Eq.trans (hf12.get ka1 rfl) (by rw [eI9]; exact up2_self _ _ _ _)))
        have wt17 : x17_.toInt = x8_.toInt := by rw [w17]
        refine r_mmax hC mT_3_10 mT_3_11 mT_1_12 mT_3_12 (by decide) (Nat.le_of_ble_eq_true rfl) (Nat.zero_le _) (Nat.zero_le _) dX6_takeLake_73 (fun x18_ e18 t18a t18b t18c => ?_)
        refine r_sipush hC (v := (999)) dX6_takeLake_76 (by decide) (by decide) (fun x19_ e19 t19 => ?_)
        refine r_callV hC (As := [.ref (g.2.2.1 3), .int x18_, .int x19_]) (rest := []) (ci := 6) (f_X6_takeNumber g (xL X) K len I15 J12 R hs15 a0 ka0 3 (by decide) x18_ x19_ tk htk ktk tp bt hbt hkt hbb hkb nbt B n (hB.mv hF15 hkb (fun _ => rfl)) hn p12 hp12 tkp15) mT_2_239 mT_1_3 mT_2_236 mT_2_238 mP_6 okX6_takeNumber ⟨by decide, by decide⟩ rfl (by show kO (K a0) = _; rw [ka0]; rfl) rfl rfl (Nat.le_of_ble_eq_true rfl) ⟨by decide, by decide⟩ dX6_takeLake_79 (aI2 (F := fun st M => P g X 2 82 [(0, .ref a0), (1, .ref a1)] st _ _ M) (M := (K, len, I15, J12, R)) fun x20_ I20 J20 h20 => ?_)
        obtain ⟨hs20, hf20, hfj20, k20_0, k20_1, k20_2, k20_3⟩ := h20
        show P g X 2 82 [(0, .ref a0), (1, .ref a1)] [.int x20_] _ _ (K, len, I20, J20, R)
        have hF20 : Fr K [(3, 0), (3, 1), (3, 2), (3, 3), (7, 4), (7, 5), (7, 6), (8, 2), (8, 3), (8, 4)] I I20 := hF15.trans hf20 rfl rfl
        have hFJ20 : Fr K [(8, 5)] J J20 := hFJ12.trans hfj20 rfl rfl
        have rw20 := rw15.mv hcx qC_big hf20 rfl
        have oc20 := oc15.mv qC_big hf20 rfl
        have rp20 := rp15.mv hf20 hfj20 ka0 khl ka1 knr kpr rfl (fun _ => rfl) (fun _ => rfl)
        have ob20 := ob15.mv hf20 rfl
        rcases k20_3 with ⟨hr20, v20, p20, hsp20, hp20, tk20, hw20, fl20⟩ | ⟨hr20, kf20, qf20, hsp20, hf120, hf220⟩
        · have fq20 : I20 a0 5 = I a0 5 := fl20.trans fp15
          rw [show x18_.toInt = max 1 v6 by omega, show x19_.toInt = 999 by omega] at hsp20
          refine r_if_ne hC (tgt := 87) dX6_takeLake_82 (by decide) (fun c21 => ?_) (fun c21 => ?_)
          rotate_left
          · exfalso; omega
          refine r_aload_n hC dX6_takeLake_87 1 rfl ?_
          refine r_aload_n hC dX6_takeLake_88 0 rfl ?_
          refine r_geti hC 4 (ci := 6) rfl u6_in (by decide) mT_1_85 dX6_takeLake_89 ka0 rfl rfl (fun x22_ e22 => ?_)
          have f22 : x22_.toInt = (I20 a0 4).toInt := by rw [e22]
          refine r_puti hC 3 (ci := 2) rfl u2_in tyX2_ok nmX2 (by decide) mT_1_126 rfl rfl rfl dX6_takeLake_92 ka1 rfl rfl (fun I23 eI23 => ?_)
          have hs23 := hs20.put0 eI23 ka1 rfl rfl rfl (by decide)
          have hF23 := hF20.put eI23 ka1 rfl
          have fp23 : I23 a0 5 = I a0 5 := (up2_kk eI23 ka1 ka0 (by decide)).trans fq20
          have tkp23 := tk20.put eI23 ka1 ktk (by decide)
          have rc23 : (I20 a1 3).toInt = (upD (upD D 0 1 v6) 0 2 v12) 0 3 := rp20.1.2.2.2.1
          have rp23 := rp20.set3 (v := v20) eI23 (by omega) ka0 khl ka1
          have ob23 := ob20.put eI23 ka1 (by first | exact Or.inr rfl | exact Or.inl (by decide)) (by first | exact Or.inr rfl | exact Or.inl (by decide))
          have rw23 := rw20.putO hcx eI23 ka1 rfl
          have oc23 := oc20.putO eI23 ka1 rfl
          refine r_aload_n hC dX6_takeLake_95 1 rfl ?_
          refine r_iconst hC (v := (1)) dX6_takeLake_96 (by decide) (by decide) (fun x24_ e24 t24 => ?_)
          refine r_puti hC 0 (ci := 2) rfl u2_in tyX2_ok nmX2 (by decide) mT_1_118 rfl (by rw [e24]; rfl) (by rw [e24]; rfl) dX6_takeLake_97 ka1 rfl rfl (fun I25 eI25 => ?_)
          have hs25 := hs23.put0 eI25 ka1 rfl rfl rfl (by decide)
          have hF25 := hF23.put eI25 ka1 rfl
          have fp25 : I25 a0 5 = I a0 5 := (up2_kk eI25 ka1 ka0 (by decide)).trans fp23
          have tkp25 := tkp23.put eI25 ka1 ktk (by decide)
          have rc25 : (I23 a1 0).toInt = (upD (upD (upD D 0 1 v6) 0 2 v12) 0 3 v20) 0 0 := rp23.1.1
          have rp25 := rp23.set0 (v := 1) eI25 (by omega) ka0 khl ka1
          have ob25 := ob23.put eI25 ka1 (by first | exact Or.inr rfl | exact Or.inl (by decide)) (by first | exact Or.inr rfl | exact Or.inl (by decide))
          have rw25 := rw23.putO hcx eI25 ka1 rfl
          have oc25 := oc23.putO eI25 ka1 rfl
          refine r_iconst hC (v := (1)) dX6_takeLake_100 (by decide) (by decide) (fun x26_ e26 t26 => ?_)
          exact r_iret hC hQ hlk hr (by rw [e26]; rfl) (by decide) (by decide) dX6_takeLake_101 ⟨_, _, _, rfl, rfl, ⟨hs25, hF25, hFJ20, (by omega), (by omega), (by first | (exfalso; omega) | exact Or.inl ⟨by omega, _, _, by unfold sLake; rw [pif_f (show ¬ D 0 0 ≠ 0 by omega), hsp6, bnd_ok, hsp12, bnd_ok, hsp20, bnd_ok], hp20, tkp25, (rp25).cg (by intro k; simp [upD, aLake]) (by intro k; simp [upD, aLake]) (by intro k; simp [upD, aLake]), rw25.lak, fp25⟩ | exact Or.inr ⟨by omega, kf20, qf20, by unfold sLake; rw [pif_f (show ¬ D 0 0 ≠ 0 by omega), hsp6, bnd_ok, hsp12, bnd_ok, hsp20, bnd_ok], hf120, hf220⟩ | exact Or.inr ⟨by omega, 3, _, by unfold sLake; rw [pif_f (show ¬ D 0 0 ≠ 0 by omega), hsp6, bnd_ok, hsp12, bnd_ok, hsp20, bnd_ok], by omega, by assumption⟩), (by exact ob25), (by exact oc25)⟩⟩
        · rw [show x18_.toInt = max 1 v6 by omega, show x19_.toInt = 999 by omega] at hsp20
          refine r_if_ne hC (tgt := 87) dX6_takeLake_82 (by decide) (fun c27 => ?_) (fun c27 => ?_)
          · exfalso; omega
          refine r_iconst hC (v := (0)) dX6_takeLake_85 (by decide) (by decide) (fun x28_ e28 t28 => ?_)
          exact r_iret hC hQ hlk hr (by rw [e28]; rfl) (by decide) (by decide) dX6_takeLake_86 ⟨_, _, _, rfl, rfl, ⟨hs20, hF20, hFJ20, (by omega), (by omega), (by first | (exfalso; omega) | exact Or.inl ⟨by omega, _, _, by unfold sLake; rw [pif_f (show ¬ D 0 0 ≠ 0 by omega), hsp6, bnd_ok, hsp12, bnd_ok, hsp20, bnd_er], hp12, NONE, (NONE).cg (by intro k; simp [upD, aLake]) (by intro k; simp [upD, aLake]) (by intro k; simp [upD, aLake]), NONE.lak, NONE⟩ | exact Or.inr ⟨by omega, kf20, qf20, by unfold sLake; rw [pif_f (show ¬ D 0 0 ≠ 0 by omega), hsp6, bnd_ok, hsp12, bnd_ok, hsp20, bnd_er], hf120, hf220⟩ | exact Or.inr ⟨by omega, 3, _, by unfold sLake; rw [pif_f (show ¬ D 0 0 ≠ 0 by omega), hsp6, bnd_ok, hsp12, bnd_ok, hsp20, bnd_er], by omega, by assumption⟩), (by exact ob20), (by exact oc20)⟩⟩
      · rw [show x10_.toInt = 1 by omega, show x11_.toInt = 50 by omega] at hsp12
        refine r_if_ne hC (tgt := 57) dX6_takeLake_52 (by decide) (fun c29 => ?_) (fun c29 => ?_)
        · exfalso; omega
        refine r_iconst hC (v := (0)) dX6_takeLake_55 (by decide) (by decide) (fun x30_ e30 t30 => ?_)
        exact r_iret hC hQ hlk hr (by rw [e30]; rfl) (by decide) (by decide) dX6_takeLake_56 ⟨_, _, _, rfl, rfl, ⟨hs12, hF12, hFJ12, (by omega), (by omega), (by first | (exfalso; omega) | exact Or.inl ⟨by omega, _, _, by unfold sLake; rw [pif_f (show ¬ D 0 0 ≠ 0 by omega), hsp6, bnd_ok, hsp12, bnd_er], hp6, NONE, (NONE).cg (by intro k; simp [upD, aLake]) (by intro k; simp [upD, aLake]) (by intro k; simp [upD, aLake]), NONE.lak, NONE⟩ | exact Or.inr ⟨by omega, kf12, qf12, by unfold sLake; rw [pif_f (show ¬ D 0 0 ≠ 0 by omega), hsp6, bnd_ok, hsp12, bnd_er], hf112, hf212⟩ | exact Or.inr ⟨by omega, 3, _, by unfold sLake; rw [pif_f (show ¬ D 0 0 ≠ 0 by omega), hsp6, bnd_ok, hsp12, bnd_er], by omega, by assumption⟩), (by exact ob12), (by exact oc12)⟩⟩
    · rw [show x4_.toInt = 0 by omega, show x5_.toInt = 500 by omega] at hsp6
      refine r_if_ne hC (tgt := 35) dX6_takeLake_30 (by decide) (fun c31 => ?_) (fun c31 => ?_)
      · exfalso; omega
      refine r_iconst hC (v := (0)) dX6_takeLake_33 (by decide) (by decide) (fun x32_ e32 t32 => ?_)
      exact r_iret hC hQ hlk hr (by rw [e32]; rfl) (by decide) (by decide) dX6_takeLake_34 ⟨_, _, _, rfl, rfl, ⟨hs6, hF6, hFJ6, (by omega), (by omega), (by first | (exfalso; omega) | exact Or.inl ⟨by omega, _, _, by unfold sLake; rw [pif_f (show ¬ D 0 0 ≠ 0 by omega), hsp6, bnd_er], (nx_le hp).2, NONE, (NONE).cg (by intro k; simp [upD, aLake]) (by intro k; simp [upD, aLake]) (by intro k; simp [upD, aLake]), NONE.lak, NONE⟩ | exact Or.inr ⟨by omega, kf6, qf6, by unfold sLake; rw [pif_f (show ¬ D 0 0 ≠ 0 by omega), hsp6, bnd_er], hf16, hf26⟩ | exact Or.inr ⟨by omega, 3, _, by unfold sLake; rw [pif_f (show ¬ D 0 0 ≠ 0 by omega), hsp6, bnd_er], by omega, by assumption⟩), (by exact ob6), (by exact oc6)⟩⟩
  · refine r_aload_n hC dX6_takeLake_7 0 rfl ?_
    refine r_iconst hC (v := (3)) dX6_takeLake_8 (by decide) (by decide) (fun x33_ e33 t33 => ?_)
    refine r_callV hC (As := [.int x33_]) (rest := []) (ci := 6) (f_X6_faulty g (xL X) K len I J R hs a0 ka0 x33_ tk htk ktk tp bt hbt hkt hbb hkb nbt B n (hB.mv hF hkb (fun _ => rfl)) hn p hp tkc) mT_2_233 mT_1_3 mT_2_230 mT_2_232 mP_5 okX6_faulty ⟨by decide, by decide⟩ rfl (by show kO (K a0) = _; rw [ka0]; rfl) rfl rfl (Nat.le_of_ble_eq_true rfl) ⟨by decide, by decide⟩ dX6_takeLake_9 (aI1 (F := fun st M => P g X 2 12 [(0, .ref a0), (1, .ref a1)] st _ _ M) (M := (K, len, I, J, R)) fun x34_ I34 h34 => ?_)
    obtain ⟨hs34, hf34, k34_0, k34_1, k34_2⟩ := h34
    show P g X 2 12 [(0, .ref a0), (1, .ref a1)] [.int x34_] _ _ (K, len, I34, J, R)
    have hF34 : Fr K [(3, 0), (3, 1), (3, 2), (3, 3), (7, 4), (7, 5), (7, 6), (8, 2), (8, 3), (8, 4)] I I34 := hF.trans hf34 rfl rfl
    have tkm34 := tkc.mvI hf34 ktk rfl rfl rfl rfl
    have rw34 := rwd.mv hcx qC_big hf34 rfl
    have oc34 := oc.mv qC_big hf34 rfl
    have rp34 := rep.mvI hf34 ka0 khl ka1 rfl
    have ob34 := ob.mv hf34 rfl
    exact r_iret hC hQ hlk hr (nz_b (by omega) (by omega)) (by decide) (by decide) dX6_takeLake_12 ⟨_, _, _, rfl, rfl, ⟨hs34, hF34, hFJ, (by omega), (by omega), (by first | (exfalso; omega) | exact Or.inl ⟨by omega, _, _, by unfold sLake; rw [pif_t (show D 0 0 ≠ 0 by omega)], hp, tkm34, (rp34).cg (by intro k; simp [upD, aLake]) (by intro k; simp [upD, aLake]) (by intro k; simp [upD, aLake]), rw34.lak, NONE⟩ | exact Or.inr ⟨by omega, kf34, qf34, by unfold sLake; rw [pif_t (show D 0 0 ≠ 0 by omega)], hf134, hf234⟩ | exact Or.inr ⟨by omega, 3, _, by unfold sLake; rw [pif_t (show D 0 0 ≠ 0 by omega)], by omega, by assumption⟩), (by exact ob34), (by exact oc34)⟩⟩
set_option maxHeartbeats 4000000 in
set_option maxRecDepth 100000 in
theorem f_X6_takePeg (g : GG) (l : Launch) (K len : Nat → Nat) (I : Nat → Nat → Int32) (J : Nat → Nat → Int64) (R : Nat → Nat → Option Nat) (hs : Sf K len I R) (a0 : Nat) (ka0 : K a0 = 7) (a1 : Nat) (ka1 : K a1 = 2) (tk : Nat) (htk : R a0 0 = some tk) (ktk : K tk = 8) (tp : Nat) (bt : Nat) (hbt : R tk 0 = some tp) (hkt : K tp = 6) (hbb : R tp 0 = some bt) (hkb : K bt = 40) (nbt : len bt = 900) (B : Nat → Int) (n : Nat) (hB : BT B n bt I) (hn : n ≤ 900) (p : Nat) (hp : p ≤ n) (tkc : TkC B n tk p I J) (nr : Nat) (hnr : R a0 1 = some nr) (knr : K nr = 42) (lnr : len nr = 19) (pr : Nat) (hpr : R a0 2 = some pr) (kpr : K pr = 48) (lpr : len pr = 5) (lk : Nat) (hlkr : R a1 0 = some lk) (klk : K lk = 3) (D : DD) (hD : DI D) (rep : RpC D a0 nr pr a1 lk I J) (hu : UU K R) (rwd : RW (CC a1 lk R) (cntN D) D I) (hJ : DJ D) : Ct g l yX6_takePeg cX6_takePeg 3 (Option.some Jvm.ClassFile.FieldType.boolean) rmX6_takePeg [.ref a0, .ref a1] (K, len, I, J, R) (pI2 (K, len, I, J, R) (fun r I' J' => Sf K len I' R ∧ Fr K [(2, 1), (7, 3), (7, 4), (7, 5), (7, 6), (8, 2), (8, 3), (8, 4), (55, 999), (56, 999)] I I' ∧ Fr K [(8, 5), (42, 999), (48, 999)] J J' ∧ (0 ≤ r.toInt) ∧ (r.toInt ≤ 1) ∧ (r.toInt = 1 ∧ (∃ (D' : DD) (p' : Nat), sPeg B n p D = .ok (D', p') ∧ p' ≤ n ∧ TkC B n tk p' I' J' ∧ RpC D' a0 nr pr a1 lk I' J' ∧ RW (CC a1 lk R) (cntN D') D' I' ∧ I' a0 5 = I a0 5) ∨ r.toInt = 0 ∧ (∃ (kf : Int) (qf : Nat), sPeg B n p D = .error (kf, qf) ∧ (I' a0 5).toInt = kf ∧ (I' a0 6).toInt = qf)) ∧ (OB K a1 lk I I') ∧ (OC (CC a1 lk R) qC K I I'))) := by
  refine Ct_intro (by decide +kernel) (Nat.le_of_ble_eq_true rfl) (fun X hC hL hKK hNm hr hlk hQ => ?_)
  subst hL
  have hC : Cx g X cX6_takePeg "HillTap$Teller" 3 rmX6_takePeg := hC
  show P g X 3 0 [(0, .ref a0), (1, .ref a1)] [] 0 0 (K, len, I, J, R)
  have hF : Fr K [(2, 1), (7, 3), (7, 4), (7, 5), (7, 6), (8, 2), (8, 3), (8, 4), (55, 999), (56, 999)] I I := Fr.refl
  have hFJ : Fr K [(8, 5), (42, 999), (48, 999)] J J := Fr.refl
  have tkc9 := tkc
  obtain ⟨tk3, tk4, tk2, tk1, tk5⟩ := tkc9
  have hnp : nr ≠ pr := fun z => by rw [z, lpr] at lnr; exact absurd lnr (by decide)
  obtain ⟨hD0, ⟨hD1, hD2⟩, ⟨hD3, hD4⟩, ⟨hD5, hD6⟩, ⟨hD7, hD8⟩, ⟨hD9, hD10⟩, hD11, hD12⟩ := id hD
  obtain ⟨rs0, rs1, rs2, rs3, rs4, rs5, rs6, rs7, rs8, rs9, rs10⟩ := id rep.1
  have ob : OB K a1 lk I I := OB.rf
  have hcx := CC_x hs ka1 klk hu
  have oc : OC (CC a1 lk R) qC K I I := OC.rf
  refine r_aload_n hC dX6_takePeg_0 1 rfl ?_
  refine r_geti hC 1 (ci := 1) rfl u1_in (by decide) mT_1_186 dX6_takePeg_1 ka1 rfl rfl (fun x1_ e1 => ?_)
  have r1 := hs.rng ka1 rfl e1
  have f1 : x1_.toInt = (I a1 1).toInt := by rw [e1]
  refine r_istore_n hC (lv' := [(2, .int x1_), (0, .ref a0), (1, .ref a1)]) dX6_takePeg_4 (by decide) rfl ?_
  refine r_iload_n hC dX6_takePeg_5 0 rfl ?_
  refine r_iconst hC (v := (5)) dX6_takePeg_6 (by decide) (by decide) (fun x2_ e2 t2 => ?_)
  refine r_icmp_lt hC (tgt := 16) dX6_takePeg_7 (by decide) (fun c3 => ?_) (fun c3 => ?_)
  · refine r_aload_n hC dX6_takePeg_16 1 rfl ?_
    refine r_getr hC 0 (ci := 6) rfl u6_in (by decide) mT_1_81 dX6_takePeg_17 ka0 rfl rfl htk ?_
    refine r_callV hC (As := []) (rest := []) (ci := 7) (f_X7_next g (xL X) K len I J R hs tk ktk tp bt hbt hkt hbb hkb nbt B n (hB.mv hF hkb (fun _ => rfl)) hn (nx B n p) (nx_le hp).2 (tkc.2.2.1) (tkc.2.2.2.1)) mT_2_159 mT_1_4 mT_2_234 mT_2_157 mT_2_158 okX7_next ⟨by decide, by decide⟩ rfl (by show kO (K tk) = _; rw [ktk]; rfl) rfl rfl (Nat.le_of_ble_eq_true rfl) ⟨by decide, by decide⟩ dX6_takePeg_20 (aV2 (F := fun st M => P g X 3 23 [(2, .int x1_), (0, .ref a0), (1, .ref a1)] st _ _ M) (M := (K, len, I, J, R)) fun I4 J4 h4 => ?_)
    obtain ⟨hs4, hf4, hfj4, k4_0⟩ := h4
    show P g X 3 23 [(2, .int x1_), (0, .ref a0), (1, .ref a1)] [] _ _ (K, len, I4, J4, R)
    have hF4 : Fr K [(2, 1), (7, 3), (7, 4), (7, 5), (7, 6), (8, 2), (8, 3), (8, 4), (55, 999), (56, 999)] I I4 := hF.trans hf4 rfl rfl
    have hFJ4 : Fr K [(8, 5), (42, 999), (48, 999)] J J4 := hFJ.trans hfj4 rfl rfl
    have fp4 : I4 a0 5 = I a0 5 := (hf4.get ka0 rfl).trans rfl
    have rw4 := rwd.mv hcx qC_big hf4 rfl
    have oc4 := oc.mv qC_big hf4 rfl
    have rp4 := rep.mv hf4 hfj4 ka0 ka1 klk knr kpr rfl (fun _ => rfl) (fun _ => rfl)
    have ob4 := ob.mv hf4 rfl
    refine r_aload_n hC dX6_takePeg_23 1 rfl ?_
    refine r_getr hC 2 (ci := 6) rfl u6_in (by decide) mT_1_83 dX6_takePeg_24 ka0 rfl rfl hpr ?_
    refine r_iload_n hC dX6_takePeg_27 0 rfl ?_
    refine r_aload_n hC dX6_takePeg_28 1 rfl ?_
    refine r_getr hC 0 (ci := 6) rfl u6_in (by decide) mT_1_81 dX6_takePeg_29 ka0 rfl rfl htk ?_
    refine r_getj hC 5 (ci := 7) rfl u7_in (by decide) mT_1_66 dX6_takePeg_32 ktk rfl rfl (fun y5_ e5 => ?_)
    have fj5 : y5_.toInt = (J4 tk 5).toInt := by rw [e5]
    refine x_lastore hC kpr lpr (by decide) rfl rfl dX6_takePeg_35 (by omega) (by omega) (fun J6 eJ6 => ?_)
    have hFJ6 := hFJ4.put eJ6 kpr (inS_arr rfl _)
    have tkp6 := k4_0.putJ eJ6 kpr ktk (by decide)
    have rp6 := rp4.putP eJ6 (by have h9 := clampI (i := x1_) (by omega); have h8 := rp4.1.2.2.2.2.2.1; omega) hnp
    have pn6 : (J6 pr x1_.toNatClampNeg).toInt = y5_.toInt := by rw [eJ6, up2_self]
    refine r_aload_n hC dX6_takePeg_36 1 rfl ?_
    refine r_callV hC (As := []) (rest := []) (ci := 6) (f_X6_takeNewName g (xL X) K len I4 J6 R hs4 a0 ka0 tk htk ktk tp bt hbt hkt hbb hkb nbt B n (hB.mv hF4 hkb (fun _ => rfl)) hn (nx B n p) (nx_le hp).2 tkp6 nr hnr knr lnr pr hpr kpr lpr a1 ka1 lk klk D hD rp6 hu rw4 (by omega)) mT_3_21 mT_1_3 mT_3_18 mT_3_20 mP_9 okX6_takeNewName ⟨by decide, by decide⟩ rfl (by show kO (K a0) = _; rw [ka0]; rfl) rfl rfl (Nat.le_of_ble_eq_true rfl) ⟨by decide, by decide⟩ dX6_takePeg_37 (aI2 (F := fun st M => P g X 3 40 [(2, .int x1_), (0, .ref a0), (1, .ref a1)] st _ _ M) (M := (K, len, I4, J6, R)) fun x7_ I7 J7 h7 => ?_)
    obtain ⟨hs7, hf7, hfj7, k7_0, k7_1, k7_2, k7_3, k7_4, k7_5⟩ := h7
    show P g X 3 40 [(2, .int x1_), (0, .ref a0), (1, .ref a1)] [.int x7_] _ _ (K, len, I7, J7, R)
    have hF7 : Fr K [(2, 1), (7, 3), (7, 4), (7, 5), (7, 6), (8, 2), (8, 3), (8, 4), (55, 999), (56, 999)] I I7 := hF4.trans hf7 rfl rfl
    have hFJ7 : Fr K [(8, 5), (42, 999), (48, 999)] J J7 := hFJ6.trans hfj7 rfl rfl
    have oc7 := oc4.tr k7_4
    have ob7 := ob4.tr k7_3
    have jp7 : J7 pr = J6 pr := k7_5
    have pn7 : (J7 pr x1_.toNatClampNeg).toInt = y5_.toInt := by rw [jp7]; exact pn6
    rcases k7_2 with ⟨hr7, D7, p7, hsp7, hp7, tk7, rep7, rwL7, fl7⟩ | ⟨hr7, kf7, qf7, hsp7, hf17, hf27⟩
    · have fq7 : I7 a0 5 = I a0 5 := fl7.trans fp4
      have fz7_5 := sFresh_5 hsp7 (k := 5) (by decide)
      refine r_if_eq hC (tgt := 56) dX6_takePeg_40 (by decide) (fun c8 => ?_) (fun c8 => ?_)
      · exfalso; omega
      refine r_aload_n hC dX6_takePeg_43 1 rfl ?_
      refine r_ldcS hC (i := 10) (by decide) rfl rfl dX6_takePeg_44 ?_
      refine r_iconst hC (v := (0)) dX6_takePeg_46 (by decide) (by decide) (fun x9_ e9 t9 => ?_)
      refine r_sipush hC (v := (999)) dX6_takePeg_47 (by decide) (by decide) (fun x10_ e10 t10 => ?_)
      refine r_callV hC (As := [.ref (g.2.2.1 10), .int x9_, .int x10_]) (rest := []) (ci := 6) (f_X6_takeNumber g (xL X) K len I7 J7 R hs7 a0 ka0 10 (by decide) x9_ x10_ tk htk ktk tp bt hbt hkt hbb hkb nbt B n (hB.mv hF7 hkb (fun _ => rfl)) hn p7 hp7 tk7) mT_2_239 mT_1_3 mT_2_236 mT_2_238 mP_6 okX6_takeNumber ⟨by decide, by decide⟩ rfl (by show kO (K a0) = _; rw [ka0]; rfl) rfl rfl (Nat.le_of_ble_eq_true rfl) ⟨by decide, by decide⟩ dX6_takePeg_50 (aI2 (F := fun st M => P g X 3 53 [(2, .int x1_), (0, .ref a0), (1, .ref a1)] st _ _ M) (M := (K, len, I7, J7, R)) fun x11_ I11 J11 h11 => ?_)
      obtain ⟨hs11, hf11, hfj11, k11_0, k11_1, k11_2, k11_3⟩ := h11
      show P g X 3 53 [(2, .int x1_), (0, .ref a0), (1, .ref a1)] [.int x11_] _ _ (K, len, I11, J11, R)
      have hF11 : Fr K [(2, 1), (7, 3), (7, 4), (7, 5), (7, 6), (8, 2), (8, 3), (8, 4), (55, 999), (56, 999)] I I11 := hF7.trans hf11 rfl rfl
      have hFJ11 : Fr K [(8, 5), (42, 999), (48, 999)] J J11 := hFJ7.trans hfj11 rfl rfl
      have rw11 := rwL7.mv hcx qC_big hf11 rfl
      have oc11 := oc7.mv qC_big hf11 rfl
      have rp11 := rep7.mv hf11 hfj11 ka0 ka1 klk knr kpr rfl (fun _ => rfl) (fun _ => rfl)
      have ob11 := ob7.mv hf11 rfl
      have jp11 : J11 pr = J7 pr := funext fun j => hfj11.get kpr rfl
      have pn11 : (J11 pr x1_.toNatClampNeg).toInt = y5_.toInt := by rw [jp11]; exact pn7
      rcases k11_3 with ⟨hr11, v11, p11, hsp11, hp11, tk11, hw11, fl11⟩ | ⟨hr11, kf11, qf11, hsp11, hf111, hf211⟩
      · have fq11 : I11 a0 5 = I a0 5 := fl11.trans fq7
        rw [show x9_.toInt = 0 by omega, show x10_.toInt = 999 by omega] at hsp11
        refine r_if_ne hC (tgt := 58) dX6_takePeg_53 (by decide) (fun c12 => ?_) (fun c12 => ?_)
        rotate_left
        · exfalso; omega
        refine r_aload_n hC dX6_takePeg_58 2 rfl ?_
        obtain ⟨a13_, hb13, hk13, hn13⟩ := hs11.row ka1 2 55 5 (by decide) (by decide)
        refine r_getr hC 2 (ci := 1) rfl u1_in (by decide) mT_1_189 dX6_takePeg_59 ka1 rfl rfl hb13 ?_
        refine r_iload_n hC dX6_takePeg_62 0 rfl ?_
        refine r_aload_n hC dX6_takePeg_63 1 rfl ?_
        refine r_geti hC 4 (ci := 6) rfl u6_in (by decide) mT_1_85 dX6_takePeg_64 ka0 rfl rfl (fun x14_ e14 => ?_)
        have f14 : x14_.toInt = (I11 a0 4).toInt := by rw [e14]
        refine x_iastore hC hk13 hn13 (by decide) rfl rfl dX6_takePeg_67 (by omega) (by omega) (fun I15 eI15 => ?_)
        have hs15 := hs11.put0 eI15 hk13 (rng_arr (by decide) _) rfl (xF_arr (by decide) _) (by decide)
        have hF15 := hF11.put eI15 hk13 (inS_arr rfl _)
        have fp15 : I15 a0 5 = I a0 5 := (up2_kk eI15 hk13 ka0 (by decide)).trans fq11
        have tkp15 := tk11.put eI15 hk13 ktk (by decide)
        have rp15 := rp11.putA eI15 hk13 ka0 ka1 klk rfl
        have ob15 := ob11.put eI15 hk13 (by first | exact Or.inr rfl | exact Or.inl (by decide)) (by first | exact Or.inr rfl | exact Or.inl (by decide))
        have rw15 := rw11.put hcx (r0 := 1) (j0 := x1_.toNatClampNeg) (w := v11) (cCt (r := 1) rfl hb13) eI15 (by omega) (show ((x1_.toNatClampNeg : Nat) : Int) = D7 0 5 from by have h9 := clampI (i := x1_) (by omega); omega) (fun h9 => absurd h9 (by decide))
        have oc15 := oc11.put (cCt (r := 1) rfl hb13) eI15
        refine r_aload_n hC dX6_takePeg_68 1 rfl ?_
        refine r_ldcS hC (i := 11) (by decide) rfl rfl dX6_takePeg_69 ?_
        refine r_iconst hC (v := (0)) dX6_takePeg_71 (by decide) (by decide) (fun x16_ e16 t16 => ?_)
        refine r_sipush hC (v := (999)) dX6_takePeg_72 (by decide) (by decide) (fun x17_ e17 t17 => ?_)
        refine r_callV hC (As := [.ref (g.2.2.1 11), .int x16_, .int x17_]) (rest := []) (ci := 6) (f_X6_takeNumber g (xL X) K len I15 J11 R hs15 a0 ka0 11 (by decide) x16_ x17_ tk htk ktk tp bt hbt hkt hbb hkb nbt B n (hB.mv hF15 hkb (fun _ => rfl)) hn p11 hp11 tkp15) mT_2_239 mT_1_3 mT_2_236 mT_2_238 mP_6 okX6_takeNumber ⟨by decide, by decide⟩ rfl (by show kO (K a0) = _; rw [ka0]; rfl) rfl rfl (Nat.le_of_ble_eq_true rfl) ⟨by decide, by decide⟩ dX6_takePeg_75 (aI2 (F := fun st M => P g X 3 78 [(2, .int x1_), (0, .ref a0), (1, .ref a1)] st _ _ M) (M := (K, len, I15, J11, R)) fun x18_ I18 J18 h18 => ?_)
        obtain ⟨hs18, hf18, hfj18, k18_0, k18_1, k18_2, k18_3⟩ := h18
        show P g X 3 78 [(2, .int x1_), (0, .ref a0), (1, .ref a1)] [.int x18_] _ _ (K, len, I18, J18, R)
        have hF18 : Fr K [(2, 1), (7, 3), (7, 4), (7, 5), (7, 6), (8, 2), (8, 3), (8, 4), (55, 999), (56, 999)] I I18 := hF15.trans hf18 rfl rfl
        have hFJ18 : Fr K [(8, 5), (42, 999), (48, 999)] J J18 := hFJ11.trans hfj18 rfl rfl
        have rw18 := rw15.mv hcx qC_big hf18 rfl
        have oc18 := oc15.mv qC_big hf18 rfl
        have rp18 := rp15.mv hf18 hfj18 ka0 ka1 klk knr kpr rfl (fun _ => rfl) (fun _ => rfl)
        have ob18 := ob15.mv hf18 rfl
        have jp18 : J18 pr = J11 pr := funext fun j => hfj18.get kpr rfl
        have pn18 : (J18 pr x1_.toNatClampNeg).toInt = y5_.toInt := by rw [jp18]; exact pn11
        rcases k18_3 with ⟨hr18, v18, p18, hsp18, hp18, tk18, hw18, fl18⟩ | ⟨hr18, kf18, qf18, hsp18, hf118, hf218⟩
        · have fq18 : I18 a0 5 = I a0 5 := fl18.trans fp15
          rw [show x16_.toInt = 0 by omega, show x17_.toInt = 999 by omega] at hsp18
          refine r_if_ne hC (tgt := 83) dX6_takePeg_78 (by decide) (fun c19 => ?_) (fun c19 => ?_)
          rotate_left
          · exfalso; omega
          refine r_aload_n hC dX6_takePeg_83 2 rfl ?_
          obtain ⟨a20_, hb20, hk20, hn20⟩ := hs18.row ka1 3 56 5 (by decide) (by decide)
          refine r_getr hC 3 (ci := 1) rfl u1_in (by decide) mT_1_193 dX6_takePeg_84 ka1 rfl rfl hb20 ?_
          refine r_iload_n hC dX6_takePeg_87 0 rfl ?_
          refine r_aload_n hC dX6_takePeg_88 1 rfl ?_
          refine r_geti hC 4 (ci := 6) rfl u6_in (by decide) mT_1_85 dX6_takePeg_89 ka0 rfl rfl (fun x21_ e21 => ?_)
          have f21 : x21_.toInt = (I18 a0 4).toInt := by rw [e21]
          refine x_iastore hC hk20 hn20 (by decide) rfl rfl dX6_takePeg_92 (by omega) (by omega) (fun I22 eI22 => ?_)
          have hs22 := hs18.put0 eI22 hk20 (rng_arr (by decide) _) rfl (xF_arr (by decide) _) (by decide)
          have hF22 := hF18.put eI22 hk20 (inS_arr rfl _)
          have fp22 : I22 a0 5 = I a0 5 := (up2_kk eI22 hk20 ka0 (by decide)).trans fq18
          have tkp22 := tk18.put eI22 hk20 ktk (by decide)
          have rp22 := rp18.putA eI22 hk20 ka0 ka1 klk rfl
          have ob22 := ob18.put eI22 hk20 (by first | exact Or.inr rfl | exact Or.inl (by decide)) (by first | exact Or.inr rfl | exact Or.inl (by decide))
          have rw22 := rw18.put hcx (r0 := 2) (j0 := x1_.toNatClampNeg) (w := v18) (cCt (r := 2) rfl hb20) eI22 (by omega) (show ((x1_.toNatClampNeg : Nat) : Int) = D7 0 5 from by have h9 := clampI (i := x1_) (by omega); omega) (fun h9 => absurd h9 (by decide))
          have oc22 := oc18.put (cCt (r := 2) rfl hb20) eI22
          refine r_aload_n hC dX6_takePeg_93 2 rfl ?_
          refine r_dup hC dX6_takePeg_94 rfl ?_
          refine r_geti hC 1 (ci := 1) rfl u1_in (by decide) mT_1_186 dX6_takePeg_95 ka1 rfl rfl (fun x23_ e23 => ?_)
          have r23 := hs22.rng ka1 rfl e23
          have f23 : x23_.toInt = (I22 a1 1).toInt := by rw [e23]
          have w23 : x23_ = x1_ := by rw [e23]; exact (Eq.trans (up2_kk eI22 hk20 ka1 (by decide)) (Eq.trans (hf18.get ka1 rfl) (Eq.trans (up2_kk eI15 hk13 ka1 (by decide)) (Eq.trans (hf11.get ka1 rfl) (Eq.trans (hf7.get ka1 rfl) (Eq.trans (hf4.get ka1 rfl) e1.symm))))))
          have wt23 : x23_.toInt = x1_.toInt := by rw [w23]
          refine r_iconst hC (v := (1)) dX6_takePeg_98 (by decide) (by decide) (fun x24_ e24 t24 => ?_)
          refine r_iadd hC dX6_takePeg_99 (fun x25_ e25 => ?_)
          try have t25 : x25_.toInt = x23_.toInt + x24_.toInt := by rw [e25]; exact ti_add (by omega) (by omega)
          have hval : y5_.toInt = vl B n (nx B n p) := fj5.trans (k4_0.2.2.2.2 (Or.inl (sFresh_nm hsp7).1))
          have pnv := (pn18).trans hval
          have had5 := sFresh_5 hsp7 (k := 5) (by decide)
          refine r_puti hC 1 (ci := 1) rfl u1_in tyX1_ok nmX1 (by decide) mT_1_186 rfl rfl rfl dX6_takePeg_100 ka1 rfl rfl (fun I26 eI26 => ?_)
          have hs26 := hs22.put1 eI26 ka1 rfl (by omega) (by omega) rfl rfl (by decide)
          have hF26 := hF22.put eI26 ka1 rfl
          have fp26 : I26 a0 5 = I a0 5 := (up2_kk eI26 ka1 ka0 (by decide)).trans fp22
          have tkp26 := tkp22.put eI26 ka1 ktk (by decide)
          have rc26 : (I22 a1 1).toInt = D7 0 5 := rp22.1.2.2.2.2.2.1
          have rp26 := rp22.peg (i := x1_.toNatClampNeg) (v := vl B n (nx B n p)) (by have h9 := clampI (i := x1_) (by omega); omega) pnv eI26 (by omega) ka0 ka1 klk
          have ob26 := ob22.put eI26 ka1 (by first | exact Or.inr rfl | exact Or.inl (by decide)) (by first | exact Or.inr rfl | exact Or.inl (by decide))
          have rw26 := rw22.putO hcx eI26 ka1 rfl
          have oc26 := oc22.putO eI26 ka1 rfl
          refine r_iconst hC (v := (1)) dX6_takePeg_103 (by decide) (by decide) (fun x27_ e27 t27 => ?_)
          exact r_iret hC hQ hlk hr (by rw [e27]; rfl) (by decide) (by decide) dX6_takePeg_104 ⟨_, _, _, rfl, rfl, ⟨hs26, hF26, hFJ18, (by omega), (by omega), (by first | (exfalso; omega) | exact Or.inl ⟨by omega, _, _, by unfold sPeg; rw [pif_f (show ¬ 5 ≤ D 0 5 by omega), hsp7, bnd_ok, hsp11, bnd_ok, hsp18, bnd_ok], hp18, tkp26, (rp26).cg (by intro k; simp [upD, aPeg]) (by intro k; simp [upD, aPeg]) (by intro k; simp [upD, aPeg]), rw26.peg (by have h9 := clampI (i := x1_) (by omega); omega), fp26⟩ | exact Or.inr ⟨by omega, kf18, qf18, by unfold sPeg; rw [pif_f (show ¬ 5 ≤ D 0 5 by omega), hsp7, bnd_ok, hsp11, bnd_ok, hsp18, bnd_ok], hf118, hf218⟩ | exact Or.inr ⟨by omega, 5, _, by unfold sPeg; rw [pif_f (show ¬ 5 ≤ D 0 5 by omega), hsp7, bnd_ok, hsp11, bnd_ok, hsp18, bnd_ok], by omega, by assumption⟩), (by exact ob26), (by exact oc26)⟩⟩
        · rw [show x16_.toInt = 0 by omega, show x17_.toInt = 999 by omega] at hsp18
          refine r_if_ne hC (tgt := 83) dX6_takePeg_78 (by decide) (fun c28 => ?_) (fun c28 => ?_)
          · exfalso; omega
          refine r_iconst hC (v := (0)) dX6_takePeg_81 (by decide) (by decide) (fun x29_ e29 t29 => ?_)
          exact r_iret hC hQ hlk hr (by rw [e29]; rfl) (by decide) (by decide) dX6_takePeg_82 ⟨_, _, _, rfl, rfl, ⟨hs18, hF18, hFJ18, (by omega), (by omega), (by first | (exfalso; omega) | exact Or.inl ⟨by omega, _, _, by unfold sPeg; rw [pif_f (show ¬ 5 ≤ D 0 5 by omega), hsp7, bnd_ok, hsp11, bnd_ok, hsp18, bnd_er], hp11, NONE, (NONE).cg (by intro k; simp [upD, aPeg]) (by intro k; simp [upD, aPeg]) (by intro k; simp [upD, aPeg]), NONE.peg (by have h9 := clampI (i := x1_) (by omega); omega), NONE⟩ | exact Or.inr ⟨by omega, kf18, qf18, by unfold sPeg; rw [pif_f (show ¬ 5 ≤ D 0 5 by omega), hsp7, bnd_ok, hsp11, bnd_ok, hsp18, bnd_er], hf118, hf218⟩ | exact Or.inr ⟨by omega, 5, _, by unfold sPeg; rw [pif_f (show ¬ 5 ≤ D 0 5 by omega), hsp7, bnd_ok, hsp11, bnd_ok, hsp18, bnd_er], by omega, by assumption⟩), (by exact ob18), (by exact oc18)⟩⟩
      · rw [show x9_.toInt = 0 by omega, show x10_.toInt = 999 by omega] at hsp11
        refine r_if_ne hC (tgt := 58) dX6_takePeg_53 (by decide) (fun c30 => ?_) (fun c30 => ?_)
        · exfalso; omega
        refine r_iconst hC (v := (0)) dX6_takePeg_56 (by decide) (by decide) (fun x31_ e31 t31 => ?_)
        exact r_iret hC hQ hlk hr (by rw [e31]; rfl) (by decide) (by decide) dX6_takePeg_57 ⟨_, _, _, rfl, rfl, ⟨hs11, hF11, hFJ11, (by omega), (by omega), (by first | (exfalso; omega) | exact Or.inl ⟨by omega, _, _, by unfold sPeg; rw [pif_f (show ¬ 5 ≤ D 0 5 by omega), hsp7, bnd_ok, hsp11, bnd_er], hp7, NONE, (NONE).cg (by intro k; simp [upD, aPeg]) (by intro k; simp [upD, aPeg]) (by intro k; simp [upD, aPeg]), NONE.peg (by have h9 := clampI (i := x1) (by omega); omega), NONE⟩ | exact Or.inr ⟨by omega, kf11, qf11, by unfold sPeg; rw [pif_f (show ¬ 5 ≤ D 0 5 by omega), hsp7, bnd_ok, hsp11, bnd_er], hf111, hf211⟩ | exact Or.inr ⟨by omega, 5, _, by unfold sPeg; rw [pif_f (show ¬ 5 ≤ D 0 5 by omega), hsp7, bnd_ok, hsp11, bnd_er], by omega, by assumption⟩), (by exact ob11), (by exact oc11)⟩⟩
    · refine r_if_eq hC (tgt := 56) dX6_takePeg_40 (by decide) (fun c32 => ?_) (fun c32 => ?_)
      rotate_left
      · exfalso; omega
      refine r_iconst hC (v := (0)) dX6_takePeg_56 (by decide) (by decide) (fun x33_ e33 t33 => ?_)
      exact r_iret hC hQ hlk hr (by rw [e33]; rfl) (by decide) (by decide) dX6_takePeg_57 ⟨_, _, _, rfl, rfl, ⟨hs7, hF7, hFJ7, (by omega), (by omega), (by first | (exfalso; omega) | exact Or.inl ⟨by omega, _, _, by unfold sPeg; rw [pif_f (show ¬ 5 ≤ D 0 5 by omega), hsp7, bnd_er], (nx_le hp).2, NONE, (NONE).cg (by intro k; simp [upD, aPeg]) (by intro k; simp [upD, aPeg]) (by intro k; simp [upD, aPeg]), NONE.peg (by have h9 := clampI (i := x1) (by omega); omega), NONE⟩ | exact Or.inr ⟨by omega, kf7, qf7, by unfold sPeg; rw [pif_f (show ¬ 5 ≤ D 0 5 by omega), hsp7, bnd_er], hf17, hf27⟩ | exact Or.inr ⟨by omega, 5, _, by unfold sPeg; rw [pif_f (show ¬ 5 ≤ D 0 5 by omega), hsp7, bnd_er], by omega, by assumption⟩), (by exact ob7), (by exact oc7)⟩⟩
  · refine r_aload_n hC dX6_takePeg_10 1 rfl ?_
    refine r_iconst hC (v := (5)) dX6_takePeg_11 (by decide) (by decide) (fun x34_ e34 t34 => ?_)
    refine r_callV hC (As := [.int x34_]) (rest := []) (ci := 6) (f_X6_faulty g (xL X) K len I J R hs a0 ka0 x34_ tk htk ktk tp bt hbt hkt hbb hkb nbt B n (hB.mv hF hkb (fun _ => rfl)) hn p hp tkc) mT_2_233 mT_1_3 mT_2_230 mT_2_232 mP_5 okX6_faulty ⟨by decide, by decide⟩ rfl (by show kO (K a0) = _; rw [ka0]; rfl) rfl rfl (Nat.le_of_ble_eq_true rfl) ⟨by decide, by decide⟩ dX6_takePeg_12 (aI1 (F := fun st M => P g X 3 15 [(2, .int x1_), (0, .ref a0), (1, .ref a1)] st _ _ M) (M := (K, len, I, J, R)) fun x35_ I35 h35 => ?_)
    obtain ⟨hs35, hf35, k35_0, k35_1, k35_2⟩ := h35
    show P g X 3 15 [(2, .int x1_), (0, .ref a0), (1, .ref a1)] [.int x35_] _ _ (K, len, I35, J, R)
    have hF35 : Fr K [(2, 1), (7, 3), (7, 4), (7, 5), (7, 6), (8, 2), (8, 3), (8, 4), (55, 999), (56, 999)] I I35 := hF.trans hf35 rfl rfl
    have tkm35 := tkc.mvI hf35 ktk rfl rfl rfl rfl
    have rw35 := rwd.mv hcx qC_big hf35 rfl
    have oc35 := oc.mv qC_big hf35 rfl
    have rp35 := rep.mvI hf35 ka0 ka1 klk rfl
    have ob35 := ob.mv hf35 rfl
    exact r_iret hC hQ hlk hr (nz_b (by omega) (by omega)) (by decide) (by decide) dX6_takePeg_15 ⟨_, _, _, rfl, rfl, ⟨hs35, hF35, hFJ, (by omega), (by omega), (by first | (exfalso; omega) | exact Or.inl ⟨by omega, _, _, by unfold sPeg; rw [pif_t (show 5 ≤ D 0 5 by omega)], hp, tkm35, (rp35).cg (by intro k; simp [upD, aPeg]) (by intro k; simp [upD, aPeg]) (by intro k; simp [upD, aPeg]), rw35.peg (by have h9 := clampI (i := x1) (by omega); omega), NONE⟩ | exact Or.inr ⟨by omega, kf35, qf35, by unfold sPeg; rw [pif_t (show 5 ≤ D 0 5 by omega)], hf135, hf235⟩ | exact Or.inr ⟨by omega, 5, _, by unfold sPeg; rw [pif_t (show 5 ≤ D 0 5 by omega)], by omega, by assumption⟩), (by exact ob35), (by exact oc35)⟩⟩
set_option maxHeartbeats 4000000 in
set_option maxRecDepth 100000 in
theorem f_X6_takeFrom (g : GG) (l : Launch) (K len : Nat → Nat) (I : Nat → Nat → Int32) (J : Nat → Nat → Int64) (R : Nat → Nat → Option Nat) (hs : Sf K len I R) (a0 : Nat) (ka0 : K a0 = 7) (a1 : Nat) (ka1 : K a1 = 3) (tk : Nat) (htk : R a0 0 = some tk) (ktk : K tk = 8) (tp : Nat) (bt : Nat) (hbt : R tk 0 = some tp) (hkt : K tp = 6) (hbb : R tp 0 = some bt) (hkb : K bt = 40) (nbt : len bt = 900) (B : Nat → Int) (n : Nat) (hB : BT B n bt I) (hn : n ≤ 900) (p : Nat) (hp : p ≤ n) (tkc : TkC B n tk p I J) (nr : Nat) (hnr : R a0 1 = some nr) (knr : K nr = 42) (lnr : len nr = 19) (pr : Nat) (hpr : R a0 2 = some pr) (kpr : K pr = 48) (lpr : len pr = 5) (hl : Nat) (khl : K hl = 2) (D : DD) (hD : DI D) (rep : RpC D a0 nr pr hl a1 I J) (hu : UU K R) (rwd : RW (CC hl a1 R) (cntN D) D I) (hJ : DJ D) : Ct g l yX6_takeFrom cX6_takeFrom 3 (Option.some Jvm.ClassFile.FieldType.boolean) rmX6_takeFrom [.ref a0, .ref a1] (K, len, I, J, R) (pI2 (K, len, I, J, R) (fun r I' J' => Sf K len I' R ∧ Fr K [(3, 4), (7, 4), (7, 5), (7, 6), (8, 2), (8, 3), (8, 4), (63, 999), (64, 999)] I I' ∧ Fr K [(8, 5)] J J' ∧ (0 ≤ r.toInt) ∧ (r.toInt ≤ 1) ∧ (r.toInt = 1 ∧ (∃ (D' : DD) (p' : Nat), sFrom B n p D = .ok (D', p') ∧ p' ≤ n ∧ TkC B n tk p' I' J' ∧ RpC D' a0 nr pr hl a1 I' J' ∧ RW (CC hl a1 R) (cntN D') D' I' ∧ I' a0 5 = I a0 5) ∨ r.toInt = 0 ∧ (∃ (kf : Int) (qf : Nat), sFrom B n p D = .error (kf, qf) ∧ (I' a0 5).toInt = kf ∧ (I' a0 6).toInt = qf)) ∧ (OB K hl a1 I I') ∧ (OC (CC hl a1 R) qC K I I'))) := by
  refine Ct_intro (by decide +kernel) (Nat.le_of_ble_eq_true rfl) (fun X hC hL hKK hNm hr hlk hQ => ?_)
  subst hL
  have hC : Cx g X cX6_takeFrom "HillTap$Teller" 3 rmX6_takeFrom := hC
  show P g X 3 0 [(0, .ref a0), (1, .ref a1)] [] 0 0 (K, len, I, J, R)
  have hF : Fr K [(3, 4), (7, 4), (7, 5), (7, 6), (8, 2), (8, 3), (8, 4), (63, 999), (64, 999)] I I := Fr.refl
  have hFJ : Fr K [(8, 5)] J J := Fr.refl
  have tkc9 := tkc
  obtain ⟨tk3, tk4, tk2, tk1, tk5⟩ := tkc9
  have hnp : nr ≠ pr := fun z => by rw [z, lpr] at lnr; exact absurd lnr (by decide)
  obtain ⟨hD0, ⟨hD1, hD2⟩, ⟨hD3, hD4⟩, ⟨hD5, hD6⟩, ⟨hD7, hD8⟩, ⟨hD9, hD10⟩, hD11, hD12⟩ := id hD
  obtain ⟨rs0, rs1, rs2, rs3, rs4, rs5, rs6, rs7, rs8, rs9, rs10⟩ := id rep.1
  have ob : OB K hl a1 I I := OB.rf
  have hcx := CC_x hs khl ka1 hu
  have oc : OC (CC hl a1 R) qC K I I := OC.rf
  refine r_aload_n hC dX6_takeFrom_0 1 rfl ?_
  refine r_geti hC 4 (ci := 2) rfl u2_in (by decide) mT_1_129 dX6_takeFrom_1 ka1 rfl rfl (fun x1_ e1 => ?_)
  have r1 := hs.rng ka1 rfl e1
  have f1 : x1_.toInt = (I a1 4).toInt := by rw [e1]
  refine r_bipush hC (v := (8)) dX6_takeFrom_4 (by decide) (by decide) (fun x2_ e2 t2 => ?_)
  refine r_icmp_lt hC (tgt := 15) dX6_takeFrom_6 (by decide) (fun c3 => ?_) (fun c3 => ?_)
  · refine r_aload_n hC dX6_takeFrom_15 0 rfl ?_
    refine r_getr hC 0 (ci := 6) rfl u6_in (by decide) mT_1_81 dX6_takeFrom_16 ka0 rfl rfl htk ?_
    refine r_callV hC (As := []) (rest := []) (ci := 7) (f_X7_next g (xL X) K len I J R hs tk ktk tp bt hbt hkt hbb hkb nbt B n (hB.mv hF hkb (fun _ => rfl)) hn (nx B n p) (nx_le hp).2 (tkc.2.2.1) (tkc.2.2.2.1)) mT_2_159 mT_1_4 mT_2_234 mT_2_157 mT_2_158 okX7_next ⟨by decide, by decide⟩ rfl (by show kO (K tk) = _; rw [ktk]; rfl) rfl rfl (Nat.le_of_ble_eq_true rfl) ⟨by decide, by decide⟩ dX6_takeFrom_19 (aV2 (F := fun st M => P g X 3 22 [(0, .ref a0), (1, .ref a1)] st _ _ M) (M := (K, len, I, J, R)) fun I4 J4 h4 => ?_)
    obtain ⟨hs4, hf4, hfj4, k4_0⟩ := h4
    show P g X 3 22 [(0, .ref a0), (1, .ref a1)] [] _ _ (K, len, I4, J4, R)
    have hF4 : Fr K [(3, 4), (7, 4), (7, 5), (7, 6), (8, 2), (8, 3), (8, 4), (63, 999), (64, 999)] I I4 := hF.trans hf4 rfl rfl
    have hFJ4 : Fr K [(8, 5)] J J4 := hFJ.trans hfj4 rfl rfl
    have fp4 : I4 a0 5 = I a0 5 := (hf4.get ka0 rfl).trans rfl
    have rw4 := rwd.mv hcx qC_big hf4 rfl
    have oc4 := oc.mv qC_big hf4 rfl
    have rp4 := rep.mv hf4 hfj4 ka0 khl ka1 knr kpr rfl (fun _ => rfl) (fun _ => rfl)
    have ob4 := ob.mv hf4 rfl
    refine r_aload_n hC dX6_takeFrom_22 0 rfl ?_
    refine r_iconst hC (v := (0)) dX6_takeFrom_23 (by decide) (by decide) (fun x5_ e5 t5 => ?_)
    refine r_bipush hC (v := (59)) dX6_takeFrom_24 (by decide) (by decide) (fun x6_ e6 t6 => ?_)
    refine r_callV hC (As := [.int x5_, .int x6_]) (rest := []) (ci := 6) (f_X6_takeWhole g (xL X) K len I4 J4 R hs4 a0 ka0 x5_ x6_ tk htk ktk tp bt hbt hkt hbb hkb nbt B n (hB.mv hF4 hkb (fun _ => rfl)) hn (nx B n p) (nx_le hp).2 k4_0) mT_3_3 mT_1_3 mT_3_0 mT_3_2 mP_7 okX6_takeWhole ⟨by decide, by decide⟩ rfl (by show kO (K a0) = _; rw [ka0]; rfl) rfl rfl (Nat.le_of_ble_eq_true rfl) ⟨by decide, by decide⟩ dX6_takeFrom_26 (aI2 (F := fun st M => P g X 3 29 [(0, .ref a0), (1, .ref a1)] st _ _ M) (M := (K, len, I4, J4, R)) fun x7_ I7 J7 h7 => ?_)
    obtain ⟨hs7, hf7, hfj7, k7_0, k7_1, k7_2, k7_3⟩ := h7
    show P g X 3 29 [(0, .ref a0), (1, .ref a1)] [.int x7_] _ _ (K, len, I7, J7, R)
    have hF7 : Fr K [(3, 4), (7, 4), (7, 5), (7, 6), (8, 2), (8, 3), (8, 4), (63, 999), (64, 999)] I I7 := hF4.trans hf7 rfl rfl
    have hFJ7 : Fr K [(8, 5)] J J7 := hFJ4.trans hfj7 rfl rfl
    have rw7 := rw4.mv hcx qC_big hf7 rfl
    have oc7 := oc4.mv qC_big hf7 rfl
    have rp7 := rp4.mv hf7 hfj7 ka0 khl ka1 knr kpr rfl (fun _ => rfl) (fun _ => rfl)
    have ob7 := ob4.mv hf7 rfl
    rcases k7_3 with ⟨hr7, v7, p7, hsp7, hp7, tk7, hw7, fl7⟩ | ⟨hr7, kf7, qf7, hsp7, hf17, hf27⟩
    · have fq7 : I7 a0 5 = I a0 5 := fl7.trans fp4
      rw [show x5_.toInt = 0 by omega, show x6_.toInt = 59 by omega] at hsp7
      refine r_if_ne hC (tgt := 34) dX6_takeFrom_29 (by decide) (fun c8 => ?_) (fun c8 => ?_)
      rotate_left
      · exfalso; omega
      refine r_aload_n hC dX6_takeFrom_34 0 rfl ?_
      refine r_geti hC 4 (ci := 6) rfl u6_in (by decide) mT_1_85 dX6_takeFrom_35 ka0 rfl rfl (fun x9_ e9 => ?_)
      have f9 : x9_.toInt = (I7 a0 4).toInt := by rw [e9]
      refine r_istore_n hC (lv' := [(2, .int x9_), (0, .ref a0), (1, .ref a1)]) dX6_takeFrom_38 (by decide) rfl ?_
      refine r_aload_n hC dX6_takeFrom_39 1 rfl ?_
      refine r_ldcS hC (i := 12) (by decide) rfl rfl dX6_takeFrom_40 ?_
      refine r_iconst hC (v := (0)) dX6_takeFrom_42 (by decide) (by decide) (fun x10_ e10 t10 => ?_)
      refine r_sipush hC (v := (999)) dX6_takeFrom_43 (by decide) (by decide) (fun x11_ e11 t11 => ?_)
      refine r_callV hC (As := [.ref (g.2.2.1 12), .int x10_, .int x11_]) (rest := []) (ci := 6) (f_X6_takeNumber g (xL X) K len I7 J7 R hs7 a0 ka0 12 (by decide) x10_ x11_ tk htk ktk tp bt hbt hkt hbb hkb nbt B n (hB.mv hF7 hkb (fun _ => rfl)) hn p7 hp7 tk7) mT_2_239 mT_1_3 mT_2_236 mT_2_238 mP_6 okX6_takeNumber ⟨by decide, by decide⟩ rfl (by show kO (K a0) = _; rw [ka0]; rfl) rfl rfl (Nat.le_of_ble_eq_true rfl) ⟨by decide, by decide⟩ dX6_takeFrom_46 (aI2 (F := fun st M => P g X 3 49 [(2, .int x9_), (0, .ref a0), (1, .ref a1)] st _ _ M) (M := (K, len, I7, J7, R)) fun x12_ I12 J12 h12 => ?_)
      obtain ⟨hs12, hf12, hfj12, k12_0, k12_1, k12_2, k12_3⟩ := h12
      show P g X 3 49 [(2, .int x9_), (0, .ref a0), (1, .ref a1)] [.int x12_] _ _ (K, len, I12, J12, R)
      have hF12 : Fr K [(3, 4), (7, 4), (7, 5), (7, 6), (8, 2), (8, 3), (8, 4), (63, 999), (64, 999)] I I12 := hF7.trans hf12 rfl rfl
      have hFJ12 : Fr K [(8, 5)] J J12 := hFJ7.trans hfj12 rfl rfl
      have rw12 := rw7.mv hcx qC_big hf12 rfl
      have oc12 := oc7.mv qC_big hf12 rfl
      have rp12 := rp7.mv hf12 hfj12 ka0 khl ka1 knr kpr rfl (fun _ => rfl) (fun _ => rfl)
      have ob12 := ob7.mv hf12 rfl
      rcases k12_3 with ⟨hr12, v12, p12, hsp12, hp12, tk12, hw12, fl12⟩ | ⟨hr12, kf12, qf12, hsp12, hf112, hf212⟩
      · have fq12 : I12 a0 5 = I a0 5 := fl12.trans fq7
        rw [show x10_.toInt = 0 by omega, show x11_.toInt = 999 by omega] at hsp12
        refine r_if_ne hC (tgt := 54) dX6_takeFrom_49 (by decide) (fun c13 => ?_) (fun c13 => ?_)
        rotate_left
        · exfalso; omega
        refine r_aload_n hC dX6_takeFrom_54 2 rfl ?_
        refine r_iload_n hC dX6_takeFrom_55 0 rfl ?_
        refine r_aload_n hC dX6_takeFrom_56 1 rfl ?_
        refine r_geti hC 4 (ci := 6) rfl u6_in (by decide) mT_1_85 dX6_takeFrom_57 ka0 rfl rfl (fun x14_ e14 => ?_)
        have f14 : x14_.toInt = (I12 a0 4).toInt := by rw [e14]
        refine r_callV hC (As := [.int x9_, .int x14_]) (rest := []) (ci := 2) (f_X2_addFrom g (xL X) K len I12 J12 R hs12 a1 ka1 x9_ x14_ hl khl hu D (cntN D) rw12 (D 0 4).toNat (by have h9 := rp12.1.2.2.2.2.1; omega) (show D 0 4 = _ by omega) (show D 0 4 = _ by omega) v7 (by omega) v12 (by omega) (by omega)) mT_3_45 mT_1_6 mT_3_42 mT_3_43 mT_3_44 okX2_addFrom ⟨by decide, by decide⟩ rfl (by show kO (K a1) = _; rw [ka1]; rfl) rfl rfl (Nat.le_of_ble_eq_true rfl) ⟨by decide, by decide⟩ dX6_takeFrom_60 (aV1 (F := fun st M => P g X 3 63 [(2, .int x9_), (0, .ref a0), (1, .ref a1)] st _ _ M) (M := (K, len, I12, J12, R)) fun I15 h15 => ?_)
        obtain ⟨hs15, hf15, k15_0, k15_1, k15_2, k15_3, k15_4⟩ := h15
        show P g X 3 63 [(2, .int x9_), (0, .ref a0), (1, .ref a1)] [] _ _ (K, len, I15, J12, R)
        have hF15 : Fr K [(3, 4), (7, 4), (7, 5), (7, 6), (8, 2), (8, 3), (8, 4), (63, 999), (64, 999)] I I15 := hF12.trans hf15 rfl rfl
        have tkm15 := tk12.mvI hf15 ktk rfl rfl rfl rfl
        have fp15 : I15 a0 5 = I a0 5 := (hf15.get ka0 rfl).trans fq12
        have oc15 := oc12.tr k15_4
        have rc15 : (I12 a1 4).toInt = D 0 4 := rp12.1.2.2.2.2.1
        have rp15 := rp12.from1 (v := D 0 4 + 1) hf15 (by omega) ka0 khl ka1
        have ob15 := ob12.tr k15_2
        refine r_iconst hC (v := (1)) dX6_takeFrom_63 (by decide) (by decide) (fun x16_ e16 t16 => ?_)
        exact r_iret hC hQ hlk hr (by rw [e16]; rfl) (by decide) (by decide) dX6_takeFrom_64 ⟨_, _, _, rfl, rfl, ⟨hs15, hF15, hFJ12, (by omega), (by omega), (by first | (exfalso; omega) | exact Or.inl ⟨by omega, _, _, by unfold sFrom; rw [pif_f (show ¬ 8 ≤ D 0 4 by omega), hsp7, bnd_ok, hsp12, bnd_ok], hp12, tkm15, (rp15).cg (by intro k; simp [upD, aFrom]) (by intro k; simp [upD, aFrom]) (by intro k; simp [upD, aFrom]), k15_3.frm (by omega), fp15⟩ | exact Or.inr ⟨by omega, kf15, qf15, by unfold sFrom; rw [pif_f (show ¬ 8 ≤ D 0 4 by omega), hsp7, bnd_ok, hsp12, bnd_ok], hf115, hf215⟩ | exact Or.inr ⟨by omega, 5, _, by unfold sFrom; rw [pif_f (show ¬ 8 ≤ D 0 4 by omega), hsp7, bnd_ok, hsp12, bnd_ok], by omega, by assumption⟩), (by exact ob15), (by exact oc15)⟩⟩
      · rw [show x10_.toInt = 0 by omega, show x11_.toInt = 999 by omega] at hsp12
        refine r_if_ne hC (tgt := 54) dX6_takeFrom_49 (by decide) (fun c17 => ?_) (fun c17 => ?_)
        · exfalso; omega
        refine r_iconst hC (v := (0)) dX6_takeFrom_52 (by decide) (by decide) (fun x18_ e18 t18 => ?_)
        exact r_iret hC hQ hlk hr (by rw [e18]; rfl) (by decide) (by decide) dX6_takeFrom_53 ⟨_, _, _, rfl, rfl, ⟨hs12, hF12, hFJ12, (by omega), (by omega), (by first | (exfalso; omega) | exact Or.inl ⟨by omega, _, _, by unfold sFrom; rw [pif_f (show ¬ 8 ≤ D 0 4 by omega), hsp7, bnd_ok, hsp12, bnd_er], hp7, NONE, (NONE).cg (by intro k; simp [upD, aFrom]) (by intro k; simp [upD, aFrom]) (by intro k; simp [upD, aFrom]), NONE.frm (by omega), NONE⟩ | exact Or.inr ⟨by omega, kf12, qf12, by unfold sFrom; rw [pif_f (show ¬ 8 ≤ D 0 4 by omega), hsp7, bnd_ok, hsp12, bnd_er], hf112, hf212⟩ | exact Or.inr ⟨by omega, 5, _, by unfold sFrom; rw [pif_f (show ¬ 8 ≤ D 0 4 by omega), hsp7, bnd_ok, hsp12, bnd_er], by omega, by assumption⟩), (by exact ob12), (by exact oc12)⟩⟩
    · rw [show x5_.toInt = 0 by omega, show x6_.toInt = 59 by omega] at hsp7
      refine r_if_ne hC (tgt := 34) dX6_takeFrom_29 (by decide) (fun c19 => ?_) (fun c19 => ?_)
      · exfalso; omega
      refine r_iconst hC (v := (0)) dX6_takeFrom_32 (by decide) (by decide) (fun x20_ e20 t20 => ?_)
      exact r_iret hC hQ hlk hr (by rw [e20]; rfl) (by decide) (by decide) dX6_takeFrom_33 ⟨_, _, _, rfl, rfl, ⟨hs7, hF7, hFJ7, (by omega), (by omega), (by first | (exfalso; omega) | exact Or.inl ⟨by omega, _, _, by unfold sFrom; rw [pif_f (show ¬ 8 ≤ D 0 4 by omega), hsp7, bnd_er], (nx_le hp).2, NONE, (NONE).cg (by intro k; simp [upD, aFrom]) (by intro k; simp [upD, aFrom]) (by intro k; simp [upD, aFrom]), NONE.frm (by omega), NONE⟩ | exact Or.inr ⟨by omega, kf7, qf7, by unfold sFrom; rw [pif_f (show ¬ 8 ≤ D 0 4 by omega), hsp7, bnd_er], hf17, hf27⟩ | exact Or.inr ⟨by omega, 5, _, by unfold sFrom; rw [pif_f (show ¬ 8 ≤ D 0 4 by omega), hsp7, bnd_er], by omega, by assumption⟩), (by exact ob7), (by exact oc7)⟩⟩
  · refine r_aload_n hC dX6_takeFrom_9 0 rfl ?_
    refine r_iconst hC (v := (5)) dX6_takeFrom_10 (by decide) (by decide) (fun x21_ e21 t21 => ?_)
    refine r_callV hC (As := [.int x21_]) (rest := []) (ci := 6) (f_X6_faulty g (xL X) K len I J R hs a0 ka0 x21_ tk htk ktk tp bt hbt hkt hbb hkb nbt B n (hB.mv hF hkb (fun _ => rfl)) hn p hp tkc) mT_2_233 mT_1_3 mT_2_230 mT_2_232 mP_5 okX6_faulty ⟨by decide, by decide⟩ rfl (by show kO (K a0) = _; rw [ka0]; rfl) rfl rfl (Nat.le_of_ble_eq_true rfl) ⟨by decide, by decide⟩ dX6_takeFrom_11 (aI1 (F := fun st M => P g X 3 14 [(0, .ref a0), (1, .ref a1)] st _ _ M) (M := (K, len, I, J, R)) fun x22_ I22 h22 => ?_)
    obtain ⟨hs22, hf22, k22_0, k22_1, k22_2⟩ := h22
    show P g X 3 14 [(0, .ref a0), (1, .ref a1)] [.int x22_] _ _ (K, len, I22, J, R)
    have hF22 : Fr K [(3, 4), (7, 4), (7, 5), (7, 6), (8, 2), (8, 3), (8, 4), (63, 999), (64, 999)] I I22 := hF.trans hf22 rfl rfl
    have tkm22 := tkc.mvI hf22 ktk rfl rfl rfl rfl
    have rw22 := rwd.mv hcx qC_big hf22 rfl
    have oc22 := oc.mv qC_big hf22 rfl
    have rp22 := rep.mvI hf22 ka0 khl ka1 rfl
    have ob22 := ob.mv hf22 rfl
    exact r_iret hC hQ hlk hr (nz_b (by omega) (by omega)) (by decide) (by decide) dX6_takeFrom_14 ⟨_, _, _, rfl, rfl, ⟨hs22, hF22, hFJ, (by omega), (by omega), (by first | (exfalso; omega) | exact Or.inl ⟨by omega, _, _, by unfold sFrom; rw [pif_t (show 8 ≤ D 0 4 by omega)], hp, tkm22, (rp22).cg (by intro k; simp [upD, aFrom]) (by intro k; simp [upD, aFrom]) (by intro k; simp [upD, aFrom]), rw22.frm (by omega), NONE⟩ | exact Or.inr ⟨by omega, kf22, qf22, by unfold sFrom; rw [pif_t (show 8 ≤ D 0 4 by omega)], hf122, hf222⟩ | exact Or.inr ⟨by omega, 5, _, by unfold sFrom; rw [pif_t (show 8 ≤ D 0 4 by omega)], by omega, by assumption⟩), (by exact ob22), (by exact oc22)⟩⟩
set_option maxHeartbeats 4000000 in
set_option maxRecDepth 100000 in
theorem f_X6_takeRain (g : GG) (l : Launch) (K len : Nat → Nat) (I : Nat → Nat → Int32) (J : Nat → Nat → Int64) (R : Nat → Nat → Option Nat) (hs : Sf K len I R) (a0 : Nat) (ka0 : K a0 = 7) (a1 : Nat) (ka1 : K a1 = 2) (tk : Nat) (htk : R a0 0 = some tk) (ktk : K tk = 8) (tp : Nat) (bt : Nat) (hbt : R tk 0 = some tp) (hkt : K tp = 6) (hbb : R tp 0 = some bt) (hkb : K bt = 40) (nbt : len bt = 900) (B : Nat → Int) (n : Nat) (hB : BT B n bt I) (hn : n ≤ 900) (p : Nat) (hp : p ≤ n) (tkc : TkC B n tk p I J) (nr : Nat) (hnr : R a0 1 = some nr) (knr : K nr = 42) (lnr : len nr = 19) (pr : Nat) (hpr : R a0 2 = some pr) (kpr : K pr = 48) (lpr : len pr = 5) (lk : Nat) (hlkr : R a1 0 = some lk) (klk : K lk = 3) (D : DD) (hD : DI D) (rep : RpC D a0 nr pr a1 lk I J) (hu : UU K R) (rwd : RW (CC a1 lk R) (cntN D) D I) (hJ : DJ D) : Ct g l yX6_takeRain cX6_takeRain 3 (Option.some Jvm.ClassFile.FieldType.boolean) rmX6_takeRain [.ref a0, .ref a1] (K, len, I, J, R) (pI2 (K, len, I, J, R) (fun r I' J' => Sf K len I' R ∧ Fr K [(2, 4), (7, 4), (7, 5), (7, 6), (8, 2), (8, 3), (8, 4), (57, 999)] I I' ∧ Fr K [(8, 5)] J J' ∧ (0 ≤ r.toInt) ∧ (r.toInt ≤ 1) ∧ (r.toInt = 1 ∧ (∃ (D' : DD) (p' : Nat), sRain B n p D = .ok (D', p') ∧ p' ≤ n ∧ TkC B n tk p' I' J' ∧ RpC D' a0 nr pr a1 lk I' J' ∧ RW (CC a1 lk R) (cntN D') D' I' ∧ I' a0 5 = I a0 5) ∨ r.toInt = 0 ∧ (∃ (kf : Int) (qf : Nat), sRain B n p D = .error (kf, qf) ∧ (I' a0 5).toInt = kf ∧ (I' a0 6).toInt = qf)) ∧ (OB K a1 lk I I') ∧ (OC (CC a1 lk R) qC K I I'))) := by
  refine Ct_intro (by decide +kernel) (Nat.le_of_ble_eq_true rfl) (fun X hC hL hKK hNm hr hlk hQ => ?_)
  subst hL
  have hC : Cx g X cX6_takeRain "HillTap$Teller" 3 rmX6_takeRain := hC
  show P g X 3 0 [(0, .ref a0), (1, .ref a1)] [] 0 0 (K, len, I, J, R)
  have hF : Fr K [(2, 4), (7, 4), (7, 5), (7, 6), (8, 2), (8, 3), (8, 4), (57, 999)] I I := Fr.refl
  have hFJ : Fr K [(8, 5)] J J := Fr.refl
  have tkc9 := tkc
  obtain ⟨tk3, tk4, tk2, tk1, tk5⟩ := tkc9
  have hnp : nr ≠ pr := fun z => by rw [z, lpr] at lnr; exact absurd lnr (by decide)
  obtain ⟨hD0, ⟨hD1, hD2⟩, ⟨hD3, hD4⟩, ⟨hD5, hD6⟩, ⟨hD7, hD8⟩, ⟨hD9, hD10⟩, hD11, hD12⟩ := id hD
  obtain ⟨rs0, rs1, rs2, rs3, rs4, rs5, rs6, rs7, rs8, rs9, rs10⟩ := id rep.1
  have ob : OB K a1 lk I I := OB.rf
  have hcx := CC_x hs ka1 klk hu
  have oc : OC (CC a1 lk R) qC K I I := OC.rf
  refine r_aload_n hC dX6_takeRain_0 1 rfl ?_
  refine r_geti hC 4 (ci := 1) rfl u1_in (by decide) mT_1_195 dX6_takeRain_1 ka1 rfl rfl (fun x1_ e1 => ?_)
  have r1 := hs.rng ka1 rfl e1
  have f1 : x1_.toInt = (I a1 4).toInt := by rw [e1]
  refine r_bipush hC (v := (6)) dX6_takeRain_4 (by decide) (by decide) (fun x2_ e2 t2 => ?_)
  refine r_icmp_lt hC (tgt := 15) dX6_takeRain_6 (by decide) (fun c3 => ?_) (fun c3 => ?_)
  · refine r_aload_n hC dX6_takeRain_15 0 rfl ?_
    refine r_getr hC 0 (ci := 6) rfl u6_in (by decide) mT_1_81 dX6_takeRain_16 ka0 rfl rfl htk ?_
    refine r_callV hC (As := []) (rest := []) (ci := 7) (f_X7_next g (xL X) K len I J R hs tk ktk tp bt hbt hkt hbb hkb nbt B n (hB.mv hF hkb (fun _ => rfl)) hn (nx B n p) (nx_le hp).2 (tkc.2.2.1) (tkc.2.2.2.1)) mT_2_159 mT_1_4 mT_2_234 mT_2_157 mT_2_158 okX7_next ⟨by decide, by decide⟩ rfl (by show kO (K tk) = _; rw [ktk]; rfl) rfl rfl (Nat.le_of_ble_eq_true rfl) ⟨by decide, by decide⟩ dX6_takeRain_19 (aV2 (F := fun st M => P g X 3 22 [(0, .ref a0), (1, .ref a1)] st _ _ M) (M := (K, len, I, J, R)) fun I4 J4 h4 => ?_)
    obtain ⟨hs4, hf4, hfj4, k4_0⟩ := h4
    show P g X 3 22 [(0, .ref a0), (1, .ref a1)] [] _ _ (K, len, I4, J4, R)
    have hF4 : Fr K [(2, 4), (7, 4), (7, 5), (7, 6), (8, 2), (8, 3), (8, 4), (57, 999)] I I4 := hF.trans hf4 rfl rfl
    have hFJ4 : Fr K [(8, 5)] J J4 := hFJ.trans hfj4 rfl rfl
    have fp4 : I4 a0 5 = I a0 5 := (hf4.get ka0 rfl).trans rfl
    have rw4 := rwd.mv hcx qC_big hf4 rfl
    have oc4 := oc.mv qC_big hf4 rfl
    have rp4 := rep.mv hf4 hfj4 ka0 ka1 klk knr kpr rfl (fun _ => rfl) (fun _ => rfl)
    have ob4 := ob.mv hf4 rfl
    refine r_aload_n hC dX6_takeRain_22 0 rfl ?_
    refine r_iconst hC (v := (0)) dX6_takeRain_23 (by decide) (by decide) (fun x5_ e5 t5 => ?_)
    refine r_bipush hC (v := (59)) dX6_takeRain_24 (by decide) (by decide) (fun x6_ e6 t6 => ?_)
    refine r_callV hC (As := [.int x5_, .int x6_]) (rest := []) (ci := 6) (f_X6_takeWhole g (xL X) K len I4 J4 R hs4 a0 ka0 x5_ x6_ tk htk ktk tp bt hbt hkt hbb hkb nbt B n (hB.mv hF4 hkb (fun _ => rfl)) hn (nx B n p) (nx_le hp).2 k4_0) mT_3_3 mT_1_3 mT_3_0 mT_3_2 mP_7 okX6_takeWhole ⟨by decide, by decide⟩ rfl (by show kO (K a0) = _; rw [ka0]; rfl) rfl rfl (Nat.le_of_ble_eq_true rfl) ⟨by decide, by decide⟩ dX6_takeRain_26 (aI2 (F := fun st M => P g X 3 29 [(0, .ref a0), (1, .ref a1)] st _ _ M) (M := (K, len, I4, J4, R)) fun x7_ I7 J7 h7 => ?_)
    obtain ⟨hs7, hf7, hfj7, k7_0, k7_1, k7_2, k7_3⟩ := h7
    show P g X 3 29 [(0, .ref a0), (1, .ref a1)] [.int x7_] _ _ (K, len, I7, J7, R)
    have hF7 : Fr K [(2, 4), (7, 4), (7, 5), (7, 6), (8, 2), (8, 3), (8, 4), (57, 999)] I I7 := hF4.trans hf7 rfl rfl
    have hFJ7 : Fr K [(8, 5)] J J7 := hFJ4.trans hfj7 rfl rfl
    have rw7 := rw4.mv hcx qC_big hf7 rfl
    have oc7 := oc4.mv qC_big hf7 rfl
    have rp7 := rp4.mv hf7 hfj7 ka0 ka1 klk knr kpr rfl (fun _ => rfl) (fun _ => rfl)
    have ob7 := ob4.mv hf7 rfl
    rcases k7_3 with ⟨hr7, v7, p7, hsp7, hp7, tk7, hw7, fl7⟩ | ⟨hr7, kf7, qf7, hsp7, hf17, hf27⟩
    · have fq7 : I7 a0 5 = I a0 5 := fl7.trans fp4
      rw [show x5_.toInt = 0 by omega, show x6_.toInt = 59 by omega] at hsp7
      refine r_if_ne hC (tgt := 34) dX6_takeRain_29 (by decide) (fun c8 => ?_) (fun c8 => ?_)
      rotate_left
      · exfalso; omega
      refine r_aload_n hC dX6_takeRain_34 0 rfl ?_
      refine r_geti hC 4 (ci := 6) rfl u6_in (by decide) mT_1_85 dX6_takeRain_35 ka0 rfl rfl (fun x9_ e9 => ?_)
      have f9 : x9_.toInt = (I7 a0 4).toInt := by rw [e9]
      refine r_istore_n hC (lv' := [(2, .int x9_), (0, .ref a0), (1, .ref a1)]) dX6_takeRain_38 (by decide) rfl ?_
      refine r_aload_n hC dX6_takeRain_39 1 rfl ?_
      refine r_ldcS hC (i := 13) (by decide) rfl rfl dX6_takeRain_40 ?_
      refine r_iconst hC (v := (1)) dX6_takeRain_42 (by decide) (by decide) (fun x10_ e10 t10 => ?_)
      refine r_bipush hC (v := (99)) dX6_takeRain_43 (by decide) (by decide) (fun x11_ e11 t11 => ?_)
      refine r_callV hC (As := [.ref (g.2.2.1 13), .int x10_, .int x11_]) (rest := []) (ci := 6) (f_X6_takeNumber g (xL X) K len I7 J7 R hs7 a0 ka0 13 (by decide) x10_ x11_ tk htk ktk tp bt hbt hkt hbb hkb nbt B n (hB.mv hF7 hkb (fun _ => rfl)) hn p7 hp7 tk7) mT_2_239 mT_1_3 mT_2_236 mT_2_238 mP_6 okX6_takeNumber ⟨by decide, by decide⟩ rfl (by show kO (K a0) = _; rw [ka0]; rfl) rfl rfl (Nat.le_of_ble_eq_true rfl) ⟨by decide, by decide⟩ dX6_takeRain_45 (aI2 (F := fun st M => P g X 3 48 [(2, .int x9_), (0, .ref a0), (1, .ref a1)] st _ _ M) (M := (K, len, I7, J7, R)) fun x12_ I12 J12 h12 => ?_)
      obtain ⟨hs12, hf12, hfj12, k12_0, k12_1, k12_2, k12_3⟩ := h12
      show P g X 3 48 [(2, .int x9_), (0, .ref a0), (1, .ref a1)] [.int x12_] _ _ (K, len, I12, J12, R)
      have hF12 : Fr K [(2, 4), (7, 4), (7, 5), (7, 6), (8, 2), (8, 3), (8, 4), (57, 999)] I I12 := hF7.trans hf12 rfl rfl
      have hFJ12 : Fr K [(8, 5)] J J12 := hFJ7.trans hfj12 rfl rfl
      have rw12 := rw7.mv hcx qC_big hf12 rfl
      have oc12 := oc7.mv qC_big hf12 rfl
      have rp12 := rp7.mv hf12 hfj12 ka0 ka1 klk knr kpr rfl (fun _ => rfl) (fun _ => rfl)
      have ob12 := ob7.mv hf12 rfl
      rcases k12_3 with ⟨hr12, v12, p12, hsp12, hp12, tk12, hw12, fl12⟩ | ⟨hr12, kf12, qf12, hsp12, hf112, hf212⟩
      · have fq12 : I12 a0 5 = I a0 5 := fl12.trans fq7
        rw [show x10_.toInt = 1 by omega, show x11_.toInt = 99 by omega] at hsp12
        refine r_if_ne hC (tgt := 53) dX6_takeRain_48 (by decide) (fun c13 => ?_) (fun c13 => ?_)
        rotate_left
        · exfalso; omega
        refine r_aload_n hC dX6_takeRain_53 2 rfl ?_
        obtain ⟨a14_, hb14, hk14, hn14⟩ := hs12.row ka1 5 57 60 (by decide) (by decide)
        refine r_getr hC 5 (ci := 1) rfl u1_in (by decide) mT_1_198 dX6_takeRain_54 ka1 rfl rfl hb14 ?_
        refine r_iload_n hC dX6_takeRain_57 0 rfl ?_
        refine r_dup2 hC dX6_takeRain_58 rfl rfl ?_
        refine x_iaload hC hk14 hn14 (by decide) rfl rfl dX6_takeRain_59 (by omega) (by omega) (fun x15_ e15 => ?_)
        refine r_aload_n hC dX6_takeRain_60 1 rfl ?_
        refine r_geti hC 4 (ci := 6) rfl u6_in (by decide) mT_1_85 dX6_takeRain_61 ka0 rfl rfl (fun x16_ e16 => ?_)
        have f16 : x16_.toInt = (I12 a0 4).toInt := by rw [e16]
        have rx : x15_.toInt = D 5 (v7).toNat := by rw [e15, show x9_.toNatClampNeg = (v7).toNat from by have h9 := clampI (i := x9_) (by omega); omega]; exact rw12 5 _ _ _ (cCt (r := 5) rfl hb14) (show ((v7).toNat : Int) < 60 from by omega) (fun h9 => absurd h9 (by decide))
        have rb := hJ.1 (v7).toNat
        refine r_iadd hC dX6_takeRain_64 (fun x17_ e17 => ?_)
        try have t17 : x17_.toInt = x15_.toInt + x16_.toInt := by rw [e17]; exact ti_add (by omega) (by omega)
        refine x_iastore hC hk14 hn14 (by decide) rfl rfl dX6_takeRain_65 (by omega) (by omega) (fun I18 eI18 => ?_)
        have hs18 := hs12.put0 eI18 hk14 (rng_arr (by decide) _) rfl (xF_arr (by decide) _) (by decide)
        have hF18 := hF12.put eI18 hk14 (inS_arr rfl _)
        have fp18 : I18 a0 5 = I a0 5 := (up2_kk eI18 hk14 ka0 (by decide)).trans fq12
        have tkp18 := tk12.put eI18 hk14 ktk (by decide)
        have rp18 := rp12.putA eI18 hk14 ka0 ka1 klk rfl
        have ob18 := ob12.put eI18 hk14 (by first | exact Or.inr rfl | exact Or.inl (by decide)) (by first | exact Or.inr rfl | exact Or.inl (by decide))
        have jx18 : x9_.toNatClampNeg = (v7).toNat := by have h9 := clampI (i := x9_) (by omega); omega
        rw [jx18] at eI18
        have rw18 := rw12.ovr hcx (j0 := (v7).toNat) (w := D 5 (v7).toNat + v12) (cCt (r := 5) rfl hb14) eI18 (by omega) (by decide)
        have oc18 := oc12.put (cCt (r := 5) rfl hb14) eI18
        refine r_aload_n hC dX6_takeRain_66 2 rfl ?_
        refine r_dup hC dX6_takeRain_67 rfl ?_
        refine r_geti hC 4 (ci := 1) rfl u1_in (by decide) mT_1_195 dX6_takeRain_68 ka1 rfl rfl (fun x19_ e19 => ?_)
        have r19 := hs18.rng ka1 rfl e19
        have f19 : x19_.toInt = (I18 a1 4).toInt := by rw [e19]
        have w19 : x19_ = x1_ := by rw [e19]; exact (Eq.trans (up2_kk eI18 hk14 ka1 (by decide)) (Eq.trans (hf12.get ka1 rfl) (Eq.trans (hf7.get ka1 rfl) (Eq.trans (hf4.get ka1 rfl) e1.symm))))
        have wt19 : x19_.toInt = x1_.toInt := by rw [w19]
        refine r_iconst hC (v := (1)) dX6_takeRain_71 (by decide) (by decide) (fun x20_ e20 t20 => ?_)
        refine r_iadd hC dX6_takeRain_72 (fun x21_ e21 => ?_)
        try have t21 : x21_.toInt = x19_.toInt + x20_.toInt := by rw [e21]; exact ti_add (by omega) (by omega)
        refine r_puti hC 4 (ci := 1) rfl u1_in tyX1_ok nmX1 (by decide) mT_1_195 rfl rfl rfl dX6_takeRain_73 ka1 rfl rfl (fun I22 eI22 => ?_)
        have hs22 := hs18.put1 eI22 ka1 rfl (by omega) (by omega) rfl rfl (by decide)
        have hF22 := hF18.put eI22 ka1 rfl
        have fp22 : I22 a0 5 = I a0 5 := (up2_kk eI22 ka1 ka0 (by decide)).trans fp18
        have tkp22 := tkp18.put eI22 ka1 ktk (by decide)
        have rc22 : (I18 a1 4).toInt = D 0 6 := rp18.1.2.2.2.2.2.2.1
        have rp22 := rp18.set6 (v := (D 0 6 + 1)) eI22 (by omega) ka0 ka1 klk
        have ob22 := ob18.put eI22 ka1 (by first | exact Or.inr rfl | exact Or.inl (by decide)) (by first | exact Or.inr rfl | exact Or.inl (by decide))
        have rw22 := rw18.putO hcx eI22 ka1 rfl
        have oc22 := oc18.putO eI22 ka1 rfl
        refine r_iconst hC (v := (1)) dX6_takeRain_76 (by decide) (by decide) (fun x23_ e23 t23 => ?_)
        exact r_iret hC hQ hlk hr (by rw [e23]; rfl) (by decide) (by decide) dX6_takeRain_77 ⟨_, _, _, rfl, rfl, ⟨hs22, hF22, hFJ12, (by omega), (by omega), (by first | (exfalso; omega) | exact Or.inl ⟨by omega, _, _, by unfold sRain; rw [pif_f (show ¬ 6 ≤ D 0 6 by omega), hsp7, bnd_ok, hsp12, bnd_ok], hp12, tkp22, (rp22).cg (by intro k; simp [upD, aRain]) (by intro k; simp [upD, aRain]) (by intro k; simp [upD, aRain]), rw22.rai, fp22⟩ | exact Or.inr ⟨by omega, kf12, qf12, by unfold sRain; rw [pif_f (show ¬ 6 ≤ D 0 6 by omega), hsp7, bnd_ok, hsp12, bnd_ok], hf112, hf212⟩ | exact Or.inr ⟨by omega, 5, _, by unfold sRain; rw [pif_f (show ¬ 6 ≤ D 0 6 by omega), hsp7, bnd_ok, hsp12, bnd_ok], by omega, by assumption⟩), (by exact ob22), (by exact oc22)⟩⟩
      · rw [show x10_.toInt = 1 by omega, show x11_.toInt = 99 by omega] at hsp12
        refine r_if_ne hC (tgt := 53) dX6_takeRain_48 (by decide) (fun c24 => ?_) (fun c24 => ?_)
        · exfalso; omega
        refine r_iconst hC (v := (0)) dX6_takeRain_51 (by decide) (by decide) (fun x25_ e25 t25 => ?_)
        exact r_iret hC hQ hlk hr (by rw [e25]; rfl) (by decide) (by decide) dX6_takeRain_52 ⟨_, _, _, rfl, rfl, ⟨hs12, hF12, hFJ12, (by omega), (by omega), (by first | (exfalso; omega) | exact Or.inl ⟨by omega, _, _, by unfold sRain; rw [pif_f (show ¬ 6 ≤ D 0 6 by omega), hsp7, bnd_ok, hsp12, bnd_er], hp7, NONE, (NONE).cg (by intro k; simp [upD, aRain]) (by intro k; simp [upD, aRain]) (by intro k; simp [upD, aRain]), NONE.rai, NONE⟩ | exact Or.inr ⟨by omega, kf12, qf12, by unfold sRain; rw [pif_f (show ¬ 6 ≤ D 0 6 by omega), hsp7, bnd_ok, hsp12, bnd_er], hf112, hf212⟩ | exact Or.inr ⟨by omega, 5, _, by unfold sRain; rw [pif_f (show ¬ 6 ≤ D 0 6 by omega), hsp7, bnd_ok, hsp12, bnd_er], by omega, by assumption⟩), (by exact ob12), (by exact oc12)⟩⟩
    · rw [show x5_.toInt = 0 by omega, show x6_.toInt = 59 by omega] at hsp7
      refine r_if_ne hC (tgt := 34) dX6_takeRain_29 (by decide) (fun c26 => ?_) (fun c26 => ?_)
      · exfalso; omega
      refine r_iconst hC (v := (0)) dX6_takeRain_32 (by decide) (by decide) (fun x27_ e27 t27 => ?_)
      exact r_iret hC hQ hlk hr (by rw [e27]; rfl) (by decide) (by decide) dX6_takeRain_33 ⟨_, _, _, rfl, rfl, ⟨hs7, hF7, hFJ7, (by omega), (by omega), (by first | (exfalso; omega) | exact Or.inl ⟨by omega, _, _, by unfold sRain; rw [pif_f (show ¬ 6 ≤ D 0 6 by omega), hsp7, bnd_er], (nx_le hp).2, NONE, (NONE).cg (by intro k; simp [upD, aRain]) (by intro k; simp [upD, aRain]) (by intro k; simp [upD, aRain]), NONE.rai, NONE⟩ | exact Or.inr ⟨by omega, kf7, qf7, by unfold sRain; rw [pif_f (show ¬ 6 ≤ D 0 6 by omega), hsp7, bnd_er], hf17, hf27⟩ | exact Or.inr ⟨by omega, 5, _, by unfold sRain; rw [pif_f (show ¬ 6 ≤ D 0 6 by omega), hsp7, bnd_er], by omega, by assumption⟩), (by exact ob7), (by exact oc7)⟩⟩
  · refine r_aload_n hC dX6_takeRain_9 0 rfl ?_
    refine r_iconst hC (v := (5)) dX6_takeRain_10 (by decide) (by decide) (fun x28_ e28 t28 => ?_)
    refine r_callV hC (As := [.int x28_]) (rest := []) (ci := 6) (f_X6_faulty g (xL X) K len I J R hs a0 ka0 x28_ tk htk ktk tp bt hbt hkt hbb hkb nbt B n (hB.mv hF hkb (fun _ => rfl)) hn p hp tkc) mT_2_233 mT_1_3 mT_2_230 mT_2_232 mP_5 okX6_faulty ⟨by decide, by decide⟩ rfl (by show kO (K a0) = _; rw [ka0]; rfl) rfl rfl (Nat.le_of_ble_eq_true rfl) ⟨by decide, by decide⟩ dX6_takeRain_11 (aI1 (F := fun st M => P g X 3 14 [(0, .ref a0), (1, .ref a1)] st _ _ M) (M := (K, len, I, J, R)) fun x29_ I29 h29 => ?_)
    obtain ⟨hs29, hf29, k29_0, k29_1, k29_2⟩ := h29
    show P g X 3 14 [(0, .ref a0), (1, .ref a1)] [.int x29_] _ _ (K, len, I29, J, R)
    have hF29 : Fr K [(2, 4), (7, 4), (7, 5), (7, 6), (8, 2), (8, 3), (8, 4), (57, 999)] I I29 := hF.trans hf29 rfl rfl
    have tkm29 := tkc.mvI hf29 ktk rfl rfl rfl rfl
    have rw29 := rwd.mv hcx qC_big hf29 rfl
    have oc29 := oc.mv qC_big hf29 rfl
    have rp29 := rep.mvI hf29 ka0 ka1 klk rfl
    have ob29 := ob.mv hf29 rfl
    exact r_iret hC hQ hlk hr (nz_b (by omega) (by omega)) (by decide) (by decide) dX6_takeRain_14 ⟨_, _, _, rfl, rfl, ⟨hs29, hF29, hFJ, (by omega), (by omega), (by first | (exfalso; omega) | exact Or.inl ⟨by omega, _, _, by unfold sRain; rw [pif_t (show 6 ≤ D 0 6 by omega)], hp, tkm29, (rp29).cg (by intro k; simp [upD, aRain]) (by intro k; simp [upD, aRain]) (by intro k; simp [upD, aRain]), rw29.rai, NONE⟩ | exact Or.inr ⟨by omega, kf29, qf29, by unfold sRain; rw [pif_t (show 6 ≤ D 0 6 by omega)], hf129, hf229⟩ | exact Or.inr ⟨by omega, 5, _, by unfold sRain; rw [pif_t (show 6 ≤ D 0 6 by omega)], by omega, by assumption⟩), (by exact ob29), (by exact oc29)⟩⟩
set_option maxHeartbeats 4000000 in
set_option maxRecDepth 100000 in
theorem f_X6_takeVillage (g : GG) (l : Launch) (K len : Nat → Nat) (I : Nat → Nat → Int32) (J : Nat → Nat → Int64) (R : Nat → Nat → Option Nat) (hs : Sf K len I R) (a0 : Nat) (ka0 : K a0 = 7) (a1 : Nat) (ka1 : K a1 = 2) (tk : Nat) (htk : R a0 0 = some tk) (ktk : K tk = 8) (tp : Nat) (bt : Nat) (hbt : R tk 0 = some tp) (hkt : K tp = 6) (hbb : R tp 0 = some bt) (hkb : K bt = 40) (nbt : len bt = 900) (B : Nat → Int) (n : Nat) (hB : BT B n bt I) (hn : n ≤ 900) (p : Nat) (hp : p ≤ n) (tkc : TkC B n tk p I J) (nr : Nat) (hnr : R a0 1 = some nr) (knr : K nr = 42) (lnr : len nr = 19) (pr : Nat) (hpr : R a0 2 = some pr) (kpr : K pr = 48) (lpr : len pr = 5) (lk : Nat) (hlkr : R a1 0 = some lk) (klk : K lk = 3) (D : DD) (hD : DI D) (rep : RpC D a0 nr pr a1 lk I J) (hu : UU K R) (rwd : RW (CC a1 lk R) (cntN D) D I) (hJ : DJ D) : Ct g l yX6_takeVillage cX6_takeVillage 3 (Option.some Jvm.ClassFile.FieldType.boolean) rmX6_takeVillage [.ref a0, .ref a1] (K, len, I, J, R) (pI2 (K, len, I, J, R) (fun r I' J' => Sf K len I' R ∧ Fr K [(2, 8), (7, 3), (7, 4), (7, 5), (7, 6), (8, 2), (8, 3), (8, 4), (58, 999), (59, 999), (60, 999)] I I' ∧ Fr K [(8, 5), (42, 999)] J J' ∧ (0 ≤ r.toInt) ∧ (r.toInt ≤ 1) ∧ (r.toInt = 1 ∧ (∃ (D' : DD) (p' : Nat), sVillage B n p D = .ok (D', p') ∧ p' ≤ n ∧ TkC B n tk p' I' J' ∧ RpC D' a0 nr pr a1 lk I' J' ∧ RW (CC a1 lk R) (cntN D') D' I' ∧ I' a0 5 = I a0 5) ∨ r.toInt = 0 ∧ (∃ (kf : Int) (qf : Nat), sVillage B n p D = .error (kf, qf) ∧ (I' a0 5).toInt = kf ∧ (I' a0 6).toInt = qf)) ∧ (OB K a1 lk I I') ∧ (OC (CC a1 lk R) qC K I I'))) := by
  refine Ct_intro (by decide +kernel) (Nat.le_of_ble_eq_true rfl) (fun X hC hL hKK hNm hr hlk hQ => ?_)
  subst hL
  have hC : Cx g X cX6_takeVillage "HillTap$Teller" 3 rmX6_takeVillage := hC
  show P g X 3 0 [(0, .ref a0), (1, .ref a1)] [] 0 0 (K, len, I, J, R)
  have hF : Fr K [(2, 8), (7, 3), (7, 4), (7, 5), (7, 6), (8, 2), (8, 3), (8, 4), (58, 999), (59, 999), (60, 999)] I I := Fr.refl
  have hFJ : Fr K [(8, 5), (42, 999)] J J := Fr.refl
  have tkc9 := tkc
  obtain ⟨tk3, tk4, tk2, tk1, tk5⟩ := tkc9
  have hnp : nr ≠ pr := fun z => by rw [z, lpr] at lnr; exact absurd lnr (by decide)
  obtain ⟨hD0, ⟨hD1, hD2⟩, ⟨hD3, hD4⟩, ⟨hD5, hD6⟩, ⟨hD7, hD8⟩, ⟨hD9, hD10⟩, hD11, hD12⟩ := id hD
  obtain ⟨rs0, rs1, rs2, rs3, rs4, rs5, rs6, rs7, rs8, rs9, rs10⟩ := id rep.1
  have ob : OB K a1 lk I I := OB.rf
  have hcx := CC_x hs ka1 klk hu
  have oc : OC (CC a1 lk R) qC K I I := OC.rf
  refine r_aload_n hC dX6_takeVillage_0 1 rfl ?_
  refine r_geti hC 8 (ci := 1) rfl u1_in (by decide) mT_1_207 dX6_takeVillage_1 ka1 rfl rfl (fun x1_ e1 => ?_)
  have r1 := hs.rng ka1 rfl e1
  have f1 : x1_.toInt = (I a1 8).toInt := by rw [e1]
  refine r_istore_n hC (lv' := [(2, .int x1_), (0, .ref a0), (1, .ref a1)]) dX6_takeVillage_4 (by decide) rfl ?_
  refine r_iload_n hC dX6_takeVillage_5 0 rfl ?_
  refine r_iconst hC (v := (4)) dX6_takeVillage_6 (by decide) (by decide) (fun x2_ e2 t2 => ?_)
  refine r_icmp_lt hC (tgt := 16) dX6_takeVillage_7 (by decide) (fun c3 => ?_) (fun c3 => ?_)
  · refine r_aload_n hC dX6_takeVillage_16 1 rfl ?_
    refine r_getr hC 0 (ci := 6) rfl u6_in (by decide) mT_1_81 dX6_takeVillage_17 ka0 rfl rfl htk ?_
    refine r_callV hC (As := []) (rest := []) (ci := 7) (f_X7_next g (xL X) K len I J R hs tk ktk tp bt hbt hkt hbb hkb nbt B n (hB.mv hF hkb (fun _ => rfl)) hn (nx B n p) (nx_le hp).2 (tkc.2.2.1) (tkc.2.2.2.1)) mT_2_159 mT_1_4 mT_2_234 mT_2_157 mT_2_158 okX7_next ⟨by decide, by decide⟩ rfl (by show kO (K tk) = _; rw [ktk]; rfl) rfl rfl (Nat.le_of_ble_eq_true rfl) ⟨by decide, by decide⟩ dX6_takeVillage_20 (aV2 (F := fun st M => P g X 3 23 [(2, .int x1_), (0, .ref a0), (1, .ref a1)] st _ _ M) (M := (K, len, I, J, R)) fun I4 J4 h4 => ?_)
    obtain ⟨hs4, hf4, hfj4, k4_0⟩ := h4
    show P g X 3 23 [(2, .int x1_), (0, .ref a0), (1, .ref a1)] [] _ _ (K, len, I4, J4, R)
    have hF4 : Fr K [(2, 8), (7, 3), (7, 4), (7, 5), (7, 6), (8, 2), (8, 3), (8, 4), (58, 999), (59, 999), (60, 999)] I I4 := hF.trans hf4 rfl rfl
    have hFJ4 : Fr K [(8, 5), (42, 999)] J J4 := hFJ.trans hfj4 rfl rfl
    have fp4 : I4 a0 5 = I a0 5 := (hf4.get ka0 rfl).trans rfl
    have rw4 := rwd.mv hcx qC_big hf4 rfl
    have oc4 := oc.mv qC_big hf4 rfl
    have rp4 := rep.mv hf4 hfj4 ka0 ka1 klk knr kpr rfl (fun _ => rfl) (fun _ => rfl)
    have ob4 := ob.mv hf4 rfl
    refine r_aload_n hC dX6_takeVillage_23 1 rfl ?_
    refine r_callV hC (As := []) (rest := []) (ci := 6) (f_X6_takeNewName g (xL X) K len I4 J4 R hs4 a0 ka0 tk htk ktk tp bt hbt hkt hbb hkb nbt B n (hB.mv hF4 hkb (fun _ => rfl)) hn (nx B n p) (nx_le hp).2 k4_0 nr hnr knr lnr pr hpr kpr lpr a1 ka1 lk klk D hD rp4 hu rw4 (by omega)) mT_3_21 mT_1_3 mT_3_18 mT_3_20 mP_9 okX6_takeNewName ⟨by decide, by decide⟩ rfl (by show kO (K a0) = _; rw [ka0]; rfl) rfl rfl (Nat.le_of_ble_eq_true rfl) ⟨by decide, by decide⟩ dX6_takeVillage_24 (aI2 (F := fun st M => P g X 3 27 [(2, .int x1_), (0, .ref a0), (1, .ref a1)] st _ _ M) (M := (K, len, I4, J4, R)) fun x5_ I5 J5 h5 => ?_)
    obtain ⟨hs5, hf5, hfj5, k5_0, k5_1, k5_2, k5_3, k5_4, k5_5⟩ := h5
    show P g X 3 27 [(2, .int x1_), (0, .ref a0), (1, .ref a1)] [.int x5_] _ _ (K, len, I5, J5, R)
    have hF5 : Fr K [(2, 8), (7, 3), (7, 4), (7, 5), (7, 6), (8, 2), (8, 3), (8, 4), (58, 999), (59, 999), (60, 999)] I I5 := hF4.trans hf5 rfl rfl
    have hFJ5 : Fr K [(8, 5), (42, 999)] J J5 := hFJ4.trans hfj5 rfl rfl
    have oc5 := oc4.tr k5_4
    have ob5 := ob4.tr k5_3
    rcases k5_2 with ⟨hr5, D5, p5, hsp5, hp5, tk5, rep5, rwL5, fl5⟩ | ⟨hr5, kf5, qf5, hsp5, hf15, hf25⟩
    · have fq5 : I5 a0 5 = I a0 5 := fl5.trans fp4
      have fz5_8 := sFresh_5 hsp5 (k := 8) (by decide)
      refine r_if_eq hC (tgt := 43) dX6_takeVillage_27 (by decide) (fun c6 => ?_) (fun c6 => ?_)
      · exfalso; omega
      refine r_aload_n hC dX6_takeVillage_30 1 rfl ?_
      refine r_ldcS hC (i := 24) (by decide) rfl rfl dX6_takeVillage_31 ?_
      refine r_iconst hC (v := (0)) dX6_takeVillage_33 (by decide) (by decide) (fun x7_ e7 t7 => ?_)
      refine r_sipush hC (v := (999)) dX6_takeVillage_34 (by decide) (by decide) (fun x8_ e8 t8 => ?_)
      refine r_callV hC (As := [.ref (g.2.2.1 24), .int x7_, .int x8_]) (rest := []) (ci := 6) (f_X6_takeNumber g (xL X) K len I5 J5 R hs5 a0 ka0 24 (by decide) x7_ x8_ tk htk ktk tp bt hbt hkt hbb hkb nbt B n (hB.mv hF5 hkb (fun _ => rfl)) hn p5 hp5 tk5) mT_2_239 mT_1_3 mT_2_236 mT_2_238 mP_6 okX6_takeNumber ⟨by decide, by decide⟩ rfl (by show kO (K a0) = _; rw [ka0]; rfl) rfl rfl (Nat.le_of_ble_eq_true rfl) ⟨by decide, by decide⟩ dX6_takeVillage_37 (aI2 (F := fun st M => P g X 3 40 [(2, .int x1_), (0, .ref a0), (1, .ref a1)] st _ _ M) (M := (K, len, I5, J5, R)) fun x9_ I9 J9 h9 => ?_)
      obtain ⟨hs9, hf9, hfj9, k9_0, k9_1, k9_2, k9_3⟩ := h9
      show P g X 3 40 [(2, .int x1_), (0, .ref a0), (1, .ref a1)] [.int x9_] _ _ (K, len, I9, J9, R)
      have hF9 : Fr K [(2, 8), (7, 3), (7, 4), (7, 5), (7, 6), (8, 2), (8, 3), (8, 4), (58, 999), (59, 999), (60, 999)] I I9 := hF5.trans hf9 rfl rfl
      have hFJ9 : Fr K [(8, 5), (42, 999)] J J9 := hFJ5.trans hfj9 rfl rfl
      have rw9 := rwL5.mv hcx qC_big hf9 rfl
      have oc9 := oc5.mv qC_big hf9 rfl
      have rp9 := rep5.mv hf9 hfj9 ka0 ka1 klk knr kpr rfl (fun _ => rfl) (fun _ => rfl)
      have ob9 := ob5.mv hf9 rfl
      rcases k9_3 with ⟨hr9, v9, p9, hsp9, hp9, tk9, hw9, fl9⟩ | ⟨hr9, kf9, qf9, hsp9, hf19, hf29⟩
      · have fq9 : I9 a0 5 = I a0 5 := fl9.trans fq5
        rw [show x7_.toInt = 0 by omega, show x8_.toInt = 999 by omega] at hsp9
        refine r_if_ne hC (tgt := 45) dX6_takeVillage_40 (by decide) (fun c10 => ?_) (fun c10 => ?_)
        rotate_left
        · exfalso; omega
        refine r_aload_n hC dX6_takeVillage_45 2 rfl ?_
        obtain ⟨a11_, hb11, hk11, hn11⟩ := hs9.row ka1 9 58 4 (by decide) (by decide)
        refine r_getr hC 9 (ci := 1) rfl u1_in (by decide) mT_1_210 dX6_takeVillage_46 ka1 rfl rfl hb11 ?_
        refine r_iload_n hC dX6_takeVillage_49 0 rfl ?_
        refine r_aload_n hC dX6_takeVillage_50 1 rfl ?_
        refine r_geti hC 4 (ci := 6) rfl u6_in (by decide) mT_1_85 dX6_takeVillage_51 ka0 rfl rfl (fun x12_ e12 => ?_)
        have f12 : x12_.toInt = (I9 a0 4).toInt := by rw [e12]
        refine x_iastore hC hk11 hn11 (by decide) rfl rfl dX6_takeVillage_54 (by omega) (by omega) (fun I13 eI13 => ?_)
        have hs13 := hs9.put0 eI13 hk11 (rng_arr (by decide) _) rfl (xF_arr (by decide) _) (by decide)
        have hF13 := hF9.put eI13 hk11 (inS_arr rfl _)
        have fp13 : I13 a0 5 = I a0 5 := (up2_kk eI13 hk11 ka0 (by decide)).trans fq9
        have tkp13 := tk9.put eI13 hk11 ktk (by decide)
        have rp13 := rp9.putA eI13 hk11 ka0 ka1 klk rfl
        have ob13 := ob9.put eI13 hk11 (by first | exact Or.inr rfl | exact Or.inl (by decide)) (by first | exact Or.inr rfl | exact Or.inl (by decide))
        have rw13 := rw9.put hcx (r0 := 10) (j0 := x1_.toNatClampNeg) (w := v9) (cCt (r := 10) rfl hb11) eI13 (by omega) (show ((x1_.toNatClampNeg : Nat) : Int) = D5 0 8 from by have h9 := clampI (i := x1_) (by omega); omega) (fun h9 => absurd h9 (by decide))
        have oc13 := oc9.put (cCt (r := 10) rfl hb11) eI13
        refine r_aload_n hC dX6_takeVillage_55 1 rfl ?_
        refine r_ldcS hC (i := 25) (by decide) rfl rfl dX6_takeVillage_56 ?_
        refine r_iconst hC (v := (1)) dX6_takeVillage_58 (by decide) (by decide) (fun x14_ e14 t14 => ?_)
        refine r_sipush hC (v := (999)) dX6_takeVillage_59 (by decide) (by decide) (fun x15_ e15 t15 => ?_)
        refine r_callV hC (As := [.ref (g.2.2.1 25), .int x14_, .int x15_]) (rest := []) (ci := 6) (f_X6_takeNumber g (xL X) K len I13 J9 R hs13 a0 ka0 25 (by decide) x14_ x15_ tk htk ktk tp bt hbt hkt hbb hkb nbt B n (hB.mv hF13 hkb (fun _ => rfl)) hn p9 hp9 tkp13) mT_2_239 mT_1_3 mT_2_236 mT_2_238 mP_6 okX6_takeNumber ⟨by decide, by decide⟩ rfl (by show kO (K a0) = _; rw [ka0]; rfl) rfl rfl (Nat.le_of_ble_eq_true rfl) ⟨by decide, by decide⟩ dX6_takeVillage_62 (aI2 (F := fun st M => P g X 3 65 [(2, .int x1_), (0, .ref a0), (1, .ref a1)] st _ _ M) (M := (K, len, I13, J9, R)) fun x16_ I16 J16 h16 => ?_)
        obtain ⟨hs16, hf16, hfj16, k16_0, k16_1, k16_2, k16_3⟩ := h16
        show P g X 3 65 [(2, .int x1_), (0, .ref a0), (1, .ref a1)] [.int x16_] _ _ (K, len, I16, J16, R)
        have hF16 : Fr K [(2, 8), (7, 3), (7, 4), (7, 5), (7, 6), (8, 2), (8, 3), (8, 4), (58, 999), (59, 999), (60, 999)] I I16 := hF13.trans hf16 rfl rfl
        have hFJ16 : Fr K [(8, 5), (42, 999)] J J16 := hFJ9.trans hfj16 rfl rfl
        have rw16 := rw13.mv hcx qC_big hf16 rfl
        have oc16 := oc13.mv qC_big hf16 rfl
        have rp16 := rp13.mv hf16 hfj16 ka0 ka1 klk knr kpr rfl (fun _ => rfl) (fun _ => rfl)
        have ob16 := ob13.mv hf16 rfl
        rcases k16_3 with ⟨hr16, v16, p16, hsp16, hp16, tk16, hw16, fl16⟩ | ⟨hr16, kf16, qf16, hsp16, hf116, hf216⟩
        · have fq16 : I16 a0 5 = I a0 5 := fl16.trans fp13
          rw [show x14_.toInt = 1 by omega, show x15_.toInt = 999 by omega] at hsp16
          refine r_if_ne hC (tgt := 70) dX6_takeVillage_65 (by decide) (fun c17 => ?_) (fun c17 => ?_)
          rotate_left
          · exfalso; omega
          refine r_aload_n hC dX6_takeVillage_70 2 rfl ?_
          obtain ⟨a18_, hb18, hk18, hn18⟩ := hs16.row ka1 10 59 4 (by decide) (by decide)
          refine r_getr hC 10 (ci := 1) rfl u1_in (by decide) mT_1_213 dX6_takeVillage_71 ka1 rfl rfl hb18 ?_
          refine r_iload_n hC dX6_takeVillage_74 0 rfl ?_
          refine r_aload_n hC dX6_takeVillage_75 1 rfl ?_
          refine r_geti hC 4 (ci := 6) rfl u6_in (by decide) mT_1_85 dX6_takeVillage_76 ka0 rfl rfl (fun x19_ e19 => ?_)
          have f19 : x19_.toInt = (I16 a0 4).toInt := by rw [e19]
          refine x_iastore hC hk18 hn18 (by decide) rfl rfl dX6_takeVillage_79 (by omega) (by omega) (fun I20 eI20 => ?_)
          have hs20 := hs16.put0 eI20 hk18 (rng_arr (by decide) _) rfl (xF_arr (by decide) _) (by decide)
          have hF20 := hF16.put eI20 hk18 (inS_arr rfl _)
          have fp20 : I20 a0 5 = I a0 5 := (up2_kk eI20 hk18 ka0 (by decide)).trans fq16
          have tkp20 := tk16.put eI20 hk18 ktk (by decide)
          have rp20 := rp16.putA eI20 hk18 ka0 ka1 klk rfl
          have ob20 := ob16.put eI20 hk18 (by first | exact Or.inr rfl | exact Or.inl (by decide)) (by first | exact Or.inr rfl | exact Or.inl (by decide))
          have rw20 := rw16.put hcx (r0 := 11) (j0 := x1_.toNatClampNeg) (w := v16) (cCt (r := 11) rfl hb18) eI20 (by omega) (show ((x1_.toNatClampNeg : Nat) : Int) = D5 0 8 from by have h9 := clampI (i := x1_) (by omega); omega) (fun h9 => absurd h9 (by decide))
          have oc20 := oc16.put (cCt (r := 11) rfl hb18) eI20
          refine r_aload_n hC dX6_takeVillage_80 1 rfl ?_
          refine r_ldcS hC (i := 26) (by decide) rfl rfl dX6_takeVillage_81 ?_
          refine r_iconst hC (v := (0)) dX6_takeVillage_83 (by decide) (by decide) (fun x21_ e21 t21 => ?_)
          refine r_bipush hC (v := (30)) dX6_takeVillage_84 (by decide) (by decide) (fun x22_ e22 t22 => ?_)
          refine r_callV hC (As := [.ref (g.2.2.1 26), .int x21_, .int x22_]) (rest := []) (ci := 6) (f_X6_takeNumber g (xL X) K len I20 J16 R hs20 a0 ka0 26 (by decide) x21_ x22_ tk htk ktk tp bt hbt hkt hbb hkb nbt B n (hB.mv hF20 hkb (fun _ => rfl)) hn p16 hp16 tkp20) mT_2_239 mT_1_3 mT_2_236 mT_2_238 mP_6 okX6_takeNumber ⟨by decide, by decide⟩ rfl (by show kO (K a0) = _; rw [ka0]; rfl) rfl rfl (Nat.le_of_ble_eq_true rfl) ⟨by decide, by decide⟩ dX6_takeVillage_86 (aI2 (F := fun st M => P g X 3 89 [(2, .int x1_), (0, .ref a0), (1, .ref a1)] st _ _ M) (M := (K, len, I20, J16, R)) fun x23_ I23 J23 h23 => ?_)
          obtain ⟨hs23, hf23, hfj23, k23_0, k23_1, k23_2, k23_3⟩ := h23
          show P g X 3 89 [(2, .int x1_), (0, .ref a0), (1, .ref a1)] [.int x23_] _ _ (K, len, I23, J23, R)
          have hF23 : Fr K [(2, 8), (7, 3), (7, 4), (7, 5), (7, 6), (8, 2), (8, 3), (8, 4), (58, 999), (59, 999), (60, 999)] I I23 := hF20.trans hf23 rfl rfl
          have hFJ23 : Fr K [(8, 5), (42, 999)] J J23 := hFJ16.trans hfj23 rfl rfl
          have rw23 := rw20.mv hcx qC_big hf23 rfl
          have oc23 := oc20.mv qC_big hf23 rfl
          have rp23 := rp20.mv hf23 hfj23 ka0 ka1 klk knr kpr rfl (fun _ => rfl) (fun _ => rfl)
          have ob23 := ob20.mv hf23 rfl
          rcases k23_3 with ⟨hr23, v23, p23, hsp23, hp23, tk23, hw23, fl23⟩ | ⟨hr23, kf23, qf23, hsp23, hf123, hf223⟩
          · have fq23 : I23 a0 5 = I a0 5 := fl23.trans fp20
            rw [show x21_.toInt = 0 by omega, show x22_.toInt = 30 by omega] at hsp23
            refine r_if_ne hC (tgt := 94) dX6_takeVillage_89 (by decide) (fun c24 => ?_) (fun c24 => ?_)
            rotate_left
            · exfalso; omega
            refine r_aload_n hC dX6_takeVillage_94 2 rfl ?_
            obtain ⟨a25_, hb25, hk25, hn25⟩ := hs23.row ka1 11 60 4 (by decide) (by decide)
            refine r_getr hC 11 (ci := 1) rfl u1_in (by decide) mT_1_216 dX6_takeVillage_95 ka1 rfl rfl hb25 ?_
            refine r_iload_n hC dX6_takeVillage_98 0 rfl ?_
            refine r_aload_n hC dX6_takeVillage_99 1 rfl ?_
            refine r_geti hC 4 (ci := 6) rfl u6_in (by decide) mT_1_85 dX6_takeVillage_100 ka0 rfl rfl (fun x26_ e26 => ?_)
            have f26 : x26_.toInt = (I23 a0 4).toInt := by rw [e26]
            refine x_iastore hC hk25 hn25 (by decide) rfl rfl dX6_takeVillage_103 (by omega) (by omega) (fun I27 eI27 => ?_)
            have hs27 := hs23.put0 eI27 hk25 (rng_arr (by decide) _) rfl (xF_arr (by decide) _) (by decide)
            have hF27 := hF23.put eI27 hk25 (inS_arr rfl _)
            have fp27 : I27 a0 5 = I a0 5 := (up2_kk eI27 hk25 ka0 (by decide)).trans fq23
            have tkp27 := tk23.put eI27 hk25 ktk (by decide)
            have rp27 := rp23.putA eI27 hk25 ka0 ka1 klk rfl
            have ob27 := ob23.put eI27 hk25 (by first | exact Or.inr rfl | exact Or.inl (by decide)) (by first | exact Or.inr rfl | exact Or.inl (by decide))
            have rw27 := rw23.put hcx (r0 := 12) (j0 := x1_.toNatClampNeg) (w := v23) (cCt (r := 12) rfl hb25) eI27 (by omega) (show ((x1_.toNatClampNeg : Nat) : Int) = D5 0 8 from by have h9 := clampI (i := x1_) (by omega); omega) (fun h9 => absurd h9 (by decide))
            have oc27 := oc23.put (cCt (r := 12) rfl hb25) eI27
            refine r_aload_n hC dX6_takeVillage_104 2 rfl ?_
            refine r_dup hC dX6_takeVillage_105 rfl ?_
            refine r_geti hC 8 (ci := 1) rfl u1_in (by decide) mT_1_207 dX6_takeVillage_106 ka1 rfl rfl (fun x28_ e28 => ?_)
            have r28 := hs27.rng ka1 rfl e28
            have f28 : x28_.toInt = (I27 a1 8).toInt := by rw [e28]
            have w28 : x28_ = x1_ := by rw [e28]; exact (Eq.trans (up2_kk eI27 hk25 ka1 (by decide)) (Eq.trans (hf23.get ka1 rfl) (Eq.trans (up2_kk eI20 hk18 ka1 (by decide)) (Eq.trans (hf16.get ka1 rfl) (Eq.trans (up2_kk eI13 hk11 ka1 (by decide)) (Eq.trans (hf9.get ka1 rfl) (Eq.trans (hf5.get ka1 rfl) (Eq.trans (hf4.get ka1 rfl) e1.symm))))))))
            have wt28 : x28_.toInt = x1_.toInt := by rw [w28]
            refine r_iconst hC (v := (1)) dX6_takeVillage_109 (by decide) (by decide) (fun x29_ e29 t29 => ?_)
            refine r_iadd hC dX6_takeVillage_110 (fun x30_ e30 => ?_)
            try have t30 : x30_.toInt = x28_.toInt + x29_.toInt := by rw [e30]; exact ti_add (by omega) (by omega)
            refine r_puti hC 8 (ci := 1) rfl u1_in tyX1_ok nmX1 (by decide) mT_1_207 rfl rfl rfl dX6_takeVillage_111 ka1 rfl rfl (fun I31 eI31 => ?_)
            have hs31 := hs27.put1 eI31 ka1 rfl (by omega) (by omega) rfl rfl (by decide)
            have hF31 := hF27.put eI31 ka1 rfl
            have fp31 : I31 a0 5 = I a0 5 := (up2_kk eI31 ka1 ka0 (by decide)).trans fp27
            have tkp31 := tkp27.put eI31 ka1 ktk (by decide)
            have rc31 : (I27 a1 8).toInt = D5 0 8 := rp27.1.2.2.2.2.2.2.2.2.1
            have rp31 := rp27.set8 (v := (D5 0 8 + 1)) eI31 (by omega) ka0 ka1 klk
            have ob31 := ob27.put eI31 ka1 (by first | exact Or.inr rfl | exact Or.inl (by decide)) (by first | exact Or.inr rfl | exact Or.inl (by decide))
            have rw31 := rw27.putO hcx eI31 ka1 rfl
            have oc31 := oc27.putO eI31 ka1 rfl
            refine r_iconst hC (v := (1)) dX6_takeVillage_114 (by decide) (by decide) (fun x32_ e32 t32 => ?_)
            exact r_iret hC hQ hlk hr (by rw [e32]; rfl) (by decide) (by decide) dX6_takeVillage_115 ⟨_, _, _, rfl, rfl, ⟨hs31, hF31, hFJ23, (by omega), (by omega), (by first | (exfalso; omega) | exact Or.inl ⟨by omega, _, _, by unfold sVillage; rw [pif_f (show ¬ 4 ≤ D 0 8 by omega), hsp5, bnd_ok, hsp9, bnd_ok, hsp16, bnd_ok, hsp23, bnd_ok], hp23, tkp31, (rp31).cg (by intro k; simp [upD, aVil]) (by intro k; simp [upD, aVil]) (by intro k; simp [upD, aVil]), rw31.vil (by have h9 := clampI (i := x1_) (by omega); omega), fp31⟩ | exact Or.inr ⟨by omega, kf23, qf23, by unfold sVillage; rw [pif_f (show ¬ 4 ≤ D 0 8 by omega), hsp5, bnd_ok, hsp9, bnd_ok, hsp16, bnd_ok, hsp23, bnd_ok], hf123, hf223⟩ | exact Or.inr ⟨by omega, 5, _, by unfold sVillage; rw [pif_f (show ¬ 4 ≤ D 0 8 by omega), hsp5, bnd_ok, hsp9, bnd_ok, hsp16, bnd_ok, hsp23, bnd_ok], by omega, by assumption⟩), (by exact ob31), (by exact oc31)⟩⟩
          · rw [show x21_.toInt = 0 by omega, show x22_.toInt = 30 by omega] at hsp23
            refine r_if_ne hC (tgt := 94) dX6_takeVillage_89 (by decide) (fun c33 => ?_) (fun c33 => ?_)
            · exfalso; omega
            refine r_iconst hC (v := (0)) dX6_takeVillage_92 (by decide) (by decide) (fun x34_ e34 t34 => ?_)
            exact r_iret hC hQ hlk hr (by rw [e34]; rfl) (by decide) (by decide) dX6_takeVillage_93 ⟨_, _, _, rfl, rfl, ⟨hs23, hF23, hFJ23, (by omega), (by omega), (by first | (exfalso; omega) | exact Or.inl ⟨by omega, _, _, by unfold sVillage; rw [pif_f (show ¬ 4 ≤ D 0 8 by omega), hsp5, bnd_ok, hsp9, bnd_ok, hsp16, bnd_ok, hsp23, bnd_er], hp16, NONE, (NONE).cg (by intro k; simp [upD, aVil]) (by intro k; simp [upD, aVil]) (by intro k; simp [upD, aVil]), NONE.vil (by have h9 := clampI (i := x1_) (by omega); omega), NONE⟩ | exact Or.inr ⟨by omega, kf23, qf23, by unfold sVillage; rw [pif_f (show ¬ 4 ≤ D 0 8 by omega), hsp5, bnd_ok, hsp9, bnd_ok, hsp16, bnd_ok, hsp23, bnd_er], hf123, hf223⟩ | exact Or.inr ⟨by omega, 5, _, by unfold sVillage; rw [pif_f (show ¬ 4 ≤ D 0 8 by omega), hsp5, bnd_ok, hsp9, bnd_ok, hsp16, bnd_ok, hsp23, bnd_er], by omega, by assumption⟩), (by exact ob23), (by exact oc23)⟩⟩
        · rw [show x14_.toInt = 1 by omega, show x15_.toInt = 999 by omega] at hsp16
          refine r_if_ne hC (tgt := 70) dX6_takeVillage_65 (by decide) (fun c35 => ?_) (fun c35 => ?_)
          · exfalso; omega
          refine r_iconst hC (v := (0)) dX6_takeVillage_68 (by decide) (by decide) (fun x36_ e36 t36 => ?_)
          exact r_iret hC hQ hlk hr (by rw [e36]; rfl) (by decide) (by decide) dX6_takeVillage_69 ⟨_, _, _, rfl, rfl, ⟨hs16, hF16, hFJ16, (by omega), (by omega), (by first | (exfalso; omega) | exact Or.inl ⟨by omega, _, _, by unfold sVillage; rw [pif_f (show ¬ 4 ≤ D 0 8 by omega), hsp5, bnd_ok, hsp9, bnd_ok, hsp16, bnd_er], hp9, NONE, (NONE).cg (by intro k; simp [upD, aVil]) (by intro k; simp [upD, aVil]) (by intro k; simp [upD, aVil]), NONE.vil (by have h9 := clampI (i := x1_) (by omega); omega), NONE⟩ | exact Or.inr ⟨by omega, kf16, qf16, by unfold sVillage; rw [pif_f (show ¬ 4 ≤ D 0 8 by omega), hsp5, bnd_ok, hsp9, bnd_ok, hsp16, bnd_er], hf116, hf216⟩ | exact Or.inr ⟨by omega, 5, _, by unfold sVillage; rw [pif_f (show ¬ 4 ≤ D 0 8 by omega), hsp5, bnd_ok, hsp9, bnd_ok, hsp16, bnd_er], by omega, by assumption⟩), (by exact ob16), (by exact oc16)⟩⟩
      · rw [show x7_.toInt = 0 by omega, show x8_.toInt = 999 by omega] at hsp9
        refine r_if_ne hC (tgt := 45) dX6_takeVillage_40 (by decide) (fun c37 => ?_) (fun c37 => ?_)
        · exfalso; omega
        refine r_iconst hC (v := (0)) dX6_takeVillage_43 (by decide) (by decide) (fun x38_ e38 t38 => ?_)
        exact r_iret hC hQ hlk hr (by rw [e38]; rfl) (by decide) (by decide) dX6_takeVillage_44 ⟨_, _, _, rfl, rfl, ⟨hs9, hF9, hFJ9, (by omega), (by omega), (by first | (exfalso; omega) | exact Or.inl ⟨by omega, _, _, by unfold sVillage; rw [pif_f (show ¬ 4 ≤ D 0 8 by omega), hsp5, bnd_ok, hsp9, bnd_er], hp5, NONE, (NONE).cg (by intro k; simp [upD, aVil]) (by intro k; simp [upD, aVil]) (by intro k; simp [upD, aVil]), NONE.vil (by have h9 := clampI (i := x1) (by omega); omega), NONE⟩ | exact Or.inr ⟨by omega, kf9, qf9, by unfold sVillage; rw [pif_f (show ¬ 4 ≤ D 0 8 by omega), hsp5, bnd_ok, hsp9, bnd_er], hf19, hf29⟩ | exact Or.inr ⟨by omega, 5, _, by unfold sVillage; rw [pif_f (show ¬ 4 ≤ D 0 8 by omega), hsp5, bnd_ok, hsp9, bnd_er], by omega, by assumption⟩), (by exact ob9), (by exact oc9)⟩⟩
    · refine r_if_eq hC (tgt := 43) dX6_takeVillage_27 (by decide) (fun c39 => ?_) (fun c39 => ?_)
      rotate_left
      · exfalso; omega
      refine r_iconst hC (v := (0)) dX6_takeVillage_43 (by decide) (by decide) (fun x40_ e40 t40 => ?_)
      exact r_iret hC hQ hlk hr (by rw [e40]; rfl) (by decide) (by decide) dX6_takeVillage_44 ⟨_, _, _, rfl, rfl, ⟨hs5, hF5, hFJ5, (by omega), (by omega), (by first | (exfalso; omega) | exact Or.inl ⟨by omega, _, _, by unfold sVillage; rw [pif_f (show ¬ 4 ≤ D 0 8 by omega), hsp5, bnd_er], (nx_le hp).2, NONE, (NONE).cg (by intro k; simp [upD, aVil]) (by intro k; simp [upD, aVil]) (by intro k; simp [upD, aVil]), NONE.vil (by have h9 := clampI (i := x1) (by omega); omega), NONE⟩ | exact Or.inr ⟨by omega, kf5, qf5, by unfold sVillage; rw [pif_f (show ¬ 4 ≤ D 0 8 by omega), hsp5, bnd_er], hf15, hf25⟩ | exact Or.inr ⟨by omega, 5, _, by unfold sVillage; rw [pif_f (show ¬ 4 ≤ D 0 8 by omega), hsp5, bnd_er], by omega, by assumption⟩), (by exact ob5), (by exact oc5)⟩⟩
  · refine r_aload_n hC dX6_takeVillage_10 1 rfl ?_
    refine r_iconst hC (v := (5)) dX6_takeVillage_11 (by decide) (by decide) (fun x41_ e41 t41 => ?_)
    refine r_callV hC (As := [.int x41_]) (rest := []) (ci := 6) (f_X6_faulty g (xL X) K len I J R hs a0 ka0 x41_ tk htk ktk tp bt hbt hkt hbb hkb nbt B n (hB.mv hF hkb (fun _ => rfl)) hn p hp tkc) mT_2_233 mT_1_3 mT_2_230 mT_2_232 mP_5 okX6_faulty ⟨by decide, by decide⟩ rfl (by show kO (K a0) = _; rw [ka0]; rfl) rfl rfl (Nat.le_of_ble_eq_true rfl) ⟨by decide, by decide⟩ dX6_takeVillage_12 (aI1 (F := fun st M => P g X 3 15 [(2, .int x1_), (0, .ref a0), (1, .ref a1)] st _ _ M) (M := (K, len, I, J, R)) fun x42_ I42 h42 => ?_)
    obtain ⟨hs42, hf42, k42_0, k42_1, k42_2⟩ := h42
    show P g X 3 15 [(2, .int x1_), (0, .ref a0), (1, .ref a1)] [.int x42_] _ _ (K, len, I42, J, R)
    have hF42 : Fr K [(2, 8), (7, 3), (7, 4), (7, 5), (7, 6), (8, 2), (8, 3), (8, 4), (58, 999), (59, 999), (60, 999)] I I42 := hF.trans hf42 rfl rfl
    have tkm42 := tkc.mvI hf42 ktk rfl rfl rfl rfl
    have rw42 := rwd.mv hcx qC_big hf42 rfl
    have oc42 := oc.mv qC_big hf42 rfl
    have rp42 := rep.mvI hf42 ka0 ka1 klk rfl
    have ob42 := ob.mv hf42 rfl
    exact r_iret hC hQ hlk hr (nz_b (by omega) (by omega)) (by decide) (by decide) dX6_takeVillage_15 ⟨_, _, _, rfl, rfl, ⟨hs42, hF42, hFJ, (by omega), (by omega), (by first | (exfalso; omega) | exact Or.inl ⟨by omega, _, _, by unfold sVillage; rw [pif_t (show 4 ≤ D 0 8 by omega)], hp, tkm42, (rp42).cg (by intro k; simp [upD, aVil]) (by intro k; simp [upD, aVil]) (by intro k; simp [upD, aVil]), rw42.vil (by have h9 := clampI (i := x1) (by omega); omega), NONE⟩ | exact Or.inr ⟨by omega, kf42, qf42, by unfold sVillage; rw [pif_t (show 4 ≤ D 0 8 by omega)], hf142, hf242⟩ | exact Or.inr ⟨by omega, 5, _, by unfold sVillage; rw [pif_t (show 4 ≤ D 0 8 by omega)], by omega, by assumption⟩), (by exact ob42), (by exact oc42)⟩⟩
set_option maxHeartbeats 4000000 in
set_option maxRecDepth 100000 in
theorem f_X6_takeStory (g : GG) (l : Launch) (K len : Nat → Nat) (I : Nat → Nat → Int32) (J : Nat → Nat → Int64) (R : Nat → Nat → Option Nat) (hs : Sf K len I R) (a0 : Nat) (ka0 : K a0 = 7) (a1 : Nat) (ka1 : K a1 = 2) (tk : Nat) (htk : R a0 0 = some tk) (ktk : K tk = 8) (tp : Nat) (bt : Nat) (hbt : R tk 0 = some tp) (hkt : K tp = 6) (hbb : R tp 0 = some bt) (hkb : K bt = 40) (nbt : len bt = 900) (B : Nat → Int) (n : Nat) (hB : BT B n bt I) (hn : n ≤ 900) (p : Nat) (hp : p ≤ n) (tkc : TkC B n tk p I J) (nr : Nat) (hnr : R a0 1 = some nr) (knr : K nr = 42) (lnr : len nr = 19) (pr : Nat) (hpr : R a0 2 = some pr) (kpr : K pr = 48) (lpr : len pr = 5) (lk : Nat) (hlkr : R a1 0 = some lk) (klk : K lk = 3) (D : DD) (hD : DI D) (rep : RpC D a0 nr pr a1 lk I J) (hu : UU K R) (rwd : RW (CC a1 lk R) (cntN D) D I) (hJ : DJ D) : Ct g l yX6_takeStory cX6_takeStory 3 (Option.some Jvm.ClassFile.FieldType.boolean) rmX6_takeStory [.ref a0, .ref a1] (K, len, I, J, R) (pI2 (K, len, I, J, R) (fun r I' J' => Sf K len I' R ∧ Fr K [(2, 6), (5, 0), (5, 1), (5, 2), (5, 3), (7, 3), (7, 4), (7, 5), (7, 6), (8, 2), (8, 3), (8, 4)] I I' ∧ Fr K [(8, 5), (42, 999)] J J' ∧ (0 ≤ r.toInt) ∧ (r.toInt ≤ 1) ∧ (r.toInt = 1 ∧ (∃ (D' : DD) (p' : Nat), sStory B n p D = .ok (D', p') ∧ p' ≤ n ∧ TkC B n tk p' I' J' ∧ RpC D' a0 nr pr a1 lk I' J' ∧ RW (CC a1 lk R) (cntN D') D' I' ∧ I' a0 5 = I a0 5) ∨ r.toInt = 0 ∧ (∃ (kf : Int) (qf : Nat), sStory B n p D = .error (kf, qf) ∧ (I' a0 5).toInt = kf ∧ (I' a0 6).toInt = qf)) ∧ (OB K a1 lk I I') ∧ (OC (CC a1 lk R) qC K I I'))) := by
  refine Ct_intro (by decide +kernel) (Nat.le_of_ble_eq_true rfl) (fun X hC hL hKK hNm hr hlk hQ => ?_)
  subst hL
  have hC : Cx g X cX6_takeStory "HillTap$Teller" 3 rmX6_takeStory := hC
  show P g X 3 0 [(0, .ref a0), (1, .ref a1)] [] 0 0 (K, len, I, J, R)
  have hF : Fr K [(2, 6), (5, 0), (5, 1), (5, 2), (5, 3), (7, 3), (7, 4), (7, 5), (7, 6), (8, 2), (8, 3), (8, 4)] I I := Fr.refl
  have hFJ : Fr K [(8, 5), (42, 999)] J J := Fr.refl
  have tkc9 := tkc
  obtain ⟨tk3, tk4, tk2, tk1, tk5⟩ := tkc9
  have hnp : nr ≠ pr := fun z => by rw [z, lpr] at lnr; exact absurd lnr (by decide)
  obtain ⟨hD0, ⟨hD1, hD2⟩, ⟨hD3, hD4⟩, ⟨hD5, hD6⟩, ⟨hD7, hD8⟩, ⟨hD9, hD10⟩, hD11, hD12⟩ := id hD
  obtain ⟨rs0, rs1, rs2, rs3, rs4, rs5, rs6, rs7, rs8, rs9, rs10⟩ := id rep.1
  have ob : OB K a1 lk I I := OB.rf
  have hcx := CC_x hs ka1 klk hu
  have oc : OC (CC a1 lk R) qC K I I := OC.rf
  refine r_aload_n hC dX6_takeStory_0 1 rfl ?_
  refine r_geti hC 6 (ci := 1) rfl u1_in (by decide) mT_1_201 dX6_takeStory_1 ka1 rfl rfl (fun x1_ e1 => ?_)
  have r1 := hs.rng ka1 rfl e1
  have f1 : x1_.toInt = (I a1 6).toInt := by rw [e1]
  refine r_bipush hC (v := (6)) dX6_takeStory_4 (by decide) (by decide) (fun x2_ e2 t2 => ?_)
  refine r_icmp_lt hC (tgt := 15) dX6_takeStory_6 (by decide) (fun c3 => ?_) (fun c3 => ?_)
  · refine r_aload_n hC dX6_takeStory_15 1 rfl ?_
    obtain ⟨a4_, hb4, hk4, hn4⟩ := hs.row ka1 7 45 6 (by decide) (by decide)
    refine r_getr hC 7 (ci := 1) rfl u1_in (by decide) mT_1_204 dX6_takeStory_16 ka1 rfl rfl hb4 ?_
    refine r_aload_n hC dX6_takeStory_19 1 rfl ?_
    refine r_geti hC 6 (ci := 1) rfl u1_in (by decide) mT_1_201 dX6_takeStory_20 ka1 rfl rfl (fun x5_ e5 => ?_)
    have r5 := hs.rng ka1 rfl e5
    have f5 : x5_.toInt = (I a1 6).toInt := by rw [e5]
    have w5 : x5_ = x1_ := by rw [e5]; exact e1.symm
    have wt5 : x5_.toInt = x1_.toInt := by rw [w5]
    obtain ⟨a6_, hb6, hk6⟩ := hs.sto hk4 (i := x5_) (by omega) (by omega)
    refine x_aaload (C := "HillTap$Story") hC hk4 hn4 (by decide) rfl (by decide) dX6_takeStory_23 (by omega) (by omega) hb6 ?_
    refine r_astore_n hC (lv' := [(2, .ref a6_), (0, .ref a0), (1, .ref a1)]) dX6_takeStory_24 (by decide) rfl ?_
    refine r_aload_n hC dX6_takeStory_25 1 rfl ?_
    refine r_getr hC 0 (ci := 6) rfl u6_in (by decide) mT_1_81 dX6_takeStory_26 ka0 rfl rfl htk ?_
    refine r_callV hC (As := []) (rest := []) (ci := 7) (f_X7_next g (xL X) K len I J R hs tk ktk tp bt hbt hkt hbb hkb nbt B n (hB.mv hF hkb (fun _ => rfl)) hn (nx B n p) (nx_le hp).2 (tkc.2.2.1) (tkc.2.2.2.1)) mT_2_159 mT_1_4 mT_2_234 mT_2_157 mT_2_158 okX7_next ⟨by decide, by decide⟩ rfl (by show kO (K tk) = _; rw [ktk]; rfl) rfl rfl (Nat.le_of_ble_eq_true rfl) ⟨by decide, by decide⟩ dX6_takeStory_29 (aV2 (F := fun st M => P g X 3 32 [(2, .ref a6_), (0, .ref a0), (1, .ref a1)] st _ _ M) (M := (K, len, I, J, R)) fun I7 J7 h7 => ?_)
    obtain ⟨hs7, hf7, hfj7, k7_0⟩ := h7
    show P g X 3 32 [(2, .ref a6_), (0, .ref a0), (1, .ref a1)] [] _ _ (K, len, I7, J7, R)
    have hF7 : Fr K [(2, 6), (5, 0), (5, 1), (5, 2), (5, 3), (7, 3), (7, 4), (7, 5), (7, 6), (8, 2), (8, 3), (8, 4)] I I7 := hF.trans hf7 rfl rfl
    have hFJ7 : Fr K [(8, 5), (42, 999)] J J7 := hFJ.trans hfj7 rfl rfl
    have fp7 : I7 a0 5 = I a0 5 := (hf7.get ka0 rfl).trans rfl
    have rw7 := rwd.mv hcx qC_big hf7 rfl
    have oc7 := oc.mv qC_big hf7 rfl
    have rp7 := rep.mv hf7 hfj7 ka0 ka1 klk knr kpr rfl (fun _ => rfl) (fun _ => rfl)
    have ob7 := ob.mv hf7 rfl
    refine r_aload_n hC dX6_takeStory_32 1 rfl ?_
    refine r_callV hC (As := []) (rest := []) (ci := 6) (f_X6_takeNewName g (xL X) K len I7 J7 R hs7 a0 ka0 tk htk ktk tp bt hbt hkt hbb hkb nbt B n (hB.mv hF7 hkb (fun _ => rfl)) hn (nx B n p) (nx_le hp).2 k7_0 nr hnr knr lnr pr hpr kpr lpr a1 ka1 lk klk D hD rp7 hu rw7 (by omega)) mT_3_21 mT_1_3 mT_3_18 mT_3_20 mP_9 okX6_takeNewName ⟨by decide, by decide⟩ rfl (by show kO (K a0) = _; rw [ka0]; rfl) rfl rfl (Nat.le_of_ble_eq_true rfl) ⟨by decide, by decide⟩ dX6_takeStory_33 (aI2 (F := fun st M => P g X 3 36 [(2, .ref a6_), (0, .ref a0), (1, .ref a1)] st _ _ M) (M := (K, len, I7, J7, R)) fun x8_ I8 J8 h8 => ?_)
    obtain ⟨hs8, hf8, hfj8, k8_0, k8_1, k8_2, k8_3, k8_4, k8_5⟩ := h8
    show P g X 3 36 [(2, .ref a6_), (0, .ref a0), (1, .ref a1)] [.int x8_] _ _ (K, len, I8, J8, R)
    have hF8 : Fr K [(2, 6), (5, 0), (5, 1), (5, 2), (5, 3), (7, 3), (7, 4), (7, 5), (7, 6), (8, 2), (8, 3), (8, 4)] I I8 := hF7.trans hf8 rfl rfl
    have hFJ8 : Fr K [(8, 5), (42, 999)] J J8 := hFJ7.trans hfj8 rfl rfl
    have oc8 := oc7.tr k8_4
    have ob8 := ob7.tr k8_3
    rcases k8_2 with ⟨hr8, D8, p8, hsp8, hp8, tk8, rep8, rwL8, fl8⟩ | ⟨hr8, kf8, qf8, hsp8, hf18, hf28⟩
    · have fq8 : I8 a0 5 = I a0 5 := fl8.trans fp7
      have fz8_7 := sFresh_5 hsp8 (k := 7) (by decide)
      refine r_if_eq hC (tgt := 51) dX6_takeStory_36 (by decide) (fun c9 => ?_) (fun c9 => ?_)
      · exfalso; omega
      refine r_aload_n hC dX6_takeStory_39 1 rfl ?_
      refine r_ldcS hC (i := 14) (by decide) rfl rfl dX6_takeStory_40 ?_
      refine r_iconst hC (v := (1)) dX6_takeStory_42 (by decide) (by decide) (fun x10_ e10 t10 => ?_)
      refine r_bipush hC (v := (99)) dX6_takeStory_43 (by decide) (by decide) (fun x11_ e11 t11 => ?_)
      refine r_callV hC (As := [.ref (g.2.2.1 14), .int x10_, .int x11_]) (rest := []) (ci := 6) (f_X6_takeNumber g (xL X) K len I8 J8 R hs8 a0 ka0 14 (by decide) x10_ x11_ tk htk ktk tp bt hbt hkt hbb hkb nbt B n (hB.mv hF8 hkb (fun _ => rfl)) hn p8 hp8 tk8) mT_2_239 mT_1_3 mT_2_236 mT_2_238 mP_6 okX6_takeNumber ⟨by decide, by decide⟩ rfl (by show kO (K a0) = _; rw [ka0]; rfl) rfl rfl (Nat.le_of_ble_eq_true rfl) ⟨by decide, by decide⟩ dX6_takeStory_45 (aI2 (F := fun st M => P g X 3 48 [(2, .ref a6_), (0, .ref a0), (1, .ref a1)] st _ _ M) (M := (K, len, I8, J8, R)) fun x12_ I12 J12 h12 => ?_)
      obtain ⟨hs12, hf12, hfj12, k12_0, k12_1, k12_2, k12_3⟩ := h12
      show P g X 3 48 [(2, .ref a6_), (0, .ref a0), (1, .ref a1)] [.int x12_] _ _ (K, len, I12, J12, R)
      have hF12 : Fr K [(2, 6), (5, 0), (5, 1), (5, 2), (5, 3), (7, 3), (7, 4), (7, 5), (7, 6), (8, 2), (8, 3), (8, 4)] I I12 := hF8.trans hf12 rfl rfl
      have hFJ12 : Fr K [(8, 5), (42, 999)] J J12 := hFJ8.trans hfj12 rfl rfl
      have rw12 := rwL8.mv hcx qC_big hf12 rfl
      have oc12 := oc8.mv qC_big hf12 rfl
      have rp12 := rep8.mv hf12 hfj12 ka0 ka1 klk knr kpr rfl (fun _ => rfl) (fun _ => rfl)
      have ob12 := ob8.mv hf12 rfl
      rcases k12_3 with ⟨hr12, v12, p12, hsp12, hp12, tk12, hw12, fl12⟩ | ⟨hr12, kf12, qf12, hsp12, hf112, hf212⟩
      · have fq12 : I12 a0 5 = I a0 5 := fl12.trans fq8
        rw [show x10_.toInt = 1 by omega, show x11_.toInt = 99 by omega] at hsp12
        refine r_if_ne hC (tgt := 53) dX6_takeStory_48 (by decide) (fun c13 => ?_) (fun c13 => ?_)
        rotate_left
        · exfalso; omega
        refine r_aload_n hC dX6_takeStory_53 0 rfl ?_
        refine r_aload_n hC dX6_takeStory_54 1 rfl ?_
        refine r_geti hC 4 (ci := 6) rfl u6_in (by decide) mT_1_85 dX6_takeStory_55 ka0 rfl rfl (fun x14_ e14 => ?_)
        have f14 : x14_.toInt = (I12 a0 4).toInt := by rw [e14]
        refine r_puti hC 0 (ci := 4) rfl u4_in tyX4_ok nmX4 (by decide) mT_1_160 rfl rfl rfl dX6_takeStory_58 hk6 rfl rfl (fun I15 eI15 => ?_)
        have hs15 := hs12.put0 eI15 hk6 rfl rfl rfl (by decide)
        have hF15 := hF12.put eI15 hk6 rfl
        have fp15 : I15 a0 5 = I a0 5 := (up2_kk eI15 hk6 ka0 (by decide)).trans fq12
        have tkp15 := tk12.put eI15 hk6 ktk (by decide)
        have rp15 := rp12.put eI15 hk6 ka0 ka1 klk rfl
        have ob15 := ob12.put eI15 hk6 (by first | exact Or.inr rfl | exact Or.inl (by decide)) (by first | exact Or.inr rfl | exact Or.inl (by decide))
        have rw15 := rw12.put hcx (r0 := 6) (j0 := x5_.toNatClampNeg) (w := v12) (cCs (k := 0) (by decide) (by have h9 := clampI (i := x5_) (by omega); omega) hb4 hb6) eI15 (by omega) (show ((x5_.toNatClampNeg : Nat) : Int) = D8 0 7 from by have h9 := clampI (i := x5_) (by omega); omega) (fun h9 => absurd h9 (by decide))
        have oc15 := oc12.put (cCs (k := 0) (by decide) (by have h9 := clampI (i := x5_) (by omega); omega) hb4 hb6) eI15
        refine r_aload_n hC dX6_takeStory_61 0 rfl ?_
        refine r_aload_n hC dX6_takeStory_62 1 rfl ?_
        refine r_callV hC (As := []) (rest := [.ref a6_]) (ci := 6) (f_X6_kindHere g (xL X) K len I15 J12 R hs15 a0 ka0 tk htk ktk tp bt hbt hkt hbb hkb nbt B n (hB.mv hF15 hkb (fun _ => rfl)) hn p12 hp12 tkp15) mT_3_59 mT_1_3 mT_3_56 mT_3_58 mP_14 okX6_kindHere ⟨by decide, by decide⟩ rfl (by show kO (K a0) = _; rw [ka0]; rfl) rfl rfl (Nat.le_of_ble_eq_true rfl) ⟨by decide, by decide⟩ dX6_takeStory_63 (aI0 (F := fun st M => P g X 3 66 [(2, .ref a6_), (0, .ref a0), (1, .ref a1)] st _ _ M) (M := (K, len, I15, J12, R)) fun x16_ h16 => ?_)
        have k16_0 := h16
        show P g X 3 66 [(2, .ref a6_), (0, .ref a0), (1, .ref a1)] [.int x16_, .ref a6_] _ _ (K, len, I15, J12, R)
        refine r_puti hC 1 (ci := 4) rfl u4_in tyX4_ok nmX4 (by decide) mT_1_164 rfl rfl rfl dX6_takeStory_66 hk6 rfl rfl (fun I17 eI17 => ?_)
        have hs17 := hs15.put0 eI17 hk6 rfl rfl rfl (by decide)
        have hF17 := hF15.put eI17 hk6 rfl
        have fp17 : I17 a0 5 = I a0 5 := (up2_kk eI17 hk6 ka0 (by decide)).trans fp15
        have tkp17 := tkp15.put eI17 hk6 ktk (by decide)
        have rp17 := rp15.put eI17 hk6 ka0 ka1 klk rfl
        have ob17 := ob15.put eI17 hk6 (by first | exact Or.inr rfl | exact Or.inl (by decide)) (by first | exact Or.inr rfl | exact Or.inl (by decide))
        have rw17 := rw15.put hcx (r0 := 7) (j0 := x5_.toNatClampNeg) (w := sKind B n p12) (cCs (k := 1) (by decide) (by have h9 := clampI (i := x5_) (by omega); omega) hb4 hb6) eI17 (by omega) (show ((x5_.toNatClampNeg : Nat) : Int) = D8 0 7 from by have h9 := clampI (i := x5_) (by omega); omega) (fun _ => show D8 0 7 ≤ ((x5_.toNatClampNeg : Nat) : Int) from by have h9 := clampI (i := x5_) (by omega); omega)
        have oc17 := oc15.put (cCs (k := 1) (by decide) (by have h9 := clampI (i := x5_) (by omega); omega) hb4 hb6) eI17
        refine r_aload_n hC dX6_takeStory_69 0 rfl ?_
        refine r_geti hC 1 (ci := 4) rfl u4_in (by decide) mT_1_164 dX6_takeStory_70 hk6 rfl rfl (fun x18_ e18 => ?_)
        have f18 : x18_.toInt = (I17 a6_ 1).toInt := by rw [e18]
        have w18 : x18_ = x16_ := by rw [e18]; exact (by rw [eI17]; exact up2_self _ _ _ _)
        have wt18 : x18_.toInt = x16_.toInt := by rw [w18]
        refine r_iconst hC (v := (-1)) dX6_takeStory_73 (by decide) (by decide) (fun x19_ e19 t19 => ?_)
        refine r_icmp_ne hC (tgt := 83) dX6_takeStory_74 (by decide) (fun c20 => ?_) (fun c20 => ?_)
        · refine r_aload_n hC dX6_takeStory_83 1 rfl ?_
          refine r_getr hC 0 (ci := 6) rfl u6_in (by decide) mT_1_81 dX6_takeStory_84 ka0 rfl rfl htk ?_
          refine r_callV hC (As := []) (rest := []) (ci := 7) (f_X7_next g (xL X) K len I17 J12 R hs17 tk ktk tp bt hbt hkt hbb hkb nbt B n (hB.mv hF17 hkb (fun _ => rfl)) hn (nx B n p12) (nx_le hp12).2 (tkp17.2.2.1) (tkp17.2.2.2.1)) mT_2_159 mT_1_4 mT_2_234 mT_2_157 mT_2_158 okX7_next ⟨by decide, by decide⟩ rfl (by show kO (K tk) = _; rw [ktk]; rfl) rfl rfl (Nat.le_of_ble_eq_true rfl) ⟨by decide, by decide⟩ dX6_takeStory_87 (aV2 (F := fun st M => P g X 3 90 [(2, .ref a6_), (0, .ref a0), (1, .ref a1)] st _ _ M) (M := (K, len, I17, J12, R)) fun I21 J21 h21 => ?_)
          obtain ⟨hs21, hf21, hfj21, k21_0⟩ := h21
          show P g X 3 90 [(2, .ref a6_), (0, .ref a0), (1, .ref a1)] [] _ _ (K, len, I21, J21, R)
          have hF21 : Fr K [(2, 6), (5, 0), (5, 1), (5, 2), (5, 3), (7, 3), (7, 4), (7, 5), (7, 6), (8, 2), (8, 3), (8, 4)] I I21 := hF17.trans hf21 rfl rfl
          have hFJ21 : Fr K [(8, 5), (42, 999)] J J21 := hFJ12.trans hfj21 rfl rfl
          have fp21 : I21 a0 5 = I a0 5 := (hf21.get ka0 rfl).trans fp17
          have rw21 := rw17.mv hcx qC_big hf21 rfl
          have oc21 := oc17.mv qC_big hf21 rfl
          have rp21 := rp17.mv hf21 hfj21 ka0 ka1 klk knr kpr rfl (fun _ => rfl) (fun _ => rfl)
          have ob21 := ob17.mv hf21 rfl
          refine r_aload_n hC dX6_takeStory_90 1 rfl ?_
          refine r_iconst hC (v := (0)) dX6_takeStory_91 (by decide) (by decide) (fun x22_ e22 t22 => ?_)
          refine r_bipush hC (v := (99)) dX6_takeStory_92 (by decide) (by decide) (fun x23_ e23 t23 => ?_)
          refine r_callV hC (As := [.int x22_, .int x23_]) (rest := []) (ci := 6) (f_X6_takeWhole g (xL X) K len I21 J21 R hs21 a0 ka0 x22_ x23_ tk htk ktk tp bt hbt hkt hbb hkb nbt B n (hB.mv hF21 hkb (fun _ => rfl)) hn (nx B n p12) (nx_le hp12).2 k21_0) mT_3_3 mT_1_3 mT_3_0 mT_3_2 mP_7 okX6_takeWhole ⟨by decide, by decide⟩ rfl (by show kO (K a0) = _; rw [ka0]; rfl) rfl rfl (Nat.le_of_ble_eq_true rfl) ⟨by decide, by decide⟩ dX6_takeStory_94 (aI2 (F := fun st M => P g X 3 97 [(2, .ref a6_), (0, .ref a0), (1, .ref a1)] st _ _ M) (M := (K, len, I21, J21, R)) fun x24_ I24 J24 h24 => ?_)
          obtain ⟨hs24, hf24, hfj24, k24_0, k24_1, k24_2, k24_3⟩ := h24
          show P g X 3 97 [(2, .ref a6_), (0, .ref a0), (1, .ref a1)] [.int x24_] _ _ (K, len, I24, J24, R)
          have hF24 : Fr K [(2, 6), (5, 0), (5, 1), (5, 2), (5, 3), (7, 3), (7, 4), (7, 5), (7, 6), (8, 2), (8, 3), (8, 4)] I I24 := hF21.trans hf24 rfl rfl
          have hFJ24 : Fr K [(8, 5), (42, 999)] J J24 := hFJ21.trans hfj24 rfl rfl
          have rw24 := rw21.mv hcx qC_big hf24 rfl
          have oc24 := oc21.mv qC_big hf24 rfl
          have rp24 := rp21.mv hf24 hfj24 ka0 ka1 klk knr kpr rfl (fun _ => rfl) (fun _ => rfl)
          have ob24 := ob21.mv hf24 rfl
          rcases k24_3 with ⟨hr24, v24, p24, hsp24, hp24, tk24, hw24, fl24⟩ | ⟨hr24, kf24, qf24, hsp24, hf124, hf224⟩
          · have fq24 : I24 a0 5 = I a0 5 := fl24.trans fp21
            rw [show x22_.toInt = 0 by omega, show x23_.toInt = 99 by omega] at hsp24
            refine r_if_ne hC (tgt := 102) dX6_takeStory_97 (by decide) (fun c25 => ?_) (fun c25 => ?_)
            rotate_left
            · exfalso; omega
            refine r_aload_n hC dX6_takeStory_102 0 rfl ?_
            refine r_aload_n hC dX6_takeStory_103 1 rfl ?_
            refine r_geti hC 4 (ci := 6) rfl u6_in (by decide) mT_1_85 dX6_takeStory_104 ka0 rfl rfl (fun x26_ e26 => ?_)
            have f26 : x26_.toInt = (I24 a0 4).toInt := by rw [e26]
            refine r_puti hC 2 (ci := 4) rfl u4_in tyX4_ok nmX4 (by decide) mT_1_168 rfl rfl rfl dX6_takeStory_107 hk6 rfl rfl (fun I27 eI27 => ?_)
            have hs27 := hs24.put0 eI27 hk6 rfl rfl rfl (by decide)
            have hF27 := hF24.put eI27 hk6 rfl
            have fp27 : I27 a0 5 = I a0 5 := (up2_kk eI27 hk6 ka0 (by decide)).trans fq24
            have tkp27 := tk24.put eI27 hk6 ktk (by decide)
            have rp27 := rp24.put eI27 hk6 ka0 ka1 klk rfl
            have ob27 := ob24.put eI27 hk6 (by first | exact Or.inr rfl | exact Or.inl (by decide)) (by first | exact Or.inr rfl | exact Or.inl (by decide))
            have rw27 := rw24.put hcx (r0 := 8) (j0 := x5_.toNatClampNeg) (w := v24) (cCs (k := 2) (by decide) (by have h9 := clampI (i := x5_) (by omega); omega) hb4 hb6) eI27 (by omega) (show ((x5_.toNatClampNeg : Nat) : Int) = D8 0 7 from by have h9 := clampI (i := x5_) (by omega); omega) (fun h9 => absurd h9 (by decide))
            have oc27 := oc24.put (cCs (k := 2) (by decide) (by have h9 := clampI (i := x5_) (by omega); omega) hb4 hb6) eI27
            refine r_aload_n hC dX6_takeStory_110 0 rfl ?_
            refine r_geti hC 1 (ci := 4) rfl u4_in (by decide) mT_1_164 dX6_takeStory_111 hk6 rfl rfl (fun x28_ e28 => ?_)
            have f28 : x28_.toInt = (I27 a6_ 1).toInt := by rw [e28]
            have w28 : x28_ = x18_ := by rw [e28]; exact (Eq.trans (up2_at (Or.inr (by decide)) eI27) (Eq.trans (hf24.get hk6 rfl) (Eq.trans (hf21.get hk6 rfl) e18.symm)))
            have wt28 : x28_.toInt = x18_.toInt := by rw [w28]
            refine r_iconst hC (v := (2)) dX6_takeStory_114 (by decide) (by decide) (fun x29_ e29 t29 => ?_)
            refine r_icmp_ne hC (tgt := 132) dX6_takeStory_115 (by decide) (fun c30 => ?_) (fun c30 => ?_)
            · refine r_aload_n hC dX6_takeStory_132 0 rfl ?_
              refine r_geti hC 1 (ci := 4) rfl u4_in (by decide) mT_1_164 dX6_takeStory_133 hk6 rfl rfl (fun x31_ e31 => ?_)
              have f31 : x31_.toInt = (I27 a6_ 1).toInt := by rw [e31]
              have w31 : x31_ = x28_ := by rw [e31]; exact e28.symm
              have wt31 : x31_.toInt = x28_.toInt := by rw [w31]
              refine r_iconst hC (v := (3)) dX6_takeStory_136 (by decide) (by decide) (fun x32_ e32 t32 => ?_)
              refine r_icmp_ne hC (tgt := 155) dX6_takeStory_137 (by decide) (fun c33 => ?_) (fun c33 => ?_)
              · refine r_aload_n hC dX6_takeStory_155 0 rfl ?_
                refine r_geti hC 1 (ci := 4) rfl u4_in (by decide) mT_1_164 dX6_takeStory_156 hk6 rfl rfl (fun x34_ e34 => ?_)
                have f34 : x34_.toInt = (I27 a6_ 1).toInt := by rw [e34]
                have w34 : x34_ = x31_ := by rw [e34]; exact e31.symm
                have wt34 : x34_.toInt = x31_.toInt := by rw [w34]
                refine r_iconst hC (v := (4)) dX6_takeStory_159 (by decide) (by decide) (fun x35_ e35 t35 => ?_)
                refine r_icmp_ne hC (tgt := 177) dX6_takeStory_160 (by decide) (fun c36 => ?_) (fun c36 => ?_)
                · refine r_aload_n hC dX6_takeStory_177 0 rfl ?_
                  refine r_aload_n hC dX6_takeStory_178 1 rfl ?_
                  refine r_geti hC 4 (ci := 6) rfl u6_in (by decide) mT_1_85 dX6_takeStory_179 ka0 rfl rfl (fun x37_ e37 => ?_)
                  have f37 : x37_.toInt = (I27 a0 4).toInt := by rw [e37]
                  have w37 : x37_ = x26_ := by rw [e37]; exact (Eq.trans (up2_kk eI27 hk6 ka0 (by decide)) e26.symm)
                  have wt37 : x37_.toInt = x26_.toInt := by rw [w37]
                  refine r_puti hC 3 (ci := 4) rfl u4_in tyX4_ok nmX4 (by decide) mT_1_170 rfl rfl rfl dX6_takeStory_182 hk6 rfl rfl (fun I38 eI38 => ?_)
                  have hs38 := hs27.put0 eI38 hk6 rfl rfl rfl (by decide)
                  have hF38 := hF27.put eI38 hk6 rfl
                  have fp38 : I38 a0 5 = I a0 5 := (up2_kk eI38 hk6 ka0 (by decide)).trans fp27
                  have tkp38 := tkp27.put eI38 hk6 ktk (by decide)
                  have rp38 := rp27.put eI38 hk6 ka0 ka1 klk rfl
                  have ob38 := ob27.put eI38 hk6 (by first | exact Or.inr rfl | exact Or.inl (by decide)) (by first | exact Or.inr rfl | exact Or.inl (by decide))
                  have rw38 := rw27.put hcx (r0 := 9) (j0 := x5_.toNatClampNeg) (w := v24) (cCs (k := 3) (by decide) (by have h9 := clampI (i := x5_) (by omega); omega) hb4 hb6) eI38 (by omega) (show ((x5_.toNatClampNeg : Nat) : Int) = D8 0 7 from by have h9 := clampI (i := x5_) (by omega); omega) (fun h9 => absurd h9 (by decide))
                  have oc38 := oc27.put (cCs (k := 3) (by decide) (by have h9 := clampI (i := x5_) (by omega); omega) hb4 hb6) eI38
                  refine r_aload_n hC dX6_takeStory_185 2 rfl ?_
                  refine r_dup hC dX6_takeStory_186 rfl ?_
                  refine r_geti hC 6 (ci := 1) rfl u1_in (by decide) mT_1_201 dX6_takeStory_187 ka1 rfl rfl (fun x39_ e39 => ?_)
                  have r39 := hs38.rng ka1 rfl e39
                  have f39 : x39_.toInt = (I38 a1 6).toInt := by rw [e39]
                  have w39 : x39_ = x5_ := by rw [e39]; exact (Eq.trans (up2_kk eI38 hk6 ka1 (by decide)) (Eq.trans (up2_kk eI27 hk6 ka1 (by decide)) (Eq.trans (hf24.get ka1 rfl) (Eq.trans (hf21.get ka1 rfl) (Eq.trans (up2_kk eI17 hk6 ka1 (by decide)) (Eq.trans (up2_kk eI15 hk6 ka1 (by decide)) (Eq.trans (hf12.get ka1 rfl) (Eq.trans (hf8.get ka1 rfl) (Eq.trans (hf7.get ka1 rfl) e5.symm)))))))))
                  have wt39 : x39_.toInt = x5_.toInt := by rw [w39]
                  refine r_iconst hC (v := (1)) dX6_takeStory_190 (by decide) (by decide) (fun x40_ e40 t40 => ?_)
                  refine r_iadd hC dX6_takeStory_191 (fun x41_ e41 => ?_)
                  try have t41 : x41_.toInt = x39_.toInt + x40_.toInt := by rw [e41]; exact ti_add (by omega) (by omega)
                  refine r_puti hC 6 (ci := 1) rfl u1_in tyX1_ok nmX1 (by decide) mT_1_201 rfl rfl rfl dX6_takeStory_192 ka1 rfl rfl (fun I42 eI42 => ?_)
                  have hs42 := hs38.put1 eI42 ka1 rfl (by omega) (by omega) rfl rfl (by decide)
                  have hF42 := hF38.put eI42 ka1 rfl
                  have fp42 : I42 a0 5 = I a0 5 := (up2_kk eI42 ka1 ka0 (by decide)).trans fp38
                  have tkp42 := tkp38.put eI42 ka1 ktk (by decide)
                  have rc42 : (I38 a1 6).toInt = D8 0 7 := rp38.1.2.2.2.2.2.2.2.1
                  have rp42 := rp38.set7 (v := (D8 0 7 + 1)) eI42 (by omega) ka0 ka1 klk
                  have ob42 := ob38.put eI42 ka1 (by first | exact Or.inr rfl | exact Or.inl (by decide)) (by first | exact Or.inr rfl | exact Or.inl (by decide))
                  have rw42 := rw38.putO hcx eI42 ka1 rfl
                  have oc42 := oc38.putO eI42 ka1 rfl
                  refine r_iconst hC (v := (1)) dX6_takeStory_195 (by decide) (by decide) (fun x43_ e43 t43 => ?_)
                  exact r_iret hC hQ hlk hr (by rw [e43]; rfl) (by decide) (by decide) dX6_takeStory_196 ⟨_, _, _, rfl, rfl, ⟨hs42, hF42, hFJ24, (by omega), (by omega), (by first | (exfalso; omega) | exact Or.inl ⟨by omega, _, _, by unfold sStory sMore; rw [pif_f (show ¬ 6 ≤ D 0 7 by omega), hsp8, bnd_ok, hsp12, bnd_ok, pif_f (show ¬ sKind B n p12 = -1 by omega), hsp24, bnd_ok, pif_f (show ¬ sKind B n p12 = 2 by omega), pif_f (show ¬ sKind B n p12 = 3 by omega), pif_f (show ¬ sKind B n p12 = 4 by omega), bnd_ok], hp24, tkp42, (rp42).cg (by intro k; simp [upD, aStory]) (by intro k; simp [upD, aStory]) (by intro k; simp [upD, aStory]), rw42.sto (by have h9 := clampI (i := x5_) (by omega); omega) (by first | (intro _; rfl) | (intro h9; exfalso; omega)), fp42⟩ | exact Or.inr ⟨by omega, kf24, qf24, by unfold sStory sMore; rw [pif_f (show ¬ 6 ≤ D 0 7 by omega), hsp8, bnd_ok, hsp12, bnd_ok, pif_f (show ¬ sKind B n p12 = -1 by omega), hsp24, bnd_ok, pif_f (show ¬ sKind B n p12 = 2 by omega), pif_f (show ¬ sKind B n p12 = 3 by omega), pif_f (show ¬ sKind B n p12 = 4 by omega), bnd_ok], hf124, hf224⟩ | exact Or.inr ⟨by omega, 5, _, by unfold sStory sMore; rw [pif_f (show ¬ 6 ≤ D 0 7 by omega), hsp8, bnd_ok, hsp12, bnd_ok, pif_f (show ¬ sKind B n p12 = -1 by omega), hsp24, bnd_ok, pif_f (show ¬ sKind B n p12 = 2 by omega), pif_f (show ¬ sKind B n p12 = 3 by omega), pif_f (show ¬ sKind B n p12 = 4 by omega), bnd_ok], by omega, by assumption⟩ | exact Or.inr ⟨by omega, 1, _, by unfold sStory sMore; rw [pif_f (show ¬ 6 ≤ D 0 7 by omega), hsp8, bnd_ok, hsp12, bnd_ok, pif_f (show ¬ sKind B n p12 = -1 by omega), hsp24, bnd_ok, pif_f (show ¬ sKind B n p12 = 2 by omega), pif_f (show ¬ sKind B n p12 = 3 by omega), pif_f (show ¬ sKind B n p12 = 4 by omega), bnd_ok], by omega, by assumption⟩), (by exact ob42), (by exact oc42)⟩⟩
                · refine r_aload_n hC dX6_takeStory_163 1 rfl ?_
                  refine r_ldcS hC (i := 23) (by decide) rfl rfl dX6_takeStory_164 ?_
                  refine r_iconst hC (v := (1)) dX6_takeStory_166 (by decide) (by decide) (fun x44_ e44 t44 => ?_)
                  refine r_bipush hC (v := (99)) dX6_takeStory_167 (by decide) (by decide) (fun x45_ e45 t45 => ?_)
                  refine r_callV hC (As := [.ref (g.2.2.1 23), .int x44_, .int x45_]) (rest := []) (ci := 6) (f_X6_takeNumber g (xL X) K len I27 J24 R hs27 a0 ka0 23 (by decide) x44_ x45_ tk htk ktk tp bt hbt hkt hbb hkb nbt B n (hB.mv hF27 hkb (fun _ => rfl)) hn p24 hp24 tkp27) mT_2_239 mT_1_3 mT_2_236 mT_2_238 mP_6 okX6_takeNumber ⟨by decide, by decide⟩ rfl (by show kO (K a0) = _; rw [ka0]; rfl) rfl rfl (Nat.le_of_ble_eq_true rfl) ⟨by decide, by decide⟩ dX6_takeStory_169 (aI2 (F := fun st M => P g X 3 172 [(2, .ref a6_), (0, .ref a0), (1, .ref a1)] st _ _ M) (M := (K, len, I27, J24, R)) fun x46_ I46 J46 h46 => ?_)
                  obtain ⟨hs46, hf46, hfj46, k46_0, k46_1, k46_2, k46_3⟩ := h46
                  show P g X 3 172 [(2, .ref a6_), (0, .ref a0), (1, .ref a1)] [.int x46_] _ _ (K, len, I46, J46, R)
                  have hF46 : Fr K [(2, 6), (5, 0), (5, 1), (5, 2), (5, 3), (7, 3), (7, 4), (7, 5), (7, 6), (8, 2), (8, 3), (8, 4)] I I46 := hF27.trans hf46 rfl rfl
                  have hFJ46 : Fr K [(8, 5), (42, 999)] J J46 := hFJ24.trans hfj46 rfl rfl
                  have rw46 := rw27.mv hcx qC_big hf46 rfl
                  have oc46 := oc27.mv qC_big hf46 rfl
                  have rp46 := rp27.mv hf46 hfj46 ka0 ka1 klk knr kpr rfl (fun _ => rfl) (fun _ => rfl)
                  have ob46 := ob27.mv hf46 rfl
                  rcases k46_3 with ⟨hr46, v46, p46, hsp46, hp46, tk46, hw46, fl46⟩ | ⟨hr46, kf46, qf46, hsp46, hf146, hf246⟩
                  · have fq46 : I46 a0 5 = I a0 5 := fl46.trans fp27
                    rw [show x44_.toInt = 1 by omega, show x45_.toInt = 99 by omega] at hsp46
                    refine r_if_ne hC (tgt := 177) dX6_takeStory_172 (by decide) (fun c47 => ?_) (fun c47 => ?_)
                    rotate_left
                    · exfalso; omega
                    refine r_aload_n hC dX6_takeStory_177 0 rfl ?_
                    refine r_aload_n hC dX6_takeStory_178 1 rfl ?_
                    refine r_geti hC 4 (ci := 6) rfl u6_in (by decide) mT_1_85 dX6_takeStory_179 ka0 rfl rfl (fun x48_ e48 => ?_)
                    have f48 : x48_.toInt = (I46 a0 4).toInt := by rw [e48]
                    refine r_puti hC 3 (ci := 4) rfl u4_in tyX4_ok nmX4 (by decide) mT_1_170 rfl rfl rfl dX6_takeStory_182 hk6 rfl rfl (fun I49 eI49 => ?_)
                    have hs49 := hs46.put0 eI49 hk6 rfl rfl rfl (by decide)
                    have hF49 := hF46.put eI49 hk6 rfl
                    have fp49 : I49 a0 5 = I a0 5 := (up2_kk eI49 hk6 ka0 (by decide)).trans fq46
                    have tkp49 := tk46.put eI49 hk6 ktk (by decide)
                    have rp49 := rp46.put eI49 hk6 ka0 ka1 klk rfl
                    have ob49 := ob46.put eI49 hk6 (by first | exact Or.inr rfl | exact Or.inl (by decide)) (by first | exact Or.inr rfl | exact Or.inl (by decide))
                    have rw49 := rw46.put hcx (r0 := 9) (j0 := x5_.toNatClampNeg) (w := v46) (cCs (k := 3) (by decide) (by have h9 := clampI (i := x5_) (by omega); omega) hb4 hb6) eI49 (by omega) (show ((x5_.toNatClampNeg : Nat) : Int) = D8 0 7 from by have h9 := clampI (i := x5_) (by omega); omega) (fun h9 => absurd h9 (by decide))
                    have oc49 := oc46.put (cCs (k := 3) (by decide) (by have h9 := clampI (i := x5_) (by omega); omega) hb4 hb6) eI49
                    refine r_aload_n hC dX6_takeStory_185 2 rfl ?_
                    refine r_dup hC dX6_takeStory_186 rfl ?_
                    refine r_geti hC 6 (ci := 1) rfl u1_in (by decide) mT_1_201 dX6_takeStory_187 ka1 rfl rfl (fun x50_ e50 => ?_)
                    have r50 := hs49.rng ka1 rfl e50
                    have f50 : x50_.toInt = (I49 a1 6).toInt := by rw [e50]
                    have w50 : x50_ = x5_ := by rw [e50]; exact (Eq.trans (up2_kk eI49 hk6 ka1 (by decide)) (Eq.trans (hf46.get ka1 rfl) (Eq.trans (up2_kk eI27 hk6 ka1 (by decide)) (Eq.trans (hf24.get ka1 rfl) (Eq.trans (hf21.get ka1 rfl) (Eq.trans (up2_kk eI17 hk6 ka1 (by decide)) (Eq.trans (up2_kk eI15 hk6 ka1 (by decide)) (Eq.trans (hf12.get ka1 rfl) (Eq.trans (hf8.get ka1 rfl) (Eq.trans (hf7.get ka1 rfl) e5.symm))))))))))
                    have wt50 : x50_.toInt = x5_.toInt := by rw [w50]
                    refine r_iconst hC (v := (1)) dX6_takeStory_190 (by decide) (by decide) (fun x51_ e51 t51 => ?_)
                    refine r_iadd hC dX6_takeStory_191 (fun x52_ e52 => ?_)
                    try have t52 : x52_.toInt = x50_.toInt + x51_.toInt := by rw [e52]; exact ti_add (by omega) (by omega)
                    refine r_puti hC 6 (ci := 1) rfl u1_in tyX1_ok nmX1 (by decide) mT_1_201 rfl rfl rfl dX6_takeStory_192 ka1 rfl rfl (fun I53 eI53 => ?_)
                    have hs53 := hs49.put1 eI53 ka1 rfl (by omega) (by omega) rfl rfl (by decide)
                    have hF53 := hF49.put eI53 ka1 rfl
                    have fp53 : I53 a0 5 = I a0 5 := (up2_kk eI53 ka1 ka0 (by decide)).trans fp49
                    have tkp53 := tkp49.put eI53 ka1 ktk (by decide)
                    have rc53 : (I49 a1 6).toInt = D8 0 7 := rp49.1.2.2.2.2.2.2.2.1
                    have rp53 := rp49.set7 (v := (D8 0 7 + 1)) eI53 (by omega) ka0 ka1 klk
                    have ob53 := ob49.put eI53 ka1 (by first | exact Or.inr rfl | exact Or.inl (by decide)) (by first | exact Or.inr rfl | exact Or.inl (by decide))
                    have rw53 := rw49.putO hcx eI53 ka1 rfl
                    have oc53 := oc49.putO eI53 ka1 rfl
                    refine r_iconst hC (v := (1)) dX6_takeStory_195 (by decide) (by decide) (fun x54_ e54 t54 => ?_)
                    exact r_iret hC hQ hlk hr (by rw [e54]; rfl) (by decide) (by decide) dX6_takeStory_196 ⟨_, _, _, rfl, rfl, ⟨hs53, hF53, hFJ46, (by omega), (by omega), (by first | (exfalso; omega) | exact Or.inl ⟨by omega, _, _, by unfold sStory sMore; rw [pif_f (show ¬ 6 ≤ D 0 7 by omega), hsp8, bnd_ok, hsp12, bnd_ok, pif_f (show ¬ sKind B n p12 = -1 by omega), hsp24, bnd_ok, pif_f (show ¬ sKind B n p12 = 2 by omega), pif_f (show ¬ sKind B n p12 = 3 by omega), pif_t (show sKind B n p12 = 4 by omega), hsp46, bnd_ok], hp46, tkp53, (rp53).cg (by intro k; simp [upD, aStory]) (by intro k; simp [upD, aStory]) (by intro k; simp [upD, aStory]), rw53.sto (by have h9 := clampI (i := x5_) (by omega); omega) (by first | (intro _; rfl) | (intro h9; exfalso; omega)), fp53⟩ | exact Or.inr ⟨by omega, kf46, qf46, by unfold sStory sMore; rw [pif_f (show ¬ 6 ≤ D 0 7 by omega), hsp8, bnd_ok, hsp12, bnd_ok, pif_f (show ¬ sKind B n p12 = -1 by omega), hsp24, bnd_ok, pif_f (show ¬ sKind B n p12 = 2 by omega), pif_f (show ¬ sKind B n p12 = 3 by omega), pif_t (show sKind B n p12 = 4 by omega), hsp46, bnd_ok], hf146, hf246⟩ | exact Or.inr ⟨by omega, 5, _, by unfold sStory sMore; rw [pif_f (show ¬ 6 ≤ D 0 7 by omega), hsp8, bnd_ok, hsp12, bnd_ok, pif_f (show ¬ sKind B n p12 = -1 by omega), hsp24, bnd_ok, pif_f (show ¬ sKind B n p12 = 2 by omega), pif_f (show ¬ sKind B n p12 = 3 by omega), pif_t (show sKind B n p12 = 4 by omega), hsp46, bnd_ok], by omega, by assumption⟩ | exact Or.inr ⟨by omega, 1, _, by unfold sStory sMore; rw [pif_f (show ¬ 6 ≤ D 0 7 by omega), hsp8, bnd_ok, hsp12, bnd_ok, pif_f (show ¬ sKind B n p12 = -1 by omega), hsp24, bnd_ok, pif_f (show ¬ sKind B n p12 = 2 by omega), pif_f (show ¬ sKind B n p12 = 3 by omega), pif_t (show sKind B n p12 = 4 by omega), hsp46, bnd_ok], by omega, by assumption⟩), (by exact ob53), (by exact oc53)⟩⟩
                  · rw [show x44_.toInt = 1 by omega, show x45_.toInt = 99 by omega] at hsp46
                    refine r_if_ne hC (tgt := 177) dX6_takeStory_172 (by decide) (fun c55 => ?_) (fun c55 => ?_)
                    · exfalso; omega
                    refine r_iconst hC (v := (0)) dX6_takeStory_175 (by decide) (by decide) (fun x56_ e56 t56 => ?_)
                    exact r_iret hC hQ hlk hr (by rw [e56]; rfl) (by decide) (by decide) dX6_takeStory_176 ⟨_, _, _, rfl, rfl, ⟨hs46, hF46, hFJ46, (by omega), (by omega), (by first | (exfalso; omega) | exact Or.inl ⟨by omega, _, _, by unfold sStory sMore; rw [pif_f (show ¬ 6 ≤ D 0 7 by omega), hsp8, bnd_ok, hsp12, bnd_ok, pif_f (show ¬ sKind B n p12 = -1 by omega), hsp24, bnd_ok, pif_f (show ¬ sKind B n p12 = 2 by omega), pif_f (show ¬ sKind B n p12 = 3 by omega), pif_t (show sKind B n p12 = 4 by omega), hsp46, bnd_er], hp24, NONE, (NONE).cg (by intro k; simp [upD, aStory]) (by intro k; simp [upD, aStory]) (by intro k; simp [upD, aStory]), NONE.sto (by have h9 := clampI (i := x5_) (by omega); omega) (by first | (intro _; rfl) | (intro h9; exfalso; omega)), NONE⟩ | exact Or.inr ⟨by omega, kf46, qf46, by unfold sStory sMore; rw [pif_f (show ¬ 6 ≤ D 0 7 by omega), hsp8, bnd_ok, hsp12, bnd_ok, pif_f (show ¬ sKind B n p12 = -1 by omega), hsp24, bnd_ok, pif_f (show ¬ sKind B n p12 = 2 by omega), pif_f (show ¬ sKind B n p12 = 3 by omega), pif_t (show sKind B n p12 = 4 by omega), hsp46, bnd_er], hf146, hf246⟩ | exact Or.inr ⟨by omega, 5, _, by unfold sStory sMore; rw [pif_f (show ¬ 6 ≤ D 0 7 by omega), hsp8, bnd_ok, hsp12, bnd_ok, pif_f (show ¬ sKind B n p12 = -1 by omega), hsp24, bnd_ok, pif_f (show ¬ sKind B n p12 = 2 by omega), pif_f (show ¬ sKind B n p12 = 3 by omega), pif_t (show sKind B n p12 = 4 by omega), hsp46, bnd_er], by omega, by assumption⟩ | exact Or.inr ⟨by omega, 1, _, by unfold sStory sMore; rw [pif_f (show ¬ 6 ≤ D 0 7 by omega), hsp8, bnd_ok, hsp12, bnd_ok, pif_f (show ¬ sKind B n p12 = -1 by omega), hsp24, bnd_ok, pif_f (show ¬ sKind B n p12 = 2 by omega), pif_f (show ¬ sKind B n p12 = 3 by omega), pif_t (show sKind B n p12 = 4 by omega), hsp46, bnd_er], by omega, by assumption⟩), (by exact ob46), (by exact oc46)⟩⟩
              · refine r_aload_n hC dX6_takeStory_140 1 rfl ?_
                refine r_ldcS hC (i := 22) (by decide) rfl rfl dX6_takeStory_141 ?_
                refine r_iconst hC (v := (0)) dX6_takeStory_143 (by decide) (by decide) (fun x57_ e57 t57 => ?_)
                refine r_sipush hC (v := (999)) dX6_takeStory_144 (by decide) (by decide) (fun x58_ e58 t58 => ?_)
                refine r_callV hC (As := [.ref (g.2.2.1 22), .int x57_, .int x58_]) (rest := []) (ci := 6) (f_X6_takeNumber g (xL X) K len I27 J24 R hs27 a0 ka0 22 (by decide) x57_ x58_ tk htk ktk tp bt hbt hkt hbb hkb nbt B n (hB.mv hF27 hkb (fun _ => rfl)) hn p24 hp24 tkp27) mT_2_239 mT_1_3 mT_2_236 mT_2_238 mP_6 okX6_takeNumber ⟨by decide, by decide⟩ rfl (by show kO (K a0) = _; rw [ka0]; rfl) rfl rfl (Nat.le_of_ble_eq_true rfl) ⟨by decide, by decide⟩ dX6_takeStory_147 (aI2 (F := fun st M => P g X 3 150 [(2, .ref a6_), (0, .ref a0), (1, .ref a1)] st _ _ M) (M := (K, len, I27, J24, R)) fun x59_ I59 J59 h59 => ?_)
                obtain ⟨hs59, hf59, hfj59, k59_0, k59_1, k59_2, k59_3⟩ := h59
                show P g X 3 150 [(2, .ref a6_), (0, .ref a0), (1, .ref a1)] [.int x59_] _ _ (K, len, I59, J59, R)
                have hF59 : Fr K [(2, 6), (5, 0), (5, 1), (5, 2), (5, 3), (7, 3), (7, 4), (7, 5), (7, 6), (8, 2), (8, 3), (8, 4)] I I59 := hF27.trans hf59 rfl rfl
                have hFJ59 : Fr K [(8, 5), (42, 999)] J J59 := hFJ24.trans hfj59 rfl rfl
                have rw59 := rw27.mv hcx qC_big hf59 rfl
                have oc59 := oc27.mv qC_big hf59 rfl
                have rp59 := rp27.mv hf59 hfj59 ka0 ka1 klk knr kpr rfl (fun _ => rfl) (fun _ => rfl)
                have ob59 := ob27.mv hf59 rfl
                rcases k59_3 with ⟨hr59, v59, p59, hsp59, hp59, tk59, hw59, fl59⟩ | ⟨hr59, kf59, qf59, hsp59, hf159, hf259⟩
                · have fq59 : I59 a0 5 = I a0 5 := fl59.trans fp27
                  rw [show x57_.toInt = 0 by omega, show x58_.toInt = 999 by omega] at hsp59
                  refine r_if_ne hC (tgt := 155) dX6_takeStory_150 (by decide) (fun c60 => ?_) (fun c60 => ?_)
                  rotate_left
                  · exfalso; omega
                  refine r_aload_n hC dX6_takeStory_155 0 rfl ?_
                  refine r_geti hC 1 (ci := 4) rfl u4_in (by decide) mT_1_164 dX6_takeStory_156 hk6 rfl rfl (fun x61_ e61 => ?_)
                  have f61 : x61_.toInt = (I59 a6_ 1).toInt := by rw [e61]
                  have w61 : x61_ = x31_ := by rw [e61]; exact (Eq.trans (hf59.get hk6 rfl) e31.symm)
                  have wt61 : x61_.toInt = x31_.toInt := by rw [w61]
                  refine r_iconst hC (v := (4)) dX6_takeStory_159 (by decide) (by decide) (fun x62_ e62 t62 => ?_)
                  refine r_icmp_ne hC (tgt := 177) dX6_takeStory_160 (by decide) (fun c63 => ?_) (fun c63 => ?_)
                  rotate_left
                  · exfalso; omega
                  refine r_aload_n hC dX6_takeStory_177 0 rfl ?_
                  refine r_aload_n hC dX6_takeStory_178 1 rfl ?_
                  refine r_geti hC 4 (ci := 6) rfl u6_in (by decide) mT_1_85 dX6_takeStory_179 ka0 rfl rfl (fun x64_ e64 => ?_)
                  have f64 : x64_.toInt = (I59 a0 4).toInt := by rw [e64]
                  refine r_puti hC 3 (ci := 4) rfl u4_in tyX4_ok nmX4 (by decide) mT_1_170 rfl rfl rfl dX6_takeStory_182 hk6 rfl rfl (fun I65 eI65 => ?_)
                  have hs65 := hs59.put0 eI65 hk6 rfl rfl rfl (by decide)
                  have hF65 := hF59.put eI65 hk6 rfl
                  have fp65 : I65 a0 5 = I a0 5 := (up2_kk eI65 hk6 ka0 (by decide)).trans fq59
                  have tkp65 := tk59.put eI65 hk6 ktk (by decide)
                  have rp65 := rp59.put eI65 hk6 ka0 ka1 klk rfl
                  have ob65 := ob59.put eI65 hk6 (by first | exact Or.inr rfl | exact Or.inl (by decide)) (by first | exact Or.inr rfl | exact Or.inl (by decide))
                  have rw65 := rw59.put hcx (r0 := 9) (j0 := x5_.toNatClampNeg) (w := v59) (cCs (k := 3) (by decide) (by have h9 := clampI (i := x5_) (by omega); omega) hb4 hb6) eI65 (by omega) (show ((x5_.toNatClampNeg : Nat) : Int) = D8 0 7 from by have h9 := clampI (i := x5_) (by omega); omega) (fun h9 => absurd h9 (by decide))
                  have oc65 := oc59.put (cCs (k := 3) (by decide) (by have h9 := clampI (i := x5_) (by omega); omega) hb4 hb6) eI65
                  refine r_aload_n hC dX6_takeStory_185 2 rfl ?_
                  refine r_dup hC dX6_takeStory_186 rfl ?_
                  refine r_geti hC 6 (ci := 1) rfl u1_in (by decide) mT_1_201 dX6_takeStory_187 ka1 rfl rfl (fun x66_ e66 => ?_)
                  have r66 := hs65.rng ka1 rfl e66
                  have f66 : x66_.toInt = (I65 a1 6).toInt := by rw [e66]
                  have w66 : x66_ = x5_ := by rw [e66]; exact (Eq.trans (up2_kk eI65 hk6 ka1 (by decide)) (Eq.trans (hf59.get ka1 rfl) (Eq.trans (up2_kk eI27 hk6 ka1 (by decide)) (Eq.trans (hf24.get ka1 rfl) (Eq.trans (hf21.get ka1 rfl) (Eq.trans (up2_kk eI17 hk6 ka1 (by decide)) (Eq.trans (up2_kk eI15 hk6 ka1 (by decide)) (Eq.trans (hf12.get ka1 rfl) (Eq.trans (hf8.get ka1 rfl) (Eq.trans (hf7.get ka1 rfl) e5.symm))))))))))
                  have wt66 : x66_.toInt = x5_.toInt := by rw [w66]
                  refine r_iconst hC (v := (1)) dX6_takeStory_190 (by decide) (by decide) (fun x67_ e67 t67 => ?_)
                  refine r_iadd hC dX6_takeStory_191 (fun x68_ e68 => ?_)
                  try have t68 : x68_.toInt = x66_.toInt + x67_.toInt := by rw [e68]; exact ti_add (by omega) (by omega)
                  refine r_puti hC 6 (ci := 1) rfl u1_in tyX1_ok nmX1 (by decide) mT_1_201 rfl rfl rfl dX6_takeStory_192 ka1 rfl rfl (fun I69 eI69 => ?_)
                  have hs69 := hs65.put1 eI69 ka1 rfl (by omega) (by omega) rfl rfl (by decide)
                  have hF69 := hF65.put eI69 ka1 rfl
                  have fp69 : I69 a0 5 = I a0 5 := (up2_kk eI69 ka1 ka0 (by decide)).trans fp65
                  have tkp69 := tkp65.put eI69 ka1 ktk (by decide)
                  have rc69 : (I65 a1 6).toInt = D8 0 7 := rp65.1.2.2.2.2.2.2.2.1
                  have rp69 := rp65.set7 (v := (D8 0 7 + 1)) eI69 (by omega) ka0 ka1 klk
                  have ob69 := ob65.put eI69 ka1 (by first | exact Or.inr rfl | exact Or.inl (by decide)) (by first | exact Or.inr rfl | exact Or.inl (by decide))
                  have rw69 := rw65.putO hcx eI69 ka1 rfl
                  have oc69 := oc65.putO eI69 ka1 rfl
                  refine r_iconst hC (v := (1)) dX6_takeStory_195 (by decide) (by decide) (fun x70_ e70 t70 => ?_)
                  exact r_iret hC hQ hlk hr (by rw [e70]; rfl) (by decide) (by decide) dX6_takeStory_196 ⟨_, _, _, rfl, rfl, ⟨hs69, hF69, hFJ59, (by omega), (by omega), (by first | (exfalso; omega) | exact Or.inl ⟨by omega, _, _, by unfold sStory sMore; rw [pif_f (show ¬ 6 ≤ D 0 7 by omega), hsp8, bnd_ok, hsp12, bnd_ok, pif_f (show ¬ sKind B n p12 = -1 by omega), hsp24, bnd_ok, pif_f (show ¬ sKind B n p12 = 2 by omega), pif_t (show sKind B n p12 = 3 by omega), hsp59, bnd_ok], hp59, tkp69, (rp69).cg (by intro k; simp [upD, aStory]) (by intro k; simp [upD, aStory]) (by intro k; simp [upD, aStory]), rw69.sto (by have h9 := clampI (i := x5_) (by omega); omega) (by first | (intro _; rfl) | (intro h9; exfalso; omega)), fp69⟩ | exact Or.inr ⟨by omega, kf59, qf59, by unfold sStory sMore; rw [pif_f (show ¬ 6 ≤ D 0 7 by omega), hsp8, bnd_ok, hsp12, bnd_ok, pif_f (show ¬ sKind B n p12 = -1 by omega), hsp24, bnd_ok, pif_f (show ¬ sKind B n p12 = 2 by omega), pif_t (show sKind B n p12 = 3 by omega), hsp59, bnd_ok], hf159, hf259⟩ | exact Or.inr ⟨by omega, 5, _, by unfold sStory sMore; rw [pif_f (show ¬ 6 ≤ D 0 7 by omega), hsp8, bnd_ok, hsp12, bnd_ok, pif_f (show ¬ sKind B n p12 = -1 by omega), hsp24, bnd_ok, pif_f (show ¬ sKind B n p12 = 2 by omega), pif_t (show sKind B n p12 = 3 by omega), hsp59, bnd_ok], by omega, by assumption⟩ | exact Or.inr ⟨by omega, 1, _, by unfold sStory sMore; rw [pif_f (show ¬ 6 ≤ D 0 7 by omega), hsp8, bnd_ok, hsp12, bnd_ok, pif_f (show ¬ sKind B n p12 = -1 by omega), hsp24, bnd_ok, pif_f (show ¬ sKind B n p12 = 2 by omega), pif_t (show sKind B n p12 = 3 by omega), hsp59, bnd_ok], by omega, by assumption⟩), (by exact ob69), (by exact oc69)⟩⟩
                · rw [show x57_.toInt = 0 by omega, show x58_.toInt = 999 by omega] at hsp59
                  refine r_if_ne hC (tgt := 155) dX6_takeStory_150 (by decide) (fun c71 => ?_) (fun c71 => ?_)
                  · exfalso; omega
                  refine r_iconst hC (v := (0)) dX6_takeStory_153 (by decide) (by decide) (fun x72_ e72 t72 => ?_)
                  exact r_iret hC hQ hlk hr (by rw [e72]; rfl) (by decide) (by decide) dX6_takeStory_154 ⟨_, _, _, rfl, rfl, ⟨hs59, hF59, hFJ59, (by omega), (by omega), (by first | (exfalso; omega) | exact Or.inl ⟨by omega, _, _, by unfold sStory sMore; rw [pif_f (show ¬ 6 ≤ D 0 7 by omega), hsp8, bnd_ok, hsp12, bnd_ok, pif_f (show ¬ sKind B n p12 = -1 by omega), hsp24, bnd_ok, pif_f (show ¬ sKind B n p12 = 2 by omega), pif_t (show sKind B n p12 = 3 by omega), hsp59, bnd_er], hp24, NONE, (NONE).cg (by intro k; simp [upD, aStory]) (by intro k; simp [upD, aStory]) (by intro k; simp [upD, aStory]), NONE.sto (by have h9 := clampI (i := x5_) (by omega); omega) (by first | (intro _; rfl) | (intro h9; exfalso; omega)), NONE⟩ | exact Or.inr ⟨by omega, kf59, qf59, by unfold sStory sMore; rw [pif_f (show ¬ 6 ≤ D 0 7 by omega), hsp8, bnd_ok, hsp12, bnd_ok, pif_f (show ¬ sKind B n p12 = -1 by omega), hsp24, bnd_ok, pif_f (show ¬ sKind B n p12 = 2 by omega), pif_t (show sKind B n p12 = 3 by omega), hsp59, bnd_er], hf159, hf259⟩ | exact Or.inr ⟨by omega, 5, _, by unfold sStory sMore; rw [pif_f (show ¬ 6 ≤ D 0 7 by omega), hsp8, bnd_ok, hsp12, bnd_ok, pif_f (show ¬ sKind B n p12 = -1 by omega), hsp24, bnd_ok, pif_f (show ¬ sKind B n p12 = 2 by omega), pif_t (show sKind B n p12 = 3 by omega), hsp59, bnd_er], by omega, by assumption⟩ | exact Or.inr ⟨by omega, 1, _, by unfold sStory sMore; rw [pif_f (show ¬ 6 ≤ D 0 7 by omega), hsp8, bnd_ok, hsp12, bnd_ok, pif_f (show ¬ sKind B n p12 = -1 by omega), hsp24, bnd_ok, pif_f (show ¬ sKind B n p12 = 2 by omega), pif_t (show sKind B n p12 = 3 by omega), hsp59, bnd_er], by omega, by assumption⟩), (by exact ob59), (by exact oc59)⟩⟩
            · refine r_aload_n hC dX6_takeStory_118 1 rfl ?_
              refine r_ldcS hC (i := 21) (by decide) rfl rfl dX6_takeStory_119 ?_
              refine r_iconst hC (v := (1)) dX6_takeStory_121 (by decide) (by decide) (fun x73_ e73 t73 => ?_)
              refine r_bipush hC (v := (20)) dX6_takeStory_122 (by decide) (by decide) (fun x74_ e74 t74 => ?_)
              refine r_callV hC (As := [.ref (g.2.2.1 21), .int x73_, .int x74_]) (rest := []) (ci := 6) (f_X6_takeNumber g (xL X) K len I27 J24 R hs27 a0 ka0 21 (by decide) x73_ x74_ tk htk ktk tp bt hbt hkt hbb hkb nbt B n (hB.mv hF27 hkb (fun _ => rfl)) hn p24 hp24 tkp27) mT_2_239 mT_1_3 mT_2_236 mT_2_238 mP_6 okX6_takeNumber ⟨by decide, by decide⟩ rfl (by show kO (K a0) = _; rw [ka0]; rfl) rfl rfl (Nat.le_of_ble_eq_true rfl) ⟨by decide, by decide⟩ dX6_takeStory_124 (aI2 (F := fun st M => P g X 3 127 [(2, .ref a6_), (0, .ref a0), (1, .ref a1)] st _ _ M) (M := (K, len, I27, J24, R)) fun x75_ I75 J75 h75 => ?_)
              obtain ⟨hs75, hf75, hfj75, k75_0, k75_1, k75_2, k75_3⟩ := h75
              show P g X 3 127 [(2, .ref a6_), (0, .ref a0), (1, .ref a1)] [.int x75_] _ _ (K, len, I75, J75, R)
              have hF75 : Fr K [(2, 6), (5, 0), (5, 1), (5, 2), (5, 3), (7, 3), (7, 4), (7, 5), (7, 6), (8, 2), (8, 3), (8, 4)] I I75 := hF27.trans hf75 rfl rfl
              have hFJ75 : Fr K [(8, 5), (42, 999)] J J75 := hFJ24.trans hfj75 rfl rfl
              have rw75 := rw27.mv hcx qC_big hf75 rfl
              have oc75 := oc27.mv qC_big hf75 rfl
              have rp75 := rp27.mv hf75 hfj75 ka0 ka1 klk knr kpr rfl (fun _ => rfl) (fun _ => rfl)
              have ob75 := ob27.mv hf75 rfl
              rcases k75_3 with ⟨hr75, v75, p75, hsp75, hp75, tk75, hw75, fl75⟩ | ⟨hr75, kf75, qf75, hsp75, hf175, hf275⟩
              · have fq75 : I75 a0 5 = I a0 5 := fl75.trans fp27
                rw [show x73_.toInt = 1 by omega, show x74_.toInt = 20 by omega] at hsp75
                refine r_if_ne hC (tgt := 132) dX6_takeStory_127 (by decide) (fun c76 => ?_) (fun c76 => ?_)
                rotate_left
                · exfalso; omega
                refine r_aload_n hC dX6_takeStory_132 0 rfl ?_
                refine r_geti hC 1 (ci := 4) rfl u4_in (by decide) mT_1_164 dX6_takeStory_133 hk6 rfl rfl (fun x77_ e77 => ?_)
                have f77 : x77_.toInt = (I75 a6_ 1).toInt := by rw [e77]
                have w77 : x77_ = x28_ := by rw [e77]; exact (Eq.trans (hf75.get hk6 rfl) e28.symm)
                have wt77 : x77_.toInt = x28_.toInt := by rw [w77]
                refine r_iconst hC (v := (3)) dX6_takeStory_136 (by decide) (by decide) (fun x78_ e78 t78 => ?_)
                refine r_icmp_ne hC (tgt := 155) dX6_takeStory_137 (by decide) (fun c79 => ?_) (fun c79 => ?_)
                rotate_left
                · exfalso; omega
                refine r_aload_n hC dX6_takeStory_155 0 rfl ?_
                refine r_geti hC 1 (ci := 4) rfl u4_in (by decide) mT_1_164 dX6_takeStory_156 hk6 rfl rfl (fun x80_ e80 => ?_)
                have f80 : x80_.toInt = (I75 a6_ 1).toInt := by rw [e80]
                have w80 : x80_ = x77_ := by rw [e80]; exact e77.symm
                have wt80 : x80_.toInt = x77_.toInt := by rw [w80]
                refine r_iconst hC (v := (4)) dX6_takeStory_159 (by decide) (by decide) (fun x81_ e81 t81 => ?_)
                refine r_icmp_ne hC (tgt := 177) dX6_takeStory_160 (by decide) (fun c82 => ?_) (fun c82 => ?_)
                rotate_left
                · exfalso; omega
                refine r_aload_n hC dX6_takeStory_177 0 rfl ?_
                refine r_aload_n hC dX6_takeStory_178 1 rfl ?_
                refine r_geti hC 4 (ci := 6) rfl u6_in (by decide) mT_1_85 dX6_takeStory_179 ka0 rfl rfl (fun x83_ e83 => ?_)
                have f83 : x83_.toInt = (I75 a0 4).toInt := by rw [e83]
                refine r_puti hC 3 (ci := 4) rfl u4_in tyX4_ok nmX4 (by decide) mT_1_170 rfl rfl rfl dX6_takeStory_182 hk6 rfl rfl (fun I84 eI84 => ?_)
                have hs84 := hs75.put0 eI84 hk6 rfl rfl rfl (by decide)
                have hF84 := hF75.put eI84 hk6 rfl
                have fp84 : I84 a0 5 = I a0 5 := (up2_kk eI84 hk6 ka0 (by decide)).trans fq75
                have tkp84 := tk75.put eI84 hk6 ktk (by decide)
                have rp84 := rp75.put eI84 hk6 ka0 ka1 klk rfl
                have ob84 := ob75.put eI84 hk6 (by first | exact Or.inr rfl | exact Or.inl (by decide)) (by first | exact Or.inr rfl | exact Or.inl (by decide))
                have rw84 := rw75.put hcx (r0 := 9) (j0 := x5_.toNatClampNeg) (w := v75) (cCs (k := 3) (by decide) (by have h9 := clampI (i := x5_) (by omega); omega) hb4 hb6) eI84 (by omega) (show ((x5_.toNatClampNeg : Nat) : Int) = D8 0 7 from by have h9 := clampI (i := x5_) (by omega); omega) (fun h9 => absurd h9 (by decide))
                have oc84 := oc75.put (cCs (k := 3) (by decide) (by have h9 := clampI (i := x5_) (by omega); omega) hb4 hb6) eI84
                refine r_aload_n hC dX6_takeStory_185 2 rfl ?_
                refine r_dup hC dX6_takeStory_186 rfl ?_
                refine r_geti hC 6 (ci := 1) rfl u1_in (by decide) mT_1_201 dX6_takeStory_187 ka1 rfl rfl (fun x85_ e85 => ?_)
                have r85 := hs84.rng ka1 rfl e85
                have f85 : x85_.toInt = (I84 a1 6).toInt := by rw [e85]
                have w85 : x85_ = x5_ := by rw [e85]; exact (Eq.trans (up2_kk eI84 hk6 ka1 (by decide)) (Eq.trans (hf75.get ka1 rfl) (Eq.trans (up2_kk eI27 hk6 ka1 (by decide)) (Eq.trans (hf24.get ka1 rfl) (Eq.trans (hf21.get ka1 rfl) (Eq.trans (up2_kk eI17 hk6 ka1 (by decide)) (Eq.trans (up2_kk eI15 hk6 ka1 (by decide)) (Eq.trans (hf12.get ka1 rfl) (Eq.trans (hf8.get ka1 rfl) (Eq.trans (hf7.get ka1 rfl) e5.symm))))))))))
                have wt85 : x85_.toInt = x5_.toInt := by rw [w85]
                refine r_iconst hC (v := (1)) dX6_takeStory_190 (by decide) (by decide) (fun x86_ e86 t86 => ?_)
                refine r_iadd hC dX6_takeStory_191 (fun x87_ e87 => ?_)
                try have t87 : x87_.toInt = x85_.toInt + x86_.toInt := by rw [e87]; exact ti_add (by omega) (by omega)
                refine r_puti hC 6 (ci := 1) rfl u1_in tyX1_ok nmX1 (by decide) mT_1_201 rfl rfl rfl dX6_takeStory_192 ka1 rfl rfl (fun I88 eI88 => ?_)
                have hs88 := hs84.put1 eI88 ka1 rfl (by omega) (by omega) rfl rfl (by decide)
                have hF88 := hF84.put eI88 ka1 rfl
                have fp88 : I88 a0 5 = I a0 5 := (up2_kk eI88 ka1 ka0 (by decide)).trans fp84
                have tkp88 := tkp84.put eI88 ka1 ktk (by decide)
                have rc88 : (I84 a1 6).toInt = D8 0 7 := rp84.1.2.2.2.2.2.2.2.1
                have rp88 := rp84.set7 (v := (D8 0 7 + 1)) eI88 (by omega) ka0 ka1 klk
                have ob88 := ob84.put eI88 ka1 (by first | exact Or.inr rfl | exact Or.inl (by decide)) (by first | exact Or.inr rfl | exact Or.inl (by decide))
                have rw88 := rw84.putO hcx eI88 ka1 rfl
                have oc88 := oc84.putO eI88 ka1 rfl
                refine r_iconst hC (v := (1)) dX6_takeStory_195 (by decide) (by decide) (fun x89_ e89 t89 => ?_)
                exact r_iret hC hQ hlk hr (by rw [e89]; rfl) (by decide) (by decide) dX6_takeStory_196 ⟨_, _, _, rfl, rfl, ⟨hs88, hF88, hFJ75, (by omega), (by omega), (by first | (exfalso; omega) | exact Or.inl ⟨by omega, _, _, by unfold sStory sMore; rw [pif_f (show ¬ 6 ≤ D 0 7 by omega), hsp8, bnd_ok, hsp12, bnd_ok, pif_f (show ¬ sKind B n p12 = -1 by omega), hsp24, bnd_ok, pif_t (show sKind B n p12 = 2 by omega), hsp75, bnd_ok], hp75, tkp88, (rp88).cg (by intro k; simp [upD, aStory]) (by intro k; simp [upD, aStory]) (by intro k; simp [upD, aStory]), rw88.sto (by have h9 := clampI (i := x5_) (by omega); omega) (by first | (intro _; rfl) | (intro h9; exfalso; omega)), fp88⟩ | exact Or.inr ⟨by omega, kf75, qf75, by unfold sStory sMore; rw [pif_f (show ¬ 6 ≤ D 0 7 by omega), hsp8, bnd_ok, hsp12, bnd_ok, pif_f (show ¬ sKind B n p12 = -1 by omega), hsp24, bnd_ok, pif_t (show sKind B n p12 = 2 by omega), hsp75, bnd_ok], hf175, hf275⟩ | exact Or.inr ⟨by omega, 5, _, by unfold sStory sMore; rw [pif_f (show ¬ 6 ≤ D 0 7 by omega), hsp8, bnd_ok, hsp12, bnd_ok, pif_f (show ¬ sKind B n p12 = -1 by omega), hsp24, bnd_ok, pif_t (show sKind B n p12 = 2 by omega), hsp75, bnd_ok], by omega, by assumption⟩ | exact Or.inr ⟨by omega, 1, _, by unfold sStory sMore; rw [pif_f (show ¬ 6 ≤ D 0 7 by omega), hsp8, bnd_ok, hsp12, bnd_ok, pif_f (show ¬ sKind B n p12 = -1 by omega), hsp24, bnd_ok, pif_t (show sKind B n p12 = 2 by omega), hsp75, bnd_ok], by omega, by assumption⟩), (by exact ob88), (by exact oc88)⟩⟩
              · rw [show x73_.toInt = 1 by omega, show x74_.toInt = 20 by omega] at hsp75
                refine r_if_ne hC (tgt := 132) dX6_takeStory_127 (by decide) (fun c90 => ?_) (fun c90 => ?_)
                · exfalso; omega
                refine r_iconst hC (v := (0)) dX6_takeStory_130 (by decide) (by decide) (fun x91_ e91 t91 => ?_)
                exact r_iret hC hQ hlk hr (by rw [e91]; rfl) (by decide) (by decide) dX6_takeStory_131 ⟨_, _, _, rfl, rfl, ⟨hs75, hF75, hFJ75, (by omega), (by omega), (by first | (exfalso; omega) | exact Or.inl ⟨by omega, _, _, by unfold sStory sMore; rw [pif_f (show ¬ 6 ≤ D 0 7 by omega), hsp8, bnd_ok, hsp12, bnd_ok, pif_f (show ¬ sKind B n p12 = -1 by omega), hsp24, bnd_ok, pif_t (show sKind B n p12 = 2 by omega), hsp75, bnd_er], hp24, NONE, (NONE).cg (by intro k; simp [upD, aStory]) (by intro k; simp [upD, aStory]) (by intro k; simp [upD, aStory]), NONE.sto (by have h9 := clampI (i := x5_) (by omega); omega) (by first | (intro _; rfl) | (intro h9; exfalso; omega)), NONE⟩ | exact Or.inr ⟨by omega, kf75, qf75, by unfold sStory sMore; rw [pif_f (show ¬ 6 ≤ D 0 7 by omega), hsp8, bnd_ok, hsp12, bnd_ok, pif_f (show ¬ sKind B n p12 = -1 by omega), hsp24, bnd_ok, pif_t (show sKind B n p12 = 2 by omega), hsp75, bnd_er], hf175, hf275⟩ | exact Or.inr ⟨by omega, 5, _, by unfold sStory sMore; rw [pif_f (show ¬ 6 ≤ D 0 7 by omega), hsp8, bnd_ok, hsp12, bnd_ok, pif_f (show ¬ sKind B n p12 = -1 by omega), hsp24, bnd_ok, pif_t (show sKind B n p12 = 2 by omega), hsp75, bnd_er], by omega, by assumption⟩ | exact Or.inr ⟨by omega, 1, _, by unfold sStory sMore; rw [pif_f (show ¬ 6 ≤ D 0 7 by omega), hsp8, bnd_ok, hsp12, bnd_ok, pif_f (show ¬ sKind B n p12 = -1 by omega), hsp24, bnd_ok, pif_t (show sKind B n p12 = 2 by omega), hsp75, bnd_er], by omega, by assumption⟩), (by exact ob75), (by exact oc75)⟩⟩
          · rw [show x22_.toInt = 0 by omega, show x23_.toInt = 99 by omega] at hsp24
            refine r_if_ne hC (tgt := 102) dX6_takeStory_97 (by decide) (fun c92 => ?_) (fun c92 => ?_)
            · exfalso; omega
            refine r_iconst hC (v := (0)) dX6_takeStory_100 (by decide) (by decide) (fun x93_ e93 t93 => ?_)
            exact r_iret hC hQ hlk hr (by rw [e93]; rfl) (by decide) (by decide) dX6_takeStory_101 ⟨_, _, _, rfl, rfl, ⟨hs24, hF24, hFJ24, (by omega), (by omega), (by first | (exfalso; omega) | exact Or.inl ⟨by omega, _, _, by unfold sStory sMore; rw [pif_f (show ¬ 6 ≤ D 0 7 by omega), hsp8, bnd_ok, hsp12, bnd_ok, pif_f (show ¬ sKind B n p12 = -1 by omega), hsp24, bnd_er], (nx_le hp12).2, NONE, (NONE).cg (by intro k; simp [upD, aStory]) (by intro k; simp [upD, aStory]) (by intro k; simp [upD, aStory]), NONE.sto (by have h9 := clampI (i := x5_) (by omega); omega) (by first | (intro _; rfl) | (intro h9; exfalso; omega)), NONE⟩ | exact Or.inr ⟨by omega, kf24, qf24, by unfold sStory sMore; rw [pif_f (show ¬ 6 ≤ D 0 7 by omega), hsp8, bnd_ok, hsp12, bnd_ok, pif_f (show ¬ sKind B n p12 = -1 by omega), hsp24, bnd_er], hf124, hf224⟩ | exact Or.inr ⟨by omega, 5, _, by unfold sStory sMore; rw [pif_f (show ¬ 6 ≤ D 0 7 by omega), hsp8, bnd_ok, hsp12, bnd_ok, pif_f (show ¬ sKind B n p12 = -1 by omega), hsp24, bnd_er], by omega, by assumption⟩ | exact Or.inr ⟨by omega, 1, _, by unfold sStory sMore; rw [pif_f (show ¬ 6 ≤ D 0 7 by omega), hsp8, bnd_ok, hsp12, bnd_ok, pif_f (show ¬ sKind B n p12 = -1 by omega), hsp24, bnd_er], by omega, by assumption⟩), (by exact ob24), (by exact oc24)⟩⟩
        · refine r_aload_n hC dX6_takeStory_77 1 rfl ?_
          refine r_iconst hC (v := (1)) dX6_takeStory_78 (by decide) (by decide) (fun x94_ e94 t94 => ?_)
          refine r_callV hC (As := [.int x94_]) (rest := []) (ci := 6) (f_X6_faulty g (xL X) K len I17 J12 R hs17 a0 ka0 x94_ tk htk ktk tp bt hbt hkt hbb hkb nbt B n (hB.mv hF17 hkb (fun _ => rfl)) hn p12 hp12 tkp17) mT_2_233 mT_1_3 mT_2_230 mT_2_232 mP_5 okX6_faulty ⟨by decide, by decide⟩ rfl (by show kO (K a0) = _; rw [ka0]; rfl) rfl rfl (Nat.le_of_ble_eq_true rfl) ⟨by decide, by decide⟩ dX6_takeStory_79 (aI1 (F := fun st M => P g X 3 82 [(2, .ref a6_), (0, .ref a0), (1, .ref a1)] st _ _ M) (M := (K, len, I17, J12, R)) fun x95_ I95 h95 => ?_)
          obtain ⟨hs95, hf95, k95_0, k95_1, k95_2⟩ := h95
          show P g X 3 82 [(2, .ref a6_), (0, .ref a0), (1, .ref a1)] [.int x95_] _ _ (K, len, I95, J12, R)
          have hF95 : Fr K [(2, 6), (5, 0), (5, 1), (5, 2), (5, 3), (7, 3), (7, 4), (7, 5), (7, 6), (8, 2), (8, 3), (8, 4)] I I95 := hF17.trans hf95 rfl rfl
          have tkm95 := tkp17.mvI hf95 ktk rfl rfl rfl rfl
          have rw95 := rw17.mv hcx qC_big hf95 rfl
          have oc95 := oc17.mv qC_big hf95 rfl
          have rp95 := rp17.mvI hf95 ka0 ka1 klk rfl
          have ob95 := ob17.mv hf95 rfl
          exact r_iret hC hQ hlk hr (nz_b (by omega) (by omega)) (by decide) (by decide) dX6_takeStory_82 ⟨_, _, _, rfl, rfl, ⟨hs95, hF95, hFJ12, (by omega), (by omega), (by first | (exfalso; omega) | exact Or.inl ⟨by omega, _, _, by unfold sStory sMore; rw [pif_f (show ¬ 6 ≤ D 0 7 by omega), hsp8, bnd_ok, hsp12, bnd_ok, pif_t (show sKind B n p12 = -1 by omega)], hp12, tkm95, (rp95).cg (by intro k; simp [upD, aStory]) (by intro k; simp [upD, aStory]) (by intro k; simp [upD, aStory]), rw95.sto (by have h9 := clampI (i := x5_) (by omega); omega) (by first | (intro _; rfl) | (intro h9; exfalso; omega)), NONE⟩ | exact Or.inr ⟨by omega, kf95, qf95, by unfold sStory sMore; rw [pif_f (show ¬ 6 ≤ D 0 7 by omega), hsp8, bnd_ok, hsp12, bnd_ok, pif_t (show sKind B n p12 = -1 by omega)], hf195, hf295⟩ | exact Or.inr ⟨by omega, 5, _, by unfold sStory sMore; rw [pif_f (show ¬ 6 ≤ D 0 7 by omega), hsp8, bnd_ok, hsp12, bnd_ok, pif_t (show sKind B n p12 = -1 by omega)], by omega, by assumption⟩ | exact Or.inr ⟨by omega, 1, _, by unfold sStory sMore; rw [pif_f (show ¬ 6 ≤ D 0 7 by omega), hsp8, bnd_ok, hsp12, bnd_ok, pif_t (show sKind B n p12 = -1 by omega)], by omega, by assumption⟩), (by exact ob95), (by exact oc95)⟩⟩
      · rw [show x10_.toInt = 1 by omega, show x11_.toInt = 99 by omega] at hsp12
        refine r_if_ne hC (tgt := 53) dX6_takeStory_48 (by decide) (fun c96 => ?_) (fun c96 => ?_)
        · exfalso; omega
        refine r_iconst hC (v := (0)) dX6_takeStory_51 (by decide) (by decide) (fun x97_ e97 t97 => ?_)
        exact r_iret hC hQ hlk hr (by rw [e97]; rfl) (by decide) (by decide) dX6_takeStory_52 ⟨_, _, _, rfl, rfl, ⟨hs12, hF12, hFJ12, (by omega), (by omega), (by first | (exfalso; omega) | exact Or.inl ⟨by omega, _, _, by unfold sStory sMore; rw [pif_f (show ¬ 6 ≤ D 0 7 by omega), hsp8, bnd_ok, hsp12, bnd_er], hp8, NONE, (NONE).cg (by intro k; simp [upD, aStory]) (by intro k; simp [upD, aStory]) (by intro k; simp [upD, aStory]), NONE.sto (by have h9 := clampI (i := x1) (by omega); omega) (by first | (intro _; rfl) | (intro h9; exfalso; omega)), NONE⟩ | exact Or.inr ⟨by omega, kf12, qf12, by unfold sStory sMore; rw [pif_f (show ¬ 6 ≤ D 0 7 by omega), hsp8, bnd_ok, hsp12, bnd_er], hf112, hf212⟩ | exact Or.inr ⟨by omega, 5, _, by unfold sStory sMore; rw [pif_f (show ¬ 6 ≤ D 0 7 by omega), hsp8, bnd_ok, hsp12, bnd_er], by omega, by assumption⟩ | exact Or.inr ⟨by omega, 1, _, by unfold sStory sMore; rw [pif_f (show ¬ 6 ≤ D 0 7 by omega), hsp8, bnd_ok, hsp12, bnd_er], by omega, by assumption⟩), (by exact ob12), (by exact oc12)⟩⟩
    · refine r_if_eq hC (tgt := 51) dX6_takeStory_36 (by decide) (fun c98 => ?_) (fun c98 => ?_)
      rotate_left
      · exfalso; omega
      refine r_iconst hC (v := (0)) dX6_takeStory_51 (by decide) (by decide) (fun x99_ e99 t99 => ?_)
      exact r_iret hC hQ hlk hr (by rw [e99]; rfl) (by decide) (by decide) dX6_takeStory_52 ⟨_, _, _, rfl, rfl, ⟨hs8, hF8, hFJ8, (by omega), (by omega), (by first | (exfalso; omega) | exact Or.inl ⟨by omega, _, _, by unfold sStory sMore; rw [pif_f (show ¬ 6 ≤ D 0 7 by omega), hsp8, bnd_er], (nx_le hp).2, NONE, (NONE).cg (by intro k; simp [upD, aStory]) (by intro k; simp [upD, aStory]) (by intro k; simp [upD, aStory]), NONE.sto (by have h9 := clampI (i := x1) (by omega); omega) (by first | (intro _; rfl) | (intro h9; exfalso; omega)), NONE⟩ | exact Or.inr ⟨by omega, kf8, qf8, by unfold sStory sMore; rw [pif_f (show ¬ 6 ≤ D 0 7 by omega), hsp8, bnd_er], hf18, hf28⟩ | exact Or.inr ⟨by omega, 5, _, by unfold sStory sMore; rw [pif_f (show ¬ 6 ≤ D 0 7 by omega), hsp8, bnd_er], by omega, by assumption⟩ | exact Or.inr ⟨by omega, 1, _, by unfold sStory sMore; rw [pif_f (show ¬ 6 ≤ D 0 7 by omega), hsp8, bnd_er], by omega, by assumption⟩), (by exact ob8), (by exact oc8)⟩⟩
  · refine r_aload_n hC dX6_takeStory_9 0 rfl ?_
    refine r_iconst hC (v := (5)) dX6_takeStory_10 (by decide) (by decide) (fun x100_ e100 t100 => ?_)
    refine r_callV hC (As := [.int x100_]) (rest := []) (ci := 6) (f_X6_faulty g (xL X) K len I J R hs a0 ka0 x100_ tk htk ktk tp bt hbt hkt hbb hkb nbt B n (hB.mv hF hkb (fun _ => rfl)) hn p hp tkc) mT_2_233 mT_1_3 mT_2_230 mT_2_232 mP_5 okX6_faulty ⟨by decide, by decide⟩ rfl (by show kO (K a0) = _; rw [ka0]; rfl) rfl rfl (Nat.le_of_ble_eq_true rfl) ⟨by decide, by decide⟩ dX6_takeStory_11 (aI1 (F := fun st M => P g X 3 14 [(0, .ref a0), (1, .ref a1)] st _ _ M) (M := (K, len, I, J, R)) fun x101_ I101 h101 => ?_)
    obtain ⟨hs101, hf101, k101_0, k101_1, k101_2⟩ := h101
    show P g X 3 14 [(0, .ref a0), (1, .ref a1)] [.int x101_] _ _ (K, len, I101, J, R)
    have hF101 : Fr K [(2, 6), (5, 0), (5, 1), (5, 2), (5, 3), (7, 3), (7, 4), (7, 5), (7, 6), (8, 2), (8, 3), (8, 4)] I I101 := hF.trans hf101 rfl rfl
    have tkm101 := tkc.mvI hf101 ktk rfl rfl rfl rfl
    have rw101 := rwd.mv hcx qC_big hf101 rfl
    have oc101 := oc.mv qC_big hf101 rfl
    have rp101 := rep.mvI hf101 ka0 ka1 klk rfl
    have ob101 := ob.mv hf101 rfl
    exact r_iret hC hQ hlk hr (nz_b (by omega) (by omega)) (by decide) (by decide) dX6_takeStory_14 ⟨_, _, _, rfl, rfl, ⟨hs101, hF101, hFJ, (by omega), (by omega), (by first | (exfalso; omega) | exact Or.inl ⟨by omega, _, _, by unfold sStory sMore; rw [pif_t (show 6 ≤ D 0 7 by omega)], hp, tkm101, (rp101).cg (by intro k; simp [upD, aStory]) (by intro k; simp [upD, aStory]) (by intro k; simp [upD, aStory]), rw101.sto (by have h9 := clampI (i := x1) (by omega); omega) (by first | (intro _; rfl) | (intro h9; exfalso; omega)), NONE⟩ | exact Or.inr ⟨by omega, kf101, qf101, by unfold sStory sMore; rw [pif_t (show 6 ≤ D 0 7 by omega)], hf1101, hf2101⟩ | exact Or.inr ⟨by omega, 5, _, by unfold sStory sMore; rw [pif_t (show 6 ≤ D 0 7 by omega)], by omega, by assumption⟩ | exact Or.inr ⟨by omega, 1, _, by unfold sStory sMore; rw [pif_t (show 6 ≤ D 0 7 by omega)], by omega, by assumption⟩), (by exact ob101), (by exact oc101)⟩⟩
set_option maxHeartbeats 4000000 in
set_option maxRecDepth 100000 in
theorem f_X6_takeKnower (g : GG) (l : Launch) (K len : Nat → Nat) (I : Nat → Nat → Int32) (J : Nat → Nat → Int64) (R : Nat → Nat → Option Nat) (hs : Sf K len I R) (a0 : Nat) (ka0 : K a0 = 7) (a1 : Nat) (ka1 : K a1 = 2) (tk : Nat) (htk : R a0 0 = some tk) (ktk : K tk = 8) (tp : Nat) (bt : Nat) (hbt : R tk 0 = some tp) (hkt : K tp = 6) (hbb : R tp 0 = some bt) (hkb : K bt = 40) (nbt : len bt = 900) (B : Nat → Int) (n : Nat) (hB : BT B n bt I) (hn : n ≤ 900) (p : Nat) (hp : p ≤ n) (tkc : TkC B n tk p I J) (nr : Nat) (hnr : R a0 1 = some nr) (knr : K nr = 42) (lnr : len nr = 19) (pr : Nat) (hpr : R a0 2 = some pr) (kpr : K pr = 48) (lpr : len pr = 5) (lk : Nat) (hlkr : R a1 0 = some lk) (klk : K lk = 3) (D : DD) (hD : DI D) (rep : RpC D a0 nr pr a1 lk I J) (hu : UU K R) (rwd : RW (CC a1 lk R) (cntN D) D I) (hJ : DJ D) : Ct g l yX6_takeKnower cX6_takeKnower 4 (Option.some Jvm.ClassFile.FieldType.boolean) rmX6_takeKnower [.ref a0, .ref a1] (K, len, I, J, R) (pI2 (K, len, I, J, R) (fun r I' J' => Sf K len I' R ∧ Fr K [(2, 12), (7, 3), (7, 4), (7, 5), (7, 6), (8, 2), (8, 3), (8, 4), (61, 999), (62, 999)] I I' ∧ Fr K [(8, 5), (42, 999)] J J' ∧ (0 ≤ r.toInt) ∧ (r.toInt ≤ 1) ∧ (r.toInt = 1 ∧ (∃ (D' : DD) (p' : Nat), sKnower B n p D = .ok (D', p') ∧ p' ≤ n ∧ TkC B n tk p' I' J' ∧ RpC D' a0 nr pr a1 lk I' J' ∧ RW (CC a1 lk R) (cntN D') D' I' ∧ I' a0 5 = I a0 5) ∨ r.toInt = 0 ∧ (∃ (kf : Int) (qf : Nat), sKnower B n p D = .error (kf, qf) ∧ (I' a0 5).toInt = kf ∧ (I' a0 6).toInt = qf)) ∧ (OB K a1 lk I I') ∧ (OC (CC a1 lk R) qC K I I'))) := by
  refine Ct_intro (by decide +kernel) (Nat.le_of_ble_eq_true rfl) (fun X hC hL hKK hNm hr hlk hQ => ?_)
  subst hL
  have hC : Cx g X cX6_takeKnower "HillTap$Teller" 4 rmX6_takeKnower := hC
  show P g X 4 0 [(0, .ref a0), (1, .ref a1)] [] 0 0 (K, len, I, J, R)
  have hF : Fr K [(2, 12), (7, 3), (7, 4), (7, 5), (7, 6), (8, 2), (8, 3), (8, 4), (61, 999), (62, 999)] I I := Fr.refl
  have hFJ : Fr K [(8, 5), (42, 999)] J J := Fr.refl
  have tkc9 := tkc
  obtain ⟨tk3, tk4, tk2, tk1, tk5⟩ := tkc9
  have hnp : nr ≠ pr := fun z => by rw [z, lpr] at lnr; exact absurd lnr (by decide)
  obtain ⟨hD0, ⟨hD1, hD2⟩, ⟨hD3, hD4⟩, ⟨hD5, hD6⟩, ⟨hD7, hD8⟩, ⟨hD9, hD10⟩, hD11, hD12⟩ := id hD
  obtain ⟨rs0, rs1, rs2, rs3, rs4, rs5, rs6, rs7, rs8, rs9, rs10⟩ := id rep.1
  have ob : OB K a1 lk I I := OB.rf
  have hcx := CC_x hs ka1 klk hu
  have oc : OC (CC a1 lk R) qC K I I := OC.rf
  refine r_aload_n hC dX6_takeKnower_0 1 rfl ?_
  refine r_geti hC 12 (ci := 1) rfl u1_in (by decide) mT_1_219 dX6_takeKnower_1 ka1 rfl rfl (fun x1_ e1 => ?_)
  have r1 := hs.rng ka1 rfl e1
  have f1 : x1_.toInt = (I a1 12).toInt := by rw [e1]
  refine r_istore_n hC (lv' := [(2, .int x1_), (0, .ref a0), (1, .ref a1)]) dX6_takeKnower_4 (by decide) rfl ?_
  refine r_iload_n hC dX6_takeKnower_5 0 rfl ?_
  refine r_iconst hC (v := (4)) dX6_takeKnower_6 (by decide) (by decide) (fun x2_ e2 t2 => ?_)
  refine r_icmp_lt hC (tgt := 16) dX6_takeKnower_7 (by decide) (fun c3 => ?_) (fun c3 => ?_)
  · refine r_aload_n hC dX6_takeKnower_16 1 rfl ?_
    refine r_getr hC 0 (ci := 6) rfl u6_in (by decide) mT_1_81 dX6_takeKnower_17 ka0 rfl rfl htk ?_
    refine r_callV hC (As := []) (rest := []) (ci := 7) (f_X7_next g (xL X) K len I J R hs tk ktk tp bt hbt hkt hbb hkb nbt B n (hB.mv hF hkb (fun _ => rfl)) hn (nx B n p) (nx_le hp).2 (tkc.2.2.1) (tkc.2.2.2.1)) mT_2_159 mT_1_4 mT_2_234 mT_2_157 mT_2_158 okX7_next ⟨by decide, by decide⟩ rfl (by show kO (K tk) = _; rw [ktk]; rfl) rfl rfl (Nat.le_of_ble_eq_true rfl) ⟨by decide, by decide⟩ dX6_takeKnower_20 (aV2 (F := fun st M => P g X 4 23 [(2, .int x1_), (0, .ref a0), (1, .ref a1)] st _ _ M) (M := (K, len, I, J, R)) fun I4 J4 h4 => ?_)
    obtain ⟨hs4, hf4, hfj4, k4_0⟩ := h4
    show P g X 4 23 [(2, .int x1_), (0, .ref a0), (1, .ref a1)] [] _ _ (K, len, I4, J4, R)
    have hF4 : Fr K [(2, 12), (7, 3), (7, 4), (7, 5), (7, 6), (8, 2), (8, 3), (8, 4), (61, 999), (62, 999)] I I4 := hF.trans hf4 rfl rfl
    have hFJ4 : Fr K [(8, 5), (42, 999)] J J4 := hFJ.trans hfj4 rfl rfl
    have fp4 : I4 a0 5 = I a0 5 := (hf4.get ka0 rfl).trans rfl
    have rw4 := rwd.mv hcx qC_big hf4 rfl
    have oc4 := oc.mv qC_big hf4 rfl
    have rp4 := rep.mv hf4 hfj4 ka0 ka1 klk knr kpr rfl (fun _ => rfl) (fun _ => rfl)
    have ob4 := ob.mv hf4 rfl
    refine r_aload_n hC dX6_takeKnower_23 1 rfl ?_
    refine r_callV hC (As := []) (rest := []) (ci := 6) (f_X6_takeNewName g (xL X) K len I4 J4 R hs4 a0 ka0 tk htk ktk tp bt hbt hkt hbb hkb nbt B n (hB.mv hF4 hkb (fun _ => rfl)) hn (nx B n p) (nx_le hp).2 k4_0 nr hnr knr lnr pr hpr kpr lpr a1 ka1 lk klk D hD rp4 hu rw4 (by omega)) mT_3_21 mT_1_3 mT_3_18 mT_3_20 mP_9 okX6_takeNewName ⟨by decide, by decide⟩ rfl (by show kO (K a0) = _; rw [ka0]; rfl) rfl rfl (Nat.le_of_ble_eq_true rfl) ⟨by decide, by decide⟩ dX6_takeKnower_24 (aI2 (F := fun st M => P g X 4 27 [(2, .int x1_), (0, .ref a0), (1, .ref a1)] st _ _ M) (M := (K, len, I4, J4, R)) fun x5_ I5 J5 h5 => ?_)
    obtain ⟨hs5, hf5, hfj5, k5_0, k5_1, k5_2, k5_3, k5_4, k5_5⟩ := h5
    show P g X 4 27 [(2, .int x1_), (0, .ref a0), (1, .ref a1)] [.int x5_] _ _ (K, len, I5, J5, R)
    have hF5 : Fr K [(2, 12), (7, 3), (7, 4), (7, 5), (7, 6), (8, 2), (8, 3), (8, 4), (61, 999), (62, 999)] I I5 := hF4.trans hf5 rfl rfl
    have hFJ5 : Fr K [(8, 5), (42, 999)] J J5 := hFJ4.trans hfj5 rfl rfl
    have oc5 := oc4.tr k5_4
    have ob5 := ob4.tr k5_3
    rcases k5_2 with ⟨hr5, D5, p5, hsp5, hp5, tk5, rep5, rwL5, fl5⟩ | ⟨hr5, kf5, qf5, hsp5, hf15, hf25⟩
    · have fq5 : I5 a0 5 = I a0 5 := fl5.trans fp4
      have fz5_5 := sFresh_5 hsp5 (k := 5) (by decide)
      have fz5_9 := sFresh_5 hsp5 (k := 9) (by decide)
      refine r_if_ne hC (tgt := 32) dX6_takeKnower_27 (by decide) (fun c6 => ?_) (fun c6 => ?_)
      rotate_left
      · exfalso; omega
      refine r_aload_n hC dX6_takeKnower_32 1 rfl ?_
      refine r_getr hC 0 (ci := 6) rfl u6_in (by decide) mT_1_81 dX6_takeKnower_33 ka0 rfl rfl htk ?_
      refine r_ldcS hC (i := 27) (by decide) rfl rfl dX6_takeKnower_36 ?_
      refine r_callV hC (As := [.ref (g.2.2.1 27)]) (rest := []) (ci := 7) (f_X7_isWord g (xL X) K len I5 J5 R hs5 tk ktk 27 (by decide) tp bt hbt hkt hbb hkb nbt B n (hB.mv hF5 hkb (fun _ => rfl)) hn p5 hp5 tk5) mT_2_177 mT_1_4 mT_2_174 mT_2_175 mT_2_176 okX7_isWord ⟨by decide, by decide⟩ rfl (by show kO (K tk) = _; rw [ktk]; rfl) rfl rfl (Nat.le_of_ble_eq_true rfl) ⟨by decide, by decide⟩ dX6_takeKnower_38 (aI0 (F := fun st M => P g X 4 41 [(2, .int x1_), (0, .ref a0), (1, .ref a1)] st _ _ M) (M := (K, len, I5, J5, R)) fun x7_ h7 => ?_)
      obtain ⟨k7_0, k7_1, k7_2⟩ := h7
      show P g X 4 41 [(2, .int x1_), (0, .ref a0), (1, .ref a1)] [.int x7_] _ _ (K, len, I5, J5, R)
      rcases k7_2 with ⟨hr7, hw7⟩ | ⟨hr7, hw7⟩
      · refine r_if_ne hC (tgt := 50) dX6_takeKnower_41 (by decide) (fun c8 => ?_) (fun c8 => ?_)
        rotate_left
        · exfalso; omega
        refine r_aload_n hC dX6_takeKnower_50 1 rfl ?_
        refine r_getr hC 0 (ci := 6) rfl u6_in (by decide) mT_1_81 dX6_takeKnower_51 ka0 rfl rfl htk ?_
        refine r_callV hC (As := []) (rest := []) (ci := 7) (f_X7_next g (xL X) K len I5 J5 R hs5 tk ktk tp bt hbt hkt hbb hkb nbt B n (hB.mv hF5 hkb (fun _ => rfl)) hn (nx B n p5) (nx_le hp5).2 (tk5.2.2.1) (tk5.2.2.2.1)) mT_2_159 mT_1_4 mT_2_234 mT_2_157 mT_2_158 okX7_next ⟨by decide, by decide⟩ rfl (by show kO (K tk) = _; rw [ktk]; rfl) rfl rfl (Nat.le_of_ble_eq_true rfl) ⟨by decide, by decide⟩ dX6_takeKnower_54 (aV2 (F := fun st M => P g X 4 57 [(2, .int x1_), (0, .ref a0), (1, .ref a1)] st _ _ M) (M := (K, len, I5, J5, R)) fun I9 J9 h9 => ?_)
        obtain ⟨hs9, hf9, hfj9, k9_0⟩ := h9
        show P g X 4 57 [(2, .int x1_), (0, .ref a0), (1, .ref a1)] [] _ _ (K, len, I9, J9, R)
        have hF9 : Fr K [(2, 12), (7, 3), (7, 4), (7, 5), (7, 6), (8, 2), (8, 3), (8, 4), (61, 999), (62, 999)] I I9 := hF5.trans hf9 rfl rfl
        have hFJ9 : Fr K [(8, 5), (42, 999)] J J9 := hFJ5.trans hfj9 rfl rfl
        have fp9 : I9 a0 5 = I a0 5 := (hf9.get ka0 rfl).trans fq5
        have rw9 := rwL5.mv hcx qC_big hf9 rfl
        have oc9 := oc5.mv qC_big hf9 rfl
        have rp9 := rep5.mv hf9 hfj9 ka0 ka1 klk knr kpr rfl (fun _ => rfl) (fun _ => rfl)
        have ob9 := ob5.mv hf9 rfl
        refine r_aload_n hC dX6_takeKnower_57 1 rfl ?_
        refine r_callV hC (As := []) (rest := []) (ci := 6) (f_X6_isName g (xL X) K len I9 J9 R hs9 a0 ka0 tk htk ktk tp bt hbt hkt hbb hkb nbt B n (hB.mv hF9 hkb (fun _ => rfl)) hn (nx B n p5) (nx_le hp5).2 k9_0) mT_3_25 mT_1_3 mT_3_22 mT_3_24 mP_10 okX6_isName ⟨by decide, by decide⟩ rfl (by show kO (K a0) = _; rw [ka0]; rfl) rfl rfl (Nat.le_of_ble_eq_true rfl) ⟨by decide, by decide⟩ dX6_takeKnower_58 (aI0 (F := fun st M => P g X 4 61 [(2, .int x1_), (0, .ref a0), (1, .ref a1)] st _ _ M) (M := (K, len, I9, J9, R)) fun x10_ h10 => ?_)
        obtain ⟨k10_0, k10_1, k10_2⟩ := h10
        show P g X 4 61 [(2, .int x1_), (0, .ref a0), (1, .ref a1)] [.int x10_] _ _ (K, len, I9, J9, R)
        rcases k10_2 with ⟨hr10, hw10⟩ | ⟨hr10, hw10⟩
        · refine r_if_ne hC (tgt := 70) dX6_takeKnower_61 (by decide) (fun c11 => ?_) (fun c11 => ?_)
          rotate_left
          · exfalso; omega
          refine r_aload_n hC dX6_takeKnower_70 1 rfl ?_
          refine r_aload_n hC dX6_takeKnower_71 1 rfl ?_
          refine r_getr hC 0 (ci := 6) rfl u6_in (by decide) mT_1_81 dX6_takeKnower_72 ka0 rfl rfl htk ?_
          refine r_getj hC 5 (ci := 7) rfl u7_in (by decide) mT_1_66 dX6_takeKnower_75 ktk rfl rfl (fun y12_ e12 => ?_)
          have fj12 : y12_.toInt = (J9 tk 5).toInt := by rw [e12]
          refine r_aload_n hC dX6_takeKnower_78 2 rfl ?_
          refine r_geti hC 1 (ci := 1) rfl u1_in (by decide) mT_1_186 dX6_takeKnower_79 ka1 rfl rfl (fun x13_ e13 => ?_)
          have r13 := hs9.rng ka1 rfl e13
          have f13 : x13_.toInt = (I9 a1 1).toInt := by rw [e13]
          have hvk : y12_.toInt = vl B n (nx B n p5) := fj12.trans (k9_0.2.2.2.2 (Or.inl hw10.1))
          have hpg : (I9 a1 1).toInt = D5 0 5 := rp9.1.2.2.2.2.2.1
          refine r_callV hC (As := [.long y12_, .int x13_]) (rest := []) (ci := 6) (f_X6_pegNamed g (xL X) K len I9 J9 R hs9 a0 ka0 y12_ x13_ pr hpr kpr lpr D5 (fun j h9 => rp9.2.2 j (by omega)) (by omega)) mT_3_84 mT_1_3 mT_3_81 mT_3_83 mP_17 okX6_pegNamed ⟨by decide, by decide⟩ rfl (by show kO (K a0) = _; rw [ka0]; rfl) rfl rfl (Nat.le_of_ble_eq_true rfl) ⟨by decide, by decide⟩ dX6_takeKnower_82 (aI0 (F := fun st M => P g X 4 85 [(2, .int x1_), (0, .ref a0), (1, .ref a1)] st _ _ M) (M := (K, len, I9, J9, R)) fun x14_ h14 => ?_)
          have k14_0 := h14
          show P g X 4 85 [(2, .int x1_), (0, .ref a0), (1, .ref a1)] [.int x14_] _ _ (K, len, I9, J9, R)
          rcases k14_0 with ⟨hr14, hn14⟩ | ⟨hr14, hq14, hn14, hm14⟩
          · refine r_istore_n hC (lv' := [(3, .int x14_), (2, .int x1_), (0, .ref a0), (1, .ref a1)]) dX6_takeKnower_85 (by decide) rfl ?_
            refine r_iload_n hC dX6_takeKnower_86 0 rfl ?_
            refine r_iconst hC (v := (-1)) dX6_takeKnower_87 (by decide) (by decide) (fun x15_ e15 t15 => ?_)
            refine r_icmp_ne hC (tgt := 97) dX6_takeKnower_88 (by decide) (fun c16 => ?_) (fun c16 => ?_)
            · exfalso; omega
            refine r_aload_n hC dX6_takeKnower_91 2 rfl ?_
            refine r_iconst hC (v := (2)) dX6_takeKnower_92 (by decide) (by decide) (fun x17_ e17 t17 => ?_)
            refine r_callV hC (As := [.int x17_]) (rest := []) (ci := 6) (f_X6_faulty g (xL X) K len I9 J9 R hs9 a0 ka0 x17_ tk htk ktk tp bt hbt hkt hbb hkb nbt B n (hB.mv hF9 hkb (fun _ => rfl)) hn (nx B n p5) (nx_le hp5).2 k9_0) mT_2_233 mT_1_3 mT_2_230 mT_2_232 mP_5 okX6_faulty ⟨by decide, by decide⟩ rfl (by show kO (K a0) = _; rw [ka0]; rfl) rfl rfl (Nat.le_of_ble_eq_true rfl) ⟨by decide, by decide⟩ dX6_takeKnower_93 (aI1 (F := fun st M => P g X 4 96 [(3, .int x14_), (2, .int x1_), (0, .ref a0), (1, .ref a1)] st _ _ M) (M := (K, len, I9, J9, R)) fun x18_ I18 h18 => ?_)
            obtain ⟨hs18, hf18, k18_0, k18_1, k18_2⟩ := h18
            show P g X 4 96 [(3, .int x14_), (2, .int x1_), (0, .ref a0), (1, .ref a1)] [.int x18_] _ _ (K, len, I18, J9, R)
            have hF18 : Fr K [(2, 12), (7, 3), (7, 4), (7, 5), (7, 6), (8, 2), (8, 3), (8, 4), (61, 999), (62, 999)] I I18 := hF9.trans hf18 rfl rfl
            have tkm18 := k9_0.mvI hf18 ktk rfl rfl rfl rfl
            have rw18 := rw9.mv hcx qC_big hf18 rfl
            have oc18 := oc9.mv qC_big hf18 rfl
            have rp18 := rp9.mvI hf18 ka0 ka1 klk rfl
            have ob18 := ob9.mv hf18 rfl
            exact r_iret hC hQ hlk hr (nz_b (by omega) (by omega)) (by decide) (by decide) dX6_takeKnower_96 ⟨_, _, _, rfl, rfl, ⟨hs18, hF18, hFJ9, (by omega), (by omega), (by first | (exfalso; omega) | exact Or.inl ⟨by omega, _, _, by unfold sKnower; rw [pif_f (show ¬ 4 ≤ D 0 9 by omega), hsp5, bnd_ok, pif_t hw7, pif_t hw10, pif_f (c := ∃ j : Nat, (j : Int) < D5 0 5 ∧ D5 23 j = vl B n (nx B n p5)) (fun h9 => by obtain ⟨j, h1, h2⟩ := h9; exact hn14 j (by omega) (by omega))], (nx_le hp5).2, tkm18, (rp18).cg (by intro k; simp [upD, aKno]) (by intro k; simp [upD, aKno]) (by intro k; simp [upD, aKno]), rw18.kno (by have h9 := clampI (i := x1) (by omega); omega), NONE⟩ | exact Or.inr ⟨by omega, kf18, qf18, by unfold sKnower; rw [pif_f (show ¬ 4 ≤ D 0 9 by omega), hsp5, bnd_ok, pif_t hw7, pif_t hw10, pif_f (c := ∃ j : Nat, (j : Int) < D5 0 5 ∧ D5 23 j = vl B n (nx B n p5)) (fun h9 => by obtain ⟨j, h1, h2⟩ := h9; exact hn14 j (by omega) (by omega))], hf118, hf218⟩ | exact Or.inr ⟨by omega, 5, _, by unfold sKnower; rw [pif_f (show ¬ 4 ≤ D 0 9 by omega), hsp5, bnd_ok, pif_t hw7, pif_t hw10, pif_f (c := ∃ j : Nat, (j : Int) < D5 0 5 ∧ D5 23 j = vl B n (nx B n p5)) (fun h9 => by obtain ⟨j, h1, h2⟩ := h9; exact hn14 j (by omega) (by omega))], by omega, by assumption⟩ | exact Or.inr ⟨by omega, 1, _, by unfold sKnower; rw [pif_f (show ¬ 4 ≤ D 0 9 by omega), hsp5, bnd_ok, pif_t hw7, pif_t hw10, pif_f (c := ∃ j : Nat, (j : Int) < D5 0 5 ∧ D5 23 j = vl B n (nx B n p5)) (fun h9 => by obtain ⟨j, h1, h2⟩ := h9; exact hn14 j (by omega) (by omega))], by omega, by assumption⟩ | exact Or.inr ⟨by omega, 2, _, by unfold sKnower; rw [pif_f (show ¬ 4 ≤ D 0 9 by omega), hsp5, bnd_ok, pif_t hw7, pif_t hw10, pif_f (c := ∃ j : Nat, (j : Int) < D5 0 5 ∧ D5 23 j = vl B n (nx B n p5)) (fun h9 => by obtain ⟨j, h1, h2⟩ := h9; exact hn14 j (by omega) (by omega))], by omega, by assumption⟩), (by exact ob18), (by exact oc18)⟩⟩
          · refine r_istore_n hC (lv' := [(3, .int x14_), (2, .int x1_), (0, .ref a0), (1, .ref a1)]) dX6_takeKnower_85 (by decide) rfl ?_
            refine r_iload_n hC dX6_takeKnower_86 0 rfl ?_
            refine r_iconst hC (v := (-1)) dX6_takeKnower_87 (by decide) (by decide) (fun x19_ e19 t19 => ?_)
            refine r_icmp_ne hC (tgt := 97) dX6_takeKnower_88 (by decide) (fun c20 => ?_) (fun c20 => ?_)
            · refine r_aload_n hC dX6_takeKnower_97 3 rfl ?_
              obtain ⟨a21_, hb21, hk21, hn21⟩ := hs9.row ka1 13 61 4 (by decide) (by decide)
              refine r_getr hC 13 (ci := 1) rfl u1_in (by decide) mT_1_222 dX6_takeKnower_98 ka1 rfl rfl hb21 ?_
              refine r_iload_n hC dX6_takeKnower_101 1 rfl ?_
              refine r_iload_n hC dX6_takeKnower_102 0 rfl ?_
              have px : x14_.toInt = pgx D5 (vl B n (nx B n p5)) := by have h9 := pgx_eq (D := D5) (r := x14_.toInt.toNat) (v := vl B n (nx B n p5)) (by omega) (hn14.trans hvk) (fun j h8 => by have h7 := hm14 j (by omega); omega); omega
              refine x_iastore hC hk21 hn21 (by decide) rfl rfl dX6_takeKnower_103 (by omega) (by omega) (fun I22 eI22 => ?_)
              have hs22 := hs9.put0 eI22 hk21 (rng_arr (by decide) _) rfl (xF_arr (by decide) _) (by decide)
              have hF22 := hF9.put eI22 hk21 (inS_arr rfl _)
              have fp22 : I22 a0 5 = I a0 5 := (up2_kk eI22 hk21 ka0 (by decide)).trans fp9
              have tkp22 := k9_0.put eI22 hk21 ktk (by decide)
              have rp22 := rp9.putA eI22 hk21 ka0 ka1 klk rfl
              have ob22 := ob9.put eI22 hk21 (by first | exact Or.inr rfl | exact Or.inl (by decide)) (by first | exact Or.inr rfl | exact Or.inl (by decide))
              have rw22 := rw9.put hcx (r0 := 13) (j0 := x1_.toNatClampNeg) (w := (pgx D5 (vl B n (nx B n p5)))) (cCt (r := 13) rfl hb21) eI22 (by omega) (show ((x1_.toNatClampNeg : Nat) : Int) = D5 0 9 from by have h9 := clampI (i := x1_) (by omega); omega) (fun h9 => absurd h9 (by decide))
              have oc22 := oc9.put (cCt (r := 13) rfl hb21) eI22
              refine r_aload_n hC dX6_takeKnower_104 2 rfl ?_
              refine r_getr hC 0 (ci := 6) rfl u6_in (by decide) mT_1_81 dX6_takeKnower_105 ka0 rfl rfl htk ?_
              refine r_callV hC (As := []) (rest := []) (ci := 7) (f_X7_next g (xL X) K len I22 J9 R hs22 tk ktk tp bt hbt hkt hbb hkb nbt B n (hB.mv hF22 hkb (fun _ => rfl)) hn (nx B n (nx B n p5)) (nx_le (nx_le hp5).2).2 (tkp22.2.2.1) (tkp22.2.2.2.1)) mT_2_159 mT_1_4 mT_2_234 mT_2_157 mT_2_158 okX7_next ⟨by decide, by decide⟩ rfl (by show kO (K tk) = _; rw [ktk]; rfl) rfl rfl (Nat.le_of_ble_eq_true rfl) ⟨by decide, by decide⟩ dX6_takeKnower_108 (aV2 (F := fun st M => P g X 4 111 [(3, .int x14_), (2, .int x1_), (0, .ref a0), (1, .ref a1)] st _ _ M) (M := (K, len, I22, J9, R)) fun I23 J23 h23 => ?_)
              obtain ⟨hs23, hf23, hfj23, k23_0⟩ := h23
              show P g X 4 111 [(3, .int x14_), (2, .int x1_), (0, .ref a0), (1, .ref a1)] [] _ _ (K, len, I23, J23, R)
              have hF23 : Fr K [(2, 12), (7, 3), (7, 4), (7, 5), (7, 6), (8, 2), (8, 3), (8, 4), (61, 999), (62, 999)] I I23 := hF22.trans hf23 rfl rfl
              have hFJ23 : Fr K [(8, 5), (42, 999)] J J23 := hFJ9.trans hfj23 rfl rfl
              have fp23 : I23 a0 5 = I a0 5 := (hf23.get ka0 rfl).trans fp22
              have rw23 := rw22.mv hcx qC_big hf23 rfl
              have oc23 := oc22.mv qC_big hf23 rfl
              have rp23 := rp22.mv hf23 hfj23 ka0 ka1 klk knr kpr rfl (fun _ => rfl) (fun _ => rfl)
              have ob23 := ob22.mv hf23 rfl
              refine r_aload_n hC dX6_takeKnower_111 2 rfl ?_
              refine r_ldcS hC (i := 28) (by decide) rfl rfl dX6_takeKnower_112 ?_
              refine r_iconst hC (v := (0)) dX6_takeKnower_114 (by decide) (by decide) (fun x24_ e24 t24 => ?_)
              refine r_sipush hC (v := (999)) dX6_takeKnower_115 (by decide) (by decide) (fun x25_ e25 t25 => ?_)
              refine r_callV hC (As := [.ref (g.2.2.1 28), .int x24_, .int x25_]) (rest := []) (ci := 6) (f_X6_takeNumber g (xL X) K len I23 J23 R hs23 a0 ka0 28 (by decide) x24_ x25_ tk htk ktk tp bt hbt hkt hbb hkb nbt B n (hB.mv hF23 hkb (fun _ => rfl)) hn (nx B n (nx B n p5)) (nx_le (nx_le hp5).2).2 k23_0) mT_2_239 mT_1_3 mT_2_236 mT_2_238 mP_6 okX6_takeNumber ⟨by decide, by decide⟩ rfl (by show kO (K a0) = _; rw [ka0]; rfl) rfl rfl (Nat.le_of_ble_eq_true rfl) ⟨by decide, by decide⟩ dX6_takeKnower_118 (aI2 (F := fun st M => P g X 4 121 [(3, .int x14_), (2, .int x1_), (0, .ref a0), (1, .ref a1)] st _ _ M) (M := (K, len, I23, J23, R)) fun x26_ I26 J26 h26 => ?_)
              obtain ⟨hs26, hf26, hfj26, k26_0, k26_1, k26_2, k26_3⟩ := h26
              show P g X 4 121 [(3, .int x14_), (2, .int x1_), (0, .ref a0), (1, .ref a1)] [.int x26_] _ _ (K, len, I26, J26, R)
              have hF26 : Fr K [(2, 12), (7, 3), (7, 4), (7, 5), (7, 6), (8, 2), (8, 3), (8, 4), (61, 999), (62, 999)] I I26 := hF23.trans hf26 rfl rfl
              have hFJ26 : Fr K [(8, 5), (42, 999)] J J26 := hFJ23.trans hfj26 rfl rfl
              have rw26 := rw23.mv hcx qC_big hf26 rfl
              have oc26 := oc23.mv qC_big hf26 rfl
              have rp26 := rp23.mv hf26 hfj26 ka0 ka1 klk knr kpr rfl (fun _ => rfl) (fun _ => rfl)
              have ob26 := ob23.mv hf26 rfl
              rcases k26_3 with ⟨hr26, v26, p26, hsp26, hp26, tk26, hw26, fl26⟩ | ⟨hr26, kf26, qf26, hsp26, hf126, hf226⟩
              · have fq26 : I26 a0 5 = I a0 5 := fl26.trans fp23
                rw [show x24_.toInt = 0 by omega, show x25_.toInt = 999 by omega] at hsp26
                refine r_if_ne hC (tgt := 126) dX6_takeKnower_121 (by decide) (fun c27 => ?_) (fun c27 => ?_)
                rotate_left
                · exfalso; omega
                refine r_aload_n hC dX6_takeKnower_126 3 rfl ?_
                obtain ⟨a28_, hb28, hk28, hn28⟩ := hs26.row ka1 14 62 4 (by decide) (by decide)
                refine r_getr hC 14 (ci := 1) rfl u1_in (by decide) mT_1_225 dX6_takeKnower_127 ka1 rfl rfl hb28 ?_
                refine r_iload_n hC dX6_takeKnower_130 1 rfl ?_
                refine r_aload_n hC dX6_takeKnower_131 2 rfl ?_
                refine r_geti hC 4 (ci := 6) rfl u6_in (by decide) mT_1_85 dX6_takeKnower_132 ka0 rfl rfl (fun x29_ e29 => ?_)
                have f29 : x29_.toInt = (I26 a0 4).toInt := by rw [e29]
                refine x_iastore hC hk28 hn28 (by decide) rfl rfl dX6_takeKnower_135 (by omega) (by omega) (fun I30 eI30 => ?_)
                have hs30 := hs26.put0 eI30 hk28 (rng_arr (by decide) _) rfl (xF_arr (by decide) _) (by decide)
                have hF30 := hF26.put eI30 hk28 (inS_arr rfl _)
                have fp30 : I30 a0 5 = I a0 5 := (up2_kk eI30 hk28 ka0 (by decide)).trans fq26
                have tkp30 := tk26.put eI30 hk28 ktk (by decide)
                have rp30 := rp26.putA eI30 hk28 ka0 ka1 klk rfl
                have ob30 := ob26.put eI30 hk28 (by first | exact Or.inr rfl | exact Or.inl (by decide)) (by first | exact Or.inr rfl | exact Or.inl (by decide))
                have rw30 := rw26.put hcx (r0 := 14) (j0 := x1_.toNatClampNeg) (w := v26) (cCt (r := 14) rfl hb28) eI30 (by omega) (show ((x1_.toNatClampNeg : Nat) : Int) = D5 0 9 from by have h9 := clampI (i := x1_) (by omega); omega) (fun h9 => absurd h9 (by decide))
                have oc30 := oc26.put (cCt (r := 14) rfl hb28) eI30
                refine r_aload_n hC dX6_takeKnower_136 3 rfl ?_
                refine r_dup hC dX6_takeKnower_137 rfl ?_
                refine r_geti hC 12 (ci := 1) rfl u1_in (by decide) mT_1_219 dX6_takeKnower_138 ka1 rfl rfl (fun x31_ e31 => ?_)
                have r31 := hs30.rng ka1 rfl e31
                have f31 : x31_.toInt = (I30 a1 12).toInt := by rw [e31]
                have w31 : x31_ = x1_ := by rw [e31]; exact (Eq.trans (up2_kk eI30 hk28 ka1 (by decide)) (Eq.trans (hf26.get ka1 rfl) (Eq.trans (hf23.get ka1 rfl) (Eq.trans (up2_kk eI22 hk21 ka1 (by decide)) (Eq.trans (hf9.get ka1 rfl) (Eq.trans (hf5.get ka1 rfl) (Eq.trans (hf4.get ka1 rfl) e1.symm)))))))
                have wt31 : x31_.toInt = x1_.toInt := by rw [w31]
                refine r_iconst hC (v := (1)) dX6_takeKnower_141 (by decide) (by decide) (fun x32_ e32 t32 => ?_)
                refine r_iadd hC dX6_takeKnower_142 (fun x33_ e33 => ?_)
                try have t33 : x33_.toInt = x31_.toInt + x32_.toInt := by rw [e33]; exact ti_add (by omega) (by omega)
                refine r_puti hC 12 (ci := 1) rfl u1_in tyX1_ok nmX1 (by decide) mT_1_219 rfl rfl rfl dX6_takeKnower_143 ka1 rfl rfl (fun I34 eI34 => ?_)
                have hs34 := hs30.put1 eI34 ka1 rfl (by omega) (by omega) rfl rfl (by decide)
                have hF34 := hF30.put eI34 ka1 rfl
                have fp34 : I34 a0 5 = I a0 5 := (up2_kk eI34 ka1 ka0 (by decide)).trans fp30
                have tkp34 := tkp30.put eI34 ka1 ktk (by decide)
                have rc34 : (I30 a1 12).toInt = D5 0 9 := rp30.1.2.2.2.2.2.2.2.2.2.1
                have rp34 := rp30.set9 (v := (D5 0 9 + 1)) eI34 (by omega) ka0 ka1 klk
                have ob34 := ob30.put eI34 ka1 (by first | exact Or.inr rfl | exact Or.inl (by decide)) (by first | exact Or.inr rfl | exact Or.inl (by decide))
                have rw34 := rw30.putO hcx eI34 ka1 rfl
                have oc34 := oc30.putO eI34 ka1 rfl
                refine r_iconst hC (v := (1)) dX6_takeKnower_146 (by decide) (by decide) (fun x35_ e35 t35 => ?_)
                exact r_iret hC hQ hlk hr (by rw [e35]; rfl) (by decide) (by decide) dX6_takeKnower_147 ⟨_, _, _, rfl, rfl, ⟨hs34, hF34, hFJ26, (by omega), (by omega), (by first | (exfalso; omega) | exact Or.inl ⟨by omega, _, _, by unfold sKnower; rw [pif_f (show ¬ 4 ≤ D 0 9 by omega), hsp5, bnd_ok, pif_t hw7, pif_t hw10, pif_t (c := ∃ j : Nat, (j : Int) < D5 0 5 ∧ D5 23 j = vl B n (nx B n p5)) ⟨x14_.toInt.toNat, by omega, by omega⟩, hsp26, bnd_ok], hp26, tkp34, (rp34).cg (by intro k; simp [upD, aKno]) (by intro k; simp [upD, aKno]) (by intro k; simp [upD, aKno]), rw34.kno (by have h9 := clampI (i := x1_) (by omega); omega), fp34⟩ | exact Or.inr ⟨by omega, kf26, qf26, by unfold sKnower; rw [pif_f (show ¬ 4 ≤ D 0 9 by omega), hsp5, bnd_ok, pif_t hw7, pif_t hw10, pif_t (c := ∃ j : Nat, (j : Int) < D5 0 5 ∧ D5 23 j = vl B n (nx B n p5)) ⟨x14_.toInt.toNat, by omega, by omega⟩, hsp26, bnd_ok], hf126, hf226⟩ | exact Or.inr ⟨by omega, 5, _, by unfold sKnower; rw [pif_f (show ¬ 4 ≤ D 0 9 by omega), hsp5, bnd_ok, pif_t hw7, pif_t hw10, pif_t (c := ∃ j : Nat, (j : Int) < D5 0 5 ∧ D5 23 j = vl B n (nx B n p5)) ⟨x14_.toInt.toNat, by omega, by omega⟩, hsp26, bnd_ok], by omega, by assumption⟩ | exact Or.inr ⟨by omega, 1, _, by unfold sKnower; rw [pif_f (show ¬ 4 ≤ D 0 9 by omega), hsp5, bnd_ok, pif_t hw7, pif_t hw10, pif_t (c := ∃ j : Nat, (j : Int) < D5 0 5 ∧ D5 23 j = vl B n (nx B n p5)) ⟨x14_.toInt.toNat, by omega, by omega⟩, hsp26, bnd_ok], by omega, by assumption⟩ | exact Or.inr ⟨by omega, 2, _, by unfold sKnower; rw [pif_f (show ¬ 4 ≤ D 0 9 by omega), hsp5, bnd_ok, pif_t hw7, pif_t hw10, pif_t (c := ∃ j : Nat, (j : Int) < D5 0 5 ∧ D5 23 j = vl B n (nx B n p5)) ⟨x14_.toInt.toNat, by omega, by omega⟩, hsp26, bnd_ok], by omega, by assumption⟩), (by exact ob34), (by exact oc34)⟩⟩
              · rw [show x24_.toInt = 0 by omega, show x25_.toInt = 999 by omega] at hsp26
                refine r_if_ne hC (tgt := 126) dX6_takeKnower_121 (by decide) (fun c36 => ?_) (fun c36 => ?_)
                · exfalso; omega
                refine r_iconst hC (v := (0)) dX6_takeKnower_124 (by decide) (by decide) (fun x37_ e37 t37 => ?_)
                exact r_iret hC hQ hlk hr (by rw [e37]; rfl) (by decide) (by decide) dX6_takeKnower_125 ⟨_, _, _, rfl, rfl, ⟨hs26, hF26, hFJ26, (by omega), (by omega), (by first | (exfalso; omega) | exact Or.inl ⟨by omega, _, _, by unfold sKnower; rw [pif_f (show ¬ 4 ≤ D 0 9 by omega), hsp5, bnd_ok, pif_t hw7, pif_t hw10, pif_t (c := ∃ j : Nat, (j : Int) < D5 0 5 ∧ D5 23 j = vl B n (nx B n p5)) ⟨x14_.toInt.toNat, by omega, by omega⟩, hsp26, bnd_er], (nx_le (nx_le hp5).2).2, NONE, (NONE).cg (by intro k; simp [upD, aKno]) (by intro k; simp [upD, aKno]) (by intro k; simp [upD, aKno]), NONE.kno (by have h9 := clampI (i := x1_) (by omega); omega), NONE⟩ | exact Or.inr ⟨by omega, kf26, qf26, by unfold sKnower; rw [pif_f (show ¬ 4 ≤ D 0 9 by omega), hsp5, bnd_ok, pif_t hw7, pif_t hw10, pif_t (c := ∃ j : Nat, (j : Int) < D5 0 5 ∧ D5 23 j = vl B n (nx B n p5)) ⟨x14_.toInt.toNat, by omega, by omega⟩, hsp26, bnd_er], hf126, hf226⟩ | exact Or.inr ⟨by omega, 5, _, by unfold sKnower; rw [pif_f (show ¬ 4 ≤ D 0 9 by omega), hsp5, bnd_ok, pif_t hw7, pif_t hw10, pif_t (c := ∃ j : Nat, (j : Int) < D5 0 5 ∧ D5 23 j = vl B n (nx B n p5)) ⟨x14_.toInt.toNat, by omega, by omega⟩, hsp26, bnd_er], by omega, by assumption⟩ | exact Or.inr ⟨by omega, 1, _, by unfold sKnower; rw [pif_f (show ¬ 4 ≤ D 0 9 by omega), hsp5, bnd_ok, pif_t hw7, pif_t hw10, pif_t (c := ∃ j : Nat, (j : Int) < D5 0 5 ∧ D5 23 j = vl B n (nx B n p5)) ⟨x14_.toInt.toNat, by omega, by omega⟩, hsp26, bnd_er], by omega, by assumption⟩ | exact Or.inr ⟨by omega, 2, _, by unfold sKnower; rw [pif_f (show ¬ 4 ≤ D 0 9 by omega), hsp5, bnd_ok, pif_t hw7, pif_t hw10, pif_t (c := ∃ j : Nat, (j : Int) < D5 0 5 ∧ D5 23 j = vl B n (nx B n p5)) ⟨x14_.toInt.toNat, by omega, by omega⟩, hsp26, bnd_er], by omega, by assumption⟩), (by exact ob26), (by exact oc26)⟩⟩
            · refine r_aload_n hC dX6_takeKnower_91 2 rfl ?_
              refine r_iconst hC (v := (2)) dX6_takeKnower_92 (by decide) (by decide) (fun x38_ e38 t38 => ?_)
              refine r_callV hC (As := [.int x38_]) (rest := []) (ci := 6) (f_X6_faulty g (xL X) K len I9 J9 R hs9 a0 ka0 x38_ tk htk ktk tp bt hbt hkt hbb hkb nbt B n (hB.mv hF9 hkb (fun _ => rfl)) hn (nx B n p5) (nx_le hp5).2 k9_0) mT_2_233 mT_1_3 mT_2_230 mT_2_232 mP_5 okX6_faulty ⟨by decide, by decide⟩ rfl (by show kO (K a0) = _; rw [ka0]; rfl) rfl rfl (Nat.le_of_ble_eq_true rfl) ⟨by decide, by decide⟩ dX6_takeKnower_93 (aI1 (F := fun st M => P g X 4 96 [(3, .int x14_), (2, .int x1_), (0, .ref a0), (1, .ref a1)] st _ _ M) (M := (K, len, I9, J9, R)) fun x39_ I39 h39 => ?_)
              obtain ⟨hs39, hf39, k39_0, k39_1, k39_2⟩ := h39
              show P g X 4 96 [(3, .int x14_), (2, .int x1_), (0, .ref a0), (1, .ref a1)] [.int x39_] _ _ (K, len, I39, J9, R)
              have hF39 : Fr K [(2, 12), (7, 3), (7, 4), (7, 5), (7, 6), (8, 2), (8, 3), (8, 4), (61, 999), (62, 999)] I I39 := hF9.trans hf39 rfl rfl
              have tkm39 := k9_0.mvI hf39 ktk rfl rfl rfl rfl
              have rw39 := rw9.mv hcx qC_big hf39 rfl
              have oc39 := oc9.mv qC_big hf39 rfl
              have rp39 := rp9.mvI hf39 ka0 ka1 klk rfl
              have ob39 := ob9.mv hf39 rfl
              exact r_iret hC hQ hlk hr (nz_b (by omega) (by omega)) (by decide) (by decide) dX6_takeKnower_96 ⟨_, _, _, rfl, rfl, ⟨hs39, hF39, hFJ9, (by omega), (by omega), (by first | (exfalso; omega) | exact Or.inl ⟨by omega, _, _, by unfold sKnower; rw [pif_f (show ¬ 4 ≤ D 0 9 by omega), hsp5, bnd_ok, pif_t hw7, pif_t hw10, pif_t (c := ∃ j : Nat, (j : Int) < D5 0 5 ∧ D5 23 j = vl B n (nx B n p5)) ⟨x14_.toInt.toNat, by omega, by omega⟩], (nx_le hp5).2, tkm39, (rp39).cg (by intro k; simp [upD, aKno]) (by intro k; simp [upD, aKno]) (by intro k; simp [upD, aKno]), rw39.kno (by have h9 := clampI (i := x1) (by omega); omega), NONE⟩ | exact Or.inr ⟨by omega, kf39, qf39, by unfold sKnower; rw [pif_f (show ¬ 4 ≤ D 0 9 by omega), hsp5, bnd_ok, pif_t hw7, pif_t hw10, pif_t (c := ∃ j : Nat, (j : Int) < D5 0 5 ∧ D5 23 j = vl B n (nx B n p5)) ⟨x14_.toInt.toNat, by omega, by omega⟩], hf139, hf239⟩ | exact Or.inr ⟨by omega, 5, _, by unfold sKnower; rw [pif_f (show ¬ 4 ≤ D 0 9 by omega), hsp5, bnd_ok, pif_t hw7, pif_t hw10, pif_t (c := ∃ j : Nat, (j : Int) < D5 0 5 ∧ D5 23 j = vl B n (nx B n p5)) ⟨x14_.toInt.toNat, by omega, by omega⟩], by omega, by assumption⟩ | exact Or.inr ⟨by omega, 1, _, by unfold sKnower; rw [pif_f (show ¬ 4 ≤ D 0 9 by omega), hsp5, bnd_ok, pif_t hw7, pif_t hw10, pif_t (c := ∃ j : Nat, (j : Int) < D5 0 5 ∧ D5 23 j = vl B n (nx B n p5)) ⟨x14_.toInt.toNat, by omega, by omega⟩], by omega, by assumption⟩ | exact Or.inr ⟨by omega, 2, _, by unfold sKnower; rw [pif_f (show ¬ 4 ≤ D 0 9 by omega), hsp5, bnd_ok, pif_t hw7, pif_t hw10, pif_t (c := ∃ j : Nat, (j : Int) < D5 0 5 ∧ D5 23 j = vl B n (nx B n p5)) ⟨x14_.toInt.toNat, by omega, by omega⟩], by omega, by assumption⟩), (by exact ob39), (by exact oc39)⟩⟩
        · refine r_if_ne hC (tgt := 70) dX6_takeKnower_61 (by decide) (fun c40 => ?_) (fun c40 => ?_)
          · exfalso; omega
          refine r_aload_n hC dX6_takeKnower_64 1 rfl ?_
          refine r_iconst hC (v := (1)) dX6_takeKnower_65 (by decide) (by decide) (fun x41_ e41 t41 => ?_)
          refine r_callV hC (As := [.int x41_]) (rest := []) (ci := 6) (f_X6_faulty g (xL X) K len I9 J9 R hs9 a0 ka0 x41_ tk htk ktk tp bt hbt hkt hbb hkb nbt B n (hB.mv hF9 hkb (fun _ => rfl)) hn (nx B n p5) (nx_le hp5).2 k9_0) mT_2_233 mT_1_3 mT_2_230 mT_2_232 mP_5 okX6_faulty ⟨by decide, by decide⟩ rfl (by show kO (K a0) = _; rw [ka0]; rfl) rfl rfl (Nat.le_of_ble_eq_true rfl) ⟨by decide, by decide⟩ dX6_takeKnower_66 (aI1 (F := fun st M => P g X 4 69 [(2, .int x1_), (0, .ref a0), (1, .ref a1)] st _ _ M) (M := (K, len, I9, J9, R)) fun x42_ I42 h42 => ?_)
          obtain ⟨hs42, hf42, k42_0, k42_1, k42_2⟩ := h42
          show P g X 4 69 [(2, .int x1_), (0, .ref a0), (1, .ref a1)] [.int x42_] _ _ (K, len, I42, J9, R)
          have hF42 : Fr K [(2, 12), (7, 3), (7, 4), (7, 5), (7, 6), (8, 2), (8, 3), (8, 4), (61, 999), (62, 999)] I I42 := hF9.trans hf42 rfl rfl
          have tkm42 := k9_0.mvI hf42 ktk rfl rfl rfl rfl
          have rw42 := rw9.mv hcx qC_big hf42 rfl
          have oc42 := oc9.mv qC_big hf42 rfl
          have rp42 := rp9.mvI hf42 ka0 ka1 klk rfl
          have ob42 := ob9.mv hf42 rfl
          exact r_iret hC hQ hlk hr (nz_b (by omega) (by omega)) (by decide) (by decide) dX6_takeKnower_69 ⟨_, _, _, rfl, rfl, ⟨hs42, hF42, hFJ9, (by omega), (by omega), (by first | (exfalso; omega) | exact Or.inl ⟨by omega, _, _, by unfold sKnower; rw [pif_f (show ¬ 4 ≤ D 0 9 by omega), hsp5, bnd_ok, pif_t hw7, pif_f hw10], (nx_le hp5).2, tkm42, (rp42).cg (by intro k; simp [upD, aKno]) (by intro k; simp [upD, aKno]) (by intro k; simp [upD, aKno]), rw42.kno (by have h9 := clampI (i := x1) (by omega); omega), NONE⟩ | exact Or.inr ⟨by omega, kf42, qf42, by unfold sKnower; rw [pif_f (show ¬ 4 ≤ D 0 9 by omega), hsp5, bnd_ok, pif_t hw7, pif_f hw10], hf142, hf242⟩ | exact Or.inr ⟨by omega, 5, _, by unfold sKnower; rw [pif_f (show ¬ 4 ≤ D 0 9 by omega), hsp5, bnd_ok, pif_t hw7, pif_f hw10], by omega, by assumption⟩ | exact Or.inr ⟨by omega, 1, _, by unfold sKnower; rw [pif_f (show ¬ 4 ≤ D 0 9 by omega), hsp5, bnd_ok, pif_t hw7, pif_f hw10], by omega, by assumption⟩ | exact Or.inr ⟨by omega, 2, _, by unfold sKnower; rw [pif_f (show ¬ 4 ≤ D 0 9 by omega), hsp5, bnd_ok, pif_t hw7, pif_f hw10], by omega, by assumption⟩), (by exact ob42), (by exact oc42)⟩⟩
      · refine r_if_ne hC (tgt := 50) dX6_takeKnower_41 (by decide) (fun c43 => ?_) (fun c43 => ?_)
        · exfalso; omega
        refine r_aload_n hC dX6_takeKnower_44 1 rfl ?_
        refine r_iconst hC (v := (1)) dX6_takeKnower_45 (by decide) (by decide) (fun x44_ e44 t44 => ?_)
        refine r_callV hC (As := [.int x44_]) (rest := []) (ci := 6) (f_X6_faulty g (xL X) K len I5 J5 R hs5 a0 ka0 x44_ tk htk ktk tp bt hbt hkt hbb hkb nbt B n (hB.mv hF5 hkb (fun _ => rfl)) hn p5 hp5 tk5) mT_2_233 mT_1_3 mT_2_230 mT_2_232 mP_5 okX6_faulty ⟨by decide, by decide⟩ rfl (by show kO (K a0) = _; rw [ka0]; rfl) rfl rfl (Nat.le_of_ble_eq_true rfl) ⟨by decide, by decide⟩ dX6_takeKnower_46 (aI1 (F := fun st M => P g X 4 49 [(2, .int x1_), (0, .ref a0), (1, .ref a1)] st _ _ M) (M := (K, len, I5, J5, R)) fun x45_ I45 h45 => ?_)
        obtain ⟨hs45, hf45, k45_0, k45_1, k45_2⟩ := h45
        show P g X 4 49 [(2, .int x1_), (0, .ref a0), (1, .ref a1)] [.int x45_] _ _ (K, len, I45, J5, R)
        have hF45 : Fr K [(2, 12), (7, 3), (7, 4), (7, 5), (7, 6), (8, 2), (8, 3), (8, 4), (61, 999), (62, 999)] I I45 := hF5.trans hf45 rfl rfl
        have tkm45 := tk5.mvI hf45 ktk rfl rfl rfl rfl
        have rw45 := rwL5.mv hcx qC_big hf45 rfl
        have oc45 := oc5.mv qC_big hf45 rfl
        have rp45 := rep5.mvI hf45 ka0 ka1 klk rfl
        have ob45 := ob5.mv hf45 rfl
        exact r_iret hC hQ hlk hr (nz_b (by omega) (by omega)) (by decide) (by decide) dX6_takeKnower_49 ⟨_, _, _, rfl, rfl, ⟨hs45, hF45, hFJ5, (by omega), (by omega), (by first | (exfalso; omega) | exact Or.inl ⟨by omega, _, _, by unfold sKnower; rw [pif_f (show ¬ 4 ≤ D 0 9 by omega), hsp5, bnd_ok, pif_f hw7], hp5, tkm45, (rp45).cg (by intro k; simp [upD, aKno]) (by intro k; simp [upD, aKno]) (by intro k; simp [upD, aKno]), rw45.kno (by have h9 := clampI (i := x1) (by omega); omega), NONE⟩ | exact Or.inr ⟨by omega, kf45, qf45, by unfold sKnower; rw [pif_f (show ¬ 4 ≤ D 0 9 by omega), hsp5, bnd_ok, pif_f hw7], hf145, hf245⟩ | exact Or.inr ⟨by omega, 5, _, by unfold sKnower; rw [pif_f (show ¬ 4 ≤ D 0 9 by omega), hsp5, bnd_ok, pif_f hw7], by omega, by assumption⟩ | exact Or.inr ⟨by omega, 1, _, by unfold sKnower; rw [pif_f (show ¬ 4 ≤ D 0 9 by omega), hsp5, bnd_ok, pif_f hw7], by omega, by assumption⟩ | exact Or.inr ⟨by omega, 2, _, by unfold sKnower; rw [pif_f (show ¬ 4 ≤ D 0 9 by omega), hsp5, bnd_ok, pif_f hw7], by omega, by assumption⟩), (by exact ob45), (by exact oc45)⟩⟩
    · refine r_if_ne hC (tgt := 32) dX6_takeKnower_27 (by decide) (fun c46 => ?_) (fun c46 => ?_)
      · exfalso; omega
      refine r_iconst hC (v := (0)) dX6_takeKnower_30 (by decide) (by decide) (fun x47_ e47 t47 => ?_)
      exact r_iret hC hQ hlk hr (by rw [e47]; rfl) (by decide) (by decide) dX6_takeKnower_31 ⟨_, _, _, rfl, rfl, ⟨hs5, hF5, hFJ5, (by omega), (by omega), (by first | (exfalso; omega) | exact Or.inl ⟨by omega, _, _, by unfold sKnower; rw [pif_f (show ¬ 4 ≤ D 0 9 by omega), hsp5, bnd_er], (nx_le hp).2, NONE, (NONE).cg (by intro k; simp [upD, aKno]) (by intro k; simp [upD, aKno]) (by intro k; simp [upD, aKno]), NONE.kno (by have h9 := clampI (i := x1) (by omega); omega), NONE⟩ | exact Or.inr ⟨by omega, kf5, qf5, by unfold sKnower; rw [pif_f (show ¬ 4 ≤ D 0 9 by omega), hsp5, bnd_er], hf15, hf25⟩ | exact Or.inr ⟨by omega, 5, _, by unfold sKnower; rw [pif_f (show ¬ 4 ≤ D 0 9 by omega), hsp5, bnd_er], by omega, by assumption⟩ | exact Or.inr ⟨by omega, 1, _, by unfold sKnower; rw [pif_f (show ¬ 4 ≤ D 0 9 by omega), hsp5, bnd_er], by omega, by assumption⟩ | exact Or.inr ⟨by omega, 2, _, by unfold sKnower; rw [pif_f (show ¬ 4 ≤ D 0 9 by omega), hsp5, bnd_er], by omega, by assumption⟩), (by exact ob5), (by exact oc5)⟩⟩
  · refine r_aload_n hC dX6_takeKnower_10 1 rfl ?_
    refine r_iconst hC (v := (5)) dX6_takeKnower_11 (by decide) (by decide) (fun x48_ e48 t48 => ?_)
    refine r_callV hC (As := [.int x48_]) (rest := []) (ci := 6) (f_X6_faulty g (xL X) K len I J R hs a0 ka0 x48_ tk htk ktk tp bt hbt hkt hbb hkb nbt B n (hB.mv hF hkb (fun _ => rfl)) hn p hp tkc) mT_2_233 mT_1_3 mT_2_230 mT_2_232 mP_5 okX6_faulty ⟨by decide, by decide⟩ rfl (by show kO (K a0) = _; rw [ka0]; rfl) rfl rfl (Nat.le_of_ble_eq_true rfl) ⟨by decide, by decide⟩ dX6_takeKnower_12 (aI1 (F := fun st M => P g X 4 15 [(2, .int x1_), (0, .ref a0), (1, .ref a1)] st _ _ M) (M := (K, len, I, J, R)) fun x49_ I49 h49 => ?_)
    obtain ⟨hs49, hf49, k49_0, k49_1, k49_2⟩ := h49
    show P g X 4 15 [(2, .int x1_), (0, .ref a0), (1, .ref a1)] [.int x49_] _ _ (K, len, I49, J, R)
    have hF49 : Fr K [(2, 12), (7, 3), (7, 4), (7, 5), (7, 6), (8, 2), (8, 3), (8, 4), (61, 999), (62, 999)] I I49 := hF.trans hf49 rfl rfl
    have tkm49 := tkc.mvI hf49 ktk rfl rfl rfl rfl
    have rw49 := rwd.mv hcx qC_big hf49 rfl
    have oc49 := oc.mv qC_big hf49 rfl
    have rp49 := rep.mvI hf49 ka0 ka1 klk rfl
    have ob49 := ob.mv hf49 rfl
    exact r_iret hC hQ hlk hr (nz_b (by omega) (by omega)) (by decide) (by decide) dX6_takeKnower_15 ⟨_, _, _, rfl, rfl, ⟨hs49, hF49, hFJ, (by omega), (by omega), (by first | (exfalso; omega) | exact Or.inl ⟨by omega, _, _, by unfold sKnower; rw [pif_t (show 4 ≤ D 0 9 by omega)], hp, tkm49, (rp49).cg (by intro k; simp [upD, aKno]) (by intro k; simp [upD, aKno]) (by intro k; simp [upD, aKno]), rw49.kno (by have h9 := clampI (i := x1) (by omega); omega), NONE⟩ | exact Or.inr ⟨by omega, kf49, qf49, by unfold sKnower; rw [pif_t (show 4 ≤ D 0 9 by omega)], hf149, hf249⟩ | exact Or.inr ⟨by omega, 5, _, by unfold sKnower; rw [pif_t (show 4 ≤ D 0 9 by omega)], by omega, by assumption⟩ | exact Or.inr ⟨by omega, 1, _, by unfold sKnower; rw [pif_t (show 4 ≤ D 0 9 by omega)], by omega, by assumption⟩ | exact Or.inr ⟨by omega, 2, _, by unfold sKnower; rw [pif_t (show 4 ≤ D 0 9 by omega)], by omega, by assumption⟩), (by exact ob49), (by exact oc49)⟩⟩
set_option maxHeartbeats 4000000 in
set_option maxRecDepth 100000 in
theorem f_X6_takeLine (g : GG) (l : Launch) (K len : Nat → Nat) (I : Nat → Nat → Int32) (J : Nat → Nat → Int64) (R : Nat → Nat → Option Nat) (hs : Sf K len I R) (a0 : Nat) (ka0 : K a0 = 7) (a1 : Nat) (ka1 : K a1 = 2) (tk : Nat) (htk : R a0 0 = some tk) (ktk : K tk = 8) (tp : Nat) (bt : Nat) (hbt : R tk 0 = some tp) (hkt : K tp = 6) (hbb : R tp 0 = some bt) (hkb : K bt = 40) (nbt : len bt = 900) (B : Nat → Int) (n : Nat) (hB : BT B n bt I) (hn : n ≤ 900) (p : Nat) (hp : p ≤ n) (tkc : TkC B n tk p I J) (nr : Nat) (hnr : R a0 1 = some nr) (knr : K nr = 42) (lnr : len nr = 19) (pr : Nat) (hpr : R a0 2 = some pr) (kpr : K pr = 48) (lpr : len pr = 5) (lk : Nat) (hlkr : R a1 0 = some lk) (klk : K lk = 3) (D : DD) (hD : DI D) (rep : RpC D a0 nr pr a1 lk I J) (hu : UU K R) (rwd : RW (CC a1 lk R) (cntN D) D I) (hJ : DJ D) : Ct g l yX6_takeLine cX6_takeLine 2 (Option.some Jvm.ClassFile.FieldType.boolean) rmX6_takeLine [.ref a0, .ref a1] (K, len, I, J, R) (pI2 (K, len, I, J, R) (fun r I' J' => Sf K len I' R ∧ Fr K [(2, 1), (2, 4), (2, 6), (2, 8), (2, 12), (3, 0), (3, 1), (3, 2), (3, 3), (3, 4), (5, 0), (5, 1), (5, 2), (5, 3), (7, 3), (7, 4), (7, 5), (7, 6), (8, 2), (8, 3), (8, 4), (55, 999), (56, 999), (57, 999), (58, 999), (59, 999), (60, 999), (61, 999), (62, 999), (63, 999), (64, 999)] I I' ∧ Fr K [(8, 5), (42, 999), (48, 999)] J J' ∧ (0 ≤ r.toInt) ∧ (r.toInt ≤ 1) ∧ (r.toInt = 1 ∧ (∃ (D' : DD) (p' : Nat), sLine B n p D = .ok (D', p') ∧ p' ≤ n ∧ TkC B n tk p' I' J' ∧ RpC D' a0 nr pr a1 lk I' J' ∧ RW (CC a1 lk R) (cntN D') D' I' ∧ I' a0 5 = I a0 5) ∨ r.toInt = 0 ∧ (∃ (kf : Int) (qf : Nat), sLine B n p D = .error (kf, qf) ∧ (I' a0 5).toInt = kf ∧ (I' a0 6).toInt = qf)) ∧ (OB K a1 lk I I') ∧ (OC (CC a1 lk R) qC K I I'))) := by
  refine Ct_intro (by decide +kernel) (Nat.le_of_ble_eq_true rfl) (fun X hC hL hKK hNm hr hlk hQ => ?_)
  subst hL
  have hC : Cx g X cX6_takeLine "HillTap$Teller" 2 rmX6_takeLine := hC
  show P g X 2 0 [(0, .ref a0), (1, .ref a1)] [] 0 0 (K, len, I, J, R)
  have hF : Fr K [(2, 1), (2, 4), (2, 6), (2, 8), (2, 12), (3, 0), (3, 1), (3, 2), (3, 3), (3, 4), (5, 0), (5, 1), (5, 2), (5, 3), (7, 3), (7, 4), (7, 5), (7, 6), (8, 2), (8, 3), (8, 4), (55, 999), (56, 999), (57, 999), (58, 999), (59, 999), (60, 999), (61, 999), (62, 999), (63, 999), (64, 999)] I I := Fr.refl
  have hFJ : Fr K [(8, 5), (42, 999), (48, 999)] J J := Fr.refl
  have tkc9 := tkc
  obtain ⟨tk3, tk4, tk2, tk1, tk5⟩ := tkc9
  have hnp : nr ≠ pr := fun z => by rw [z, lpr] at lnr; exact absurd lnr (by decide)
  obtain ⟨hD0, ⟨hD1, hD2⟩, ⟨hD3, hD4⟩, ⟨hD5, hD6⟩, ⟨hD7, hD8⟩, ⟨hD9, hD10⟩, hD11, hD12⟩ := id hD
  obtain ⟨rs0, rs1, rs2, rs3, rs4, rs5, rs6, rs7, rs8, rs9, rs10⟩ := id rep.1
  have ob : OB K a1 lk I I := OB.rf
  have hcx := CC_x hs ka1 klk hu
  have oc : OC (CC a1 lk R) qC K I I := OC.rf
  refine r_aload_n hC dX6_takeLine_0 0 rfl ?_
  refine r_getr hC 0 (ci := 6) rfl u6_in (by decide) mT_1_81 dX6_takeLine_1 ka0 rfl rfl htk ?_
  refine r_ldcS hC (i := 0) (by decide) rfl rfl dX6_takeLine_4 ?_
  refine r_callV hC (As := [.ref (g.2.2.1 0)]) (rest := []) (ci := 7) (f_X7_isWord g (xL X) K len I J R hs tk ktk 0 (by decide) tp bt hbt hkt hbb hkb nbt B n (hB.mv hF hkb (fun _ => rfl)) hn p hp tkc) mT_2_177 mT_1_4 mT_2_174 mT_2_175 mT_2_176 okX7_isWord ⟨by decide, by decide⟩ rfl (by show kO (K tk) = _; rw [ktk]; rfl) rfl rfl (Nat.le_of_ble_eq_true rfl) ⟨by decide, by decide⟩ dX6_takeLine_6 (aI0 (F := fun st M => P g X 2 9 [(0, .ref a0), (1, .ref a1)] st _ _ M) (M := (K, len, I, J, R)) fun x1_ h1 => ?_)
  obtain ⟨k1_0, k1_1, k1_2⟩ := h1
  show P g X 2 9 [(0, .ref a0), (1, .ref a1)] [.int x1_] _ _ (K, len, I, J, R)
  rcases k1_2 with ⟨hr1, hw1⟩ | ⟨hr1, hw1⟩
  · refine r_if_eq hC (tgt := 21) dX6_takeLine_9 (by decide) (fun c2 => ?_) (fun c2 => ?_)
    · exfalso; omega
    refine r_aload_n hC dX6_takeLine_12 0 rfl ?_
    refine r_aload_n hC dX6_takeLine_13 1 rfl ?_
    refine r_getr hC 0 (ci := 1) rfl u1_in (by decide) mT_1_181 dX6_takeLine_14 ka1 rfl rfl hlkr ?_
    refine r_callV hC (As := [.ref lk]) (rest := []) (ci := 6) (f_X6_takeLake g (xL X) K len I J R hs a0 ka0 lk klk tk htk ktk tp bt hbt hkt hbb hkb nbt B n (hB.mv hF hkb (fun _ => rfl)) hn p hp tkc nr hnr knr lnr pr hpr kpr lpr a1 ka1 D hD rep hu rwd hJ) mT_2_229 mT_1_3 mT_2_226 mT_2_228 mP_4 okX6_takeLake ⟨by decide, by decide⟩ rfl (by show kO (K a0) = _; rw [ka0]; rfl) rfl rfl (Nat.le_of_ble_eq_true rfl) ⟨by decide, by decide⟩ dX6_takeLine_17 (aI2 (F := fun st M => P g X 2 20 [(0, .ref a0), (1, .ref a1)] st _ _ M) (M := (K, len, I, J, R)) fun x3_ I3 J3 h3 => ?_)
    obtain ⟨hs3, hf3, hfj3, k3_0, k3_1, k3_2, k3_3, k3_4⟩ := h3
    show P g X 2 20 [(0, .ref a0), (1, .ref a1)] [.int x3_] _ _ (K, len, I3, J3, R)
    have hF3 : Fr K [(2, 1), (2, 4), (2, 6), (2, 8), (2, 12), (3, 0), (3, 1), (3, 2), (3, 3), (3, 4), (5, 0), (5, 1), (5, 2), (5, 3), (7, 3), (7, 4), (7, 5), (7, 6), (8, 2), (8, 3), (8, 4), (55, 999), (56, 999), (57, 999), (58, 999), (59, 999), (60, 999), (61, 999), (62, 999), (63, 999), (64, 999)] I I3 := hF.trans hf3 rfl rfl
    have hFJ3 : Fr K [(8, 5), (42, 999), (48, 999)] J J3 := hFJ.trans hfj3 rfl rfl
    have oc3 := oc.tr k3_4
    have ob3 := ob.tr k3_3
    rcases k3_2 with ⟨hr3, D3, p3, hsp3, hp3, tk3, rep3, rwL3, fl3⟩ | ⟨hr3, kf3, qf3, hsp3, hf13, hf23⟩
    · have fq3 : I3 a0 5 = I a0 5 := fl3.trans rfl
      exact r_iret hC hQ hlk hr (nz_b (by omega) (by omega)) (by decide) (by decide) dX6_takeLine_20 ⟨_, _, _, rfl, rfl, ⟨hs3, hF3, hFJ3, (by omega), (by omega), (by first | exact Or.inl ⟨hr3, D3, p3, by unfold sLine; rw [pif_t hw1]; exact hsp3, hp3, tk3, rep3, rwL3, fq3⟩ | exact Or.inr ⟨hr3, kf3, qf3, by unfold sLine; rw [pif_t hw1]; exact hsp3, hf13, hf23⟩ | exact Or.inr ⟨by omega, 1, _, by unfold sLine; rw [pif_t hw1, hsp3, bnd_ok], by omega, by assumption⟩), (by exact ob3), (by exact oc3)⟩⟩
    · exact r_iret hC hQ hlk hr (nz_b (by omega) (by omega)) (by decide) (by decide) dX6_takeLine_20 ⟨_, _, _, rfl, rfl, ⟨hs3, hF3, hFJ3, (by omega), (by omega), (by first | exact Or.inl ⟨hr3, D3, p3, by unfold sLine; rw [pif_t hw1]; exact hsp3, hp3, tk3, rep3, rwL3, NONE⟩ | exact Or.inr ⟨hr3, kf3, qf3, by unfold sLine; rw [pif_t hw1]; exact hsp3, hf13, hf23⟩ | exact Or.inr ⟨by omega, 1, _, by unfold sLine; rw [pif_t hw1, hsp3, bnd_er], by omega, by assumption⟩), (by exact ob3), (by exact oc3)⟩⟩
  · refine r_if_eq hC (tgt := 21) dX6_takeLine_9 (by decide) (fun c4 => ?_) (fun c4 => ?_)
    rotate_left
    · exfalso; omega
    refine r_aload_n hC dX6_takeLine_21 0 rfl ?_
    refine r_getr hC 0 (ci := 6) rfl u6_in (by decide) mT_1_81 dX6_takeLine_22 ka0 rfl rfl htk ?_
    refine r_ldcS hC (i := 4) (by decide) rfl rfl dX6_takeLine_25 ?_
    refine r_callV hC (As := [.ref (g.2.2.1 4)]) (rest := []) (ci := 7) (f_X7_isWord g (xL X) K len I J R hs tk ktk 4 (by decide) tp bt hbt hkt hbb hkb nbt B n (hB.mv hF hkb (fun _ => rfl)) hn p hp tkc) mT_2_177 mT_1_4 mT_2_174 mT_2_175 mT_2_176 okX7_isWord ⟨by decide, by decide⟩ rfl (by show kO (K tk) = _; rw [ktk]; rfl) rfl rfl (Nat.le_of_ble_eq_true rfl) ⟨by decide, by decide⟩ dX6_takeLine_27 (aI0 (F := fun st M => P g X 2 30 [(0, .ref a0), (1, .ref a1)] st _ _ M) (M := (K, len, I, J, R)) fun x5_ h5 => ?_)
    obtain ⟨k5_0, k5_1, k5_2⟩ := h5
    show P g X 2 30 [(0, .ref a0), (1, .ref a1)] [.int x5_] _ _ (K, len, I, J, R)
    rcases k5_2 with ⟨hr5, hw5⟩ | ⟨hr5, hw5⟩
    · refine r_if_eq hC (tgt := 39) dX6_takeLine_30 (by decide) (fun c6 => ?_) (fun c6 => ?_)
      · exfalso; omega
      refine r_aload_n hC dX6_takeLine_33 0 rfl ?_
      refine r_aload_n hC dX6_takeLine_34 1 rfl ?_
      refine r_callV hC (As := [.ref a1]) (rest := []) (ci := 6) (f_X6_takePeg g (xL X) K len I J R hs a0 ka0 a1 ka1 tk htk ktk tp bt hbt hkt hbb hkb nbt B n (hB.mv hF hkb (fun _ => rfl)) hn p hp tkc nr hnr knr lnr pr hpr kpr lpr lk hlkr klk D hD rep hu rwd hJ) mT_3_17 mT_1_3 mT_3_14 mT_3_16 mP_8 okX6_takePeg ⟨by decide, by decide⟩ rfl (by show kO (K a0) = _; rw [ka0]; rfl) rfl rfl (Nat.le_of_ble_eq_true rfl) ⟨by decide, by decide⟩ dX6_takeLine_35 (aI2 (F := fun st M => P g X 2 38 [(0, .ref a0), (1, .ref a1)] st _ _ M) (M := (K, len, I, J, R)) fun x7_ I7 J7 h7 => ?_)
      obtain ⟨hs7, hf7, hfj7, k7_0, k7_1, k7_2, k7_3, k7_4⟩ := h7
      show P g X 2 38 [(0, .ref a0), (1, .ref a1)] [.int x7_] _ _ (K, len, I7, J7, R)
      have hF7 : Fr K [(2, 1), (2, 4), (2, 6), (2, 8), (2, 12), (3, 0), (3, 1), (3, 2), (3, 3), (3, 4), (5, 0), (5, 1), (5, 2), (5, 3), (7, 3), (7, 4), (7, 5), (7, 6), (8, 2), (8, 3), (8, 4), (55, 999), (56, 999), (57, 999), (58, 999), (59, 999), (60, 999), (61, 999), (62, 999), (63, 999), (64, 999)] I I7 := hF.trans hf7 rfl rfl
      have hFJ7 : Fr K [(8, 5), (42, 999), (48, 999)] J J7 := hFJ.trans hfj7 rfl rfl
      have oc7 := oc.tr k7_4
      have ob7 := ob.tr k7_3
      rcases k7_2 with ⟨hr7, D7, p7, hsp7, hp7, tk7, rep7, rwL7, fl7⟩ | ⟨hr7, kf7, qf7, hsp7, hf17, hf27⟩
      · have fq7 : I7 a0 5 = I a0 5 := fl7.trans rfl
        exact r_iret hC hQ hlk hr (nz_b (by omega) (by omega)) (by decide) (by decide) dX6_takeLine_38 ⟨_, _, _, rfl, rfl, ⟨hs7, hF7, hFJ7, (by omega), (by omega), (by first | exact Or.inl ⟨hr7, D7, p7, by unfold sLine; rw [pif_f hw1, pif_t hw5]; exact hsp7, hp7, tk7, rep7, rwL7, fq7⟩ | exact Or.inr ⟨hr7, kf7, qf7, by unfold sLine; rw [pif_f hw1, pif_t hw5]; exact hsp7, hf17, hf27⟩ | exact Or.inr ⟨by omega, 1, _, by unfold sLine; rw [pif_f hw1, pif_t hw5, hsp7, bnd_ok], by omega, by assumption⟩), (by exact ob7), (by exact oc7)⟩⟩
      · exact r_iret hC hQ hlk hr (nz_b (by omega) (by omega)) (by decide) (by decide) dX6_takeLine_38 ⟨_, _, _, rfl, rfl, ⟨hs7, hF7, hFJ7, (by omega), (by omega), (by first | exact Or.inl ⟨hr7, D7, p7, by unfold sLine; rw [pif_f hw1, pif_t hw5]; exact hsp7, hp7, tk7, rep7, rwL7, NONE⟩ | exact Or.inr ⟨hr7, kf7, qf7, by unfold sLine; rw [pif_f hw1, pif_t hw5]; exact hsp7, hf17, hf27⟩ | exact Or.inr ⟨by omega, 1, _, by unfold sLine; rw [pif_f hw1, pif_t hw5, hsp7, bnd_er], by omega, by assumption⟩), (by exact ob7), (by exact oc7)⟩⟩
    · refine r_if_eq hC (tgt := 39) dX6_takeLine_30 (by decide) (fun c8 => ?_) (fun c8 => ?_)
      rotate_left
      · exfalso; omega
      refine r_aload_n hC dX6_takeLine_39 0 rfl ?_
      refine r_getr hC 0 (ci := 6) rfl u6_in (by decide) mT_1_81 dX6_takeLine_40 ka0 rfl rfl htk ?_
      refine r_ldcS hC (i := 5) (by decide) rfl rfl dX6_takeLine_43 ?_
      refine r_callV hC (As := [.ref (g.2.2.1 5)]) (rest := []) (ci := 7) (f_X7_isWord g (xL X) K len I J R hs tk ktk 5 (by decide) tp bt hbt hkt hbb hkb nbt B n (hB.mv hF hkb (fun _ => rfl)) hn p hp tkc) mT_2_177 mT_1_4 mT_2_174 mT_2_175 mT_2_176 okX7_isWord ⟨by decide, by decide⟩ rfl (by show kO (K tk) = _; rw [ktk]; rfl) rfl rfl (Nat.le_of_ble_eq_true rfl) ⟨by decide, by decide⟩ dX6_takeLine_45 (aI0 (F := fun st M => P g X 2 48 [(0, .ref a0), (1, .ref a1)] st _ _ M) (M := (K, len, I, J, R)) fun x9_ h9 => ?_)
      obtain ⟨k9_0, k9_1, k9_2⟩ := h9
      show P g X 2 48 [(0, .ref a0), (1, .ref a1)] [.int x9_] _ _ (K, len, I, J, R)
      rcases k9_2 with ⟨hr9, hw9⟩ | ⟨hr9, hw9⟩
      · refine r_if_eq hC (tgt := 60) dX6_takeLine_48 (by decide) (fun c10 => ?_) (fun c10 => ?_)
        · exfalso; omega
        refine r_aload_n hC dX6_takeLine_51 0 rfl ?_
        refine r_aload_n hC dX6_takeLine_52 1 rfl ?_
        refine r_getr hC 0 (ci := 1) rfl u1_in (by decide) mT_1_181 dX6_takeLine_53 ka1 rfl rfl hlkr ?_
        refine r_callV hC (As := [.ref lk]) (rest := []) (ci := 6) (f_X6_takeFrom g (xL X) K len I J R hs a0 ka0 lk klk tk htk ktk tp bt hbt hkt hbb hkb nbt B n (hB.mv hF hkb (fun _ => rfl)) hn p hp tkc nr hnr knr lnr pr hpr kpr lpr a1 ka1 D hD rep hu rwd hJ) mT_3_40 mT_1_3 mT_3_37 mT_3_39 mP_11 okX6_takeFrom ⟨by decide, by decide⟩ rfl (by show kO (K a0) = _; rw [ka0]; rfl) rfl rfl (Nat.le_of_ble_eq_true rfl) ⟨by decide, by decide⟩ dX6_takeLine_56 (aI2 (F := fun st M => P g X 2 59 [(0, .ref a0), (1, .ref a1)] st _ _ M) (M := (K, len, I, J, R)) fun x11_ I11 J11 h11 => ?_)
        obtain ⟨hs11, hf11, hfj11, k11_0, k11_1, k11_2, k11_3, k11_4⟩ := h11
        show P g X 2 59 [(0, .ref a0), (1, .ref a1)] [.int x11_] _ _ (K, len, I11, J11, R)
        have hF11 : Fr K [(2, 1), (2, 4), (2, 6), (2, 8), (2, 12), (3, 0), (3, 1), (3, 2), (3, 3), (3, 4), (5, 0), (5, 1), (5, 2), (5, 3), (7, 3), (7, 4), (7, 5), (7, 6), (8, 2), (8, 3), (8, 4), (55, 999), (56, 999), (57, 999), (58, 999), (59, 999), (60, 999), (61, 999), (62, 999), (63, 999), (64, 999)] I I11 := hF.trans hf11 rfl rfl
        have hFJ11 : Fr K [(8, 5), (42, 999), (48, 999)] J J11 := hFJ.trans hfj11 rfl rfl
        have oc11 := oc.tr k11_4
        have ob11 := ob.tr k11_3
        rcases k11_2 with ⟨hr11, D11, p11, hsp11, hp11, tk11, rep11, rwL11, fl11⟩ | ⟨hr11, kf11, qf11, hsp11, hf111, hf211⟩
        · have fq11 : I11 a0 5 = I a0 5 := fl11.trans rfl
          exact r_iret hC hQ hlk hr (nz_b (by omega) (by omega)) (by decide) (by decide) dX6_takeLine_59 ⟨_, _, _, rfl, rfl, ⟨hs11, hF11, hFJ11, (by omega), (by omega), (by first | exact Or.inl ⟨hr11, D11, p11, by unfold sLine; rw [pif_f hw1, pif_f hw5, pif_t hw9]; exact hsp11, hp11, tk11, rep11, rwL11, fq11⟩ | exact Or.inr ⟨hr11, kf11, qf11, by unfold sLine; rw [pif_f hw1, pif_f hw5, pif_t hw9]; exact hsp11, hf111, hf211⟩ | exact Or.inr ⟨by omega, 1, _, by unfold sLine; rw [pif_f hw1, pif_f hw5, pif_t hw9, hsp11, bnd_ok], by omega, by assumption⟩), (by exact ob11), (by exact oc11)⟩⟩
        · exact r_iret hC hQ hlk hr (nz_b (by omega) (by omega)) (by decide) (by decide) dX6_takeLine_59 ⟨_, _, _, rfl, rfl, ⟨hs11, hF11, hFJ11, (by omega), (by omega), (by first | exact Or.inl ⟨hr11, D11, p11, by unfold sLine; rw [pif_f hw1, pif_f hw5, pif_t hw9]; exact hsp11, hp11, tk11, rep11, rwL11, NONE⟩ | exact Or.inr ⟨hr11, kf11, qf11, by unfold sLine; rw [pif_f hw1, pif_f hw5, pif_t hw9]; exact hsp11, hf111, hf211⟩ | exact Or.inr ⟨by omega, 1, _, by unfold sLine; rw [pif_f hw1, pif_f hw5, pif_t hw9, hsp11, bnd_er], by omega, by assumption⟩), (by exact ob11), (by exact oc11)⟩⟩
      · refine r_if_eq hC (tgt := 60) dX6_takeLine_48 (by decide) (fun c12 => ?_) (fun c12 => ?_)
        rotate_left
        · exfalso; omega
        refine r_aload_n hC dX6_takeLine_60 0 rfl ?_
        refine r_getr hC 0 (ci := 6) rfl u6_in (by decide) mT_1_81 dX6_takeLine_61 ka0 rfl rfl htk ?_
        refine r_ldcS hC (i := 6) (by decide) rfl rfl dX6_takeLine_64 ?_
        refine r_callV hC (As := [.ref (g.2.2.1 6)]) (rest := []) (ci := 7) (f_X7_isWord g (xL X) K len I J R hs tk ktk 6 (by decide) tp bt hbt hkt hbb hkb nbt B n (hB.mv hF hkb (fun _ => rfl)) hn p hp tkc) mT_2_177 mT_1_4 mT_2_174 mT_2_175 mT_2_176 okX7_isWord ⟨by decide, by decide⟩ rfl (by show kO (K tk) = _; rw [ktk]; rfl) rfl rfl (Nat.le_of_ble_eq_true rfl) ⟨by decide, by decide⟩ dX6_takeLine_66 (aI0 (F := fun st M => P g X 2 69 [(0, .ref a0), (1, .ref a1)] st _ _ M) (M := (K, len, I, J, R)) fun x13_ h13 => ?_)
        obtain ⟨k13_0, k13_1, k13_2⟩ := h13
        show P g X 2 69 [(0, .ref a0), (1, .ref a1)] [.int x13_] _ _ (K, len, I, J, R)
        rcases k13_2 with ⟨hr13, hw13⟩ | ⟨hr13, hw13⟩
        · refine r_if_eq hC (tgt := 78) dX6_takeLine_69 (by decide) (fun c14 => ?_) (fun c14 => ?_)
          · exfalso; omega
          refine r_aload_n hC dX6_takeLine_72 0 rfl ?_
          refine r_aload_n hC dX6_takeLine_73 1 rfl ?_
          refine r_callV hC (As := [.ref a1]) (rest := []) (ci := 6) (f_X6_takeRain g (xL X) K len I J R hs a0 ka0 a1 ka1 tk htk ktk tp bt hbt hkt hbb hkb nbt B n (hB.mv hF hkb (fun _ => rfl)) hn p hp tkc nr hnr knr lnr pr hpr kpr lpr lk hlkr klk D hD rep hu rwd hJ) mT_3_49 mT_1_3 mT_3_46 mT_3_48 mP_12 okX6_takeRain ⟨by decide, by decide⟩ rfl (by show kO (K a0) = _; rw [ka0]; rfl) rfl rfl (Nat.le_of_ble_eq_true rfl) ⟨by decide, by decide⟩ dX6_takeLine_74 (aI2 (F := fun st M => P g X 2 77 [(0, .ref a0), (1, .ref a1)] st _ _ M) (M := (K, len, I, J, R)) fun x15_ I15 J15 h15 => ?_)
          obtain ⟨hs15, hf15, hfj15, k15_0, k15_1, k15_2, k15_3, k15_4⟩ := h15
          show P g X 2 77 [(0, .ref a0), (1, .ref a1)] [.int x15_] _ _ (K, len, I15, J15, R)
          have hF15 : Fr K [(2, 1), (2, 4), (2, 6), (2, 8), (2, 12), (3, 0), (3, 1), (3, 2), (3, 3), (3, 4), (5, 0), (5, 1), (5, 2), (5, 3), (7, 3), (7, 4), (7, 5), (7, 6), (8, 2), (8, 3), (8, 4), (55, 999), (56, 999), (57, 999), (58, 999), (59, 999), (60, 999), (61, 999), (62, 999), (63, 999), (64, 999)] I I15 := hF.trans hf15 rfl rfl
          have hFJ15 : Fr K [(8, 5), (42, 999), (48, 999)] J J15 := hFJ.trans hfj15 rfl rfl
          have oc15 := oc.tr k15_4
          have ob15 := ob.tr k15_3
          rcases k15_2 with ⟨hr15, D15, p15, hsp15, hp15, tk15, rep15, rwL15, fl15⟩ | ⟨hr15, kf15, qf15, hsp15, hf115, hf215⟩
          · have fq15 : I15 a0 5 = I a0 5 := fl15.trans rfl
            exact r_iret hC hQ hlk hr (nz_b (by omega) (by omega)) (by decide) (by decide) dX6_takeLine_77 ⟨_, _, _, rfl, rfl, ⟨hs15, hF15, hFJ15, (by omega), (by omega), (by first | exact Or.inl ⟨hr15, D15, p15, by unfold sLine; rw [pif_f hw1, pif_f hw5, pif_f hw9, pif_t hw13]; exact hsp15, hp15, tk15, rep15, rwL15, fq15⟩ | exact Or.inr ⟨hr15, kf15, qf15, by unfold sLine; rw [pif_f hw1, pif_f hw5, pif_f hw9, pif_t hw13]; exact hsp15, hf115, hf215⟩ | exact Or.inr ⟨by omega, 1, _, by unfold sLine; rw [pif_f hw1, pif_f hw5, pif_f hw9, pif_t hw13, hsp15, bnd_ok], by omega, by assumption⟩), (by exact ob15), (by exact oc15)⟩⟩
          · exact r_iret hC hQ hlk hr (nz_b (by omega) (by omega)) (by decide) (by decide) dX6_takeLine_77 ⟨_, _, _, rfl, rfl, ⟨hs15, hF15, hFJ15, (by omega), (by omega), (by first | exact Or.inl ⟨hr15, D15, p15, by unfold sLine; rw [pif_f hw1, pif_f hw5, pif_f hw9, pif_t hw13]; exact hsp15, hp15, tk15, rep15, rwL15, NONE⟩ | exact Or.inr ⟨hr15, kf15, qf15, by unfold sLine; rw [pif_f hw1, pif_f hw5, pif_f hw9, pif_t hw13]; exact hsp15, hf115, hf215⟩ | exact Or.inr ⟨by omega, 1, _, by unfold sLine; rw [pif_f hw1, pif_f hw5, pif_f hw9, pif_t hw13, hsp15, bnd_er], by omega, by assumption⟩), (by exact ob15), (by exact oc15)⟩⟩
        · refine r_if_eq hC (tgt := 78) dX6_takeLine_69 (by decide) (fun c16 => ?_) (fun c16 => ?_)
          rotate_left
          · exfalso; omega
          refine r_aload_n hC dX6_takeLine_78 0 rfl ?_
          refine r_getr hC 0 (ci := 6) rfl u6_in (by decide) mT_1_81 dX6_takeLine_79 ka0 rfl rfl htk ?_
          refine r_ldcS hC (i := 7) (by decide) rfl rfl dX6_takeLine_82 ?_
          refine r_callV hC (As := [.ref (g.2.2.1 7)]) (rest := []) (ci := 7) (f_X7_isWord g (xL X) K len I J R hs tk ktk 7 (by decide) tp bt hbt hkt hbb hkb nbt B n (hB.mv hF hkb (fun _ => rfl)) hn p hp tkc) mT_2_177 mT_1_4 mT_2_174 mT_2_175 mT_2_176 okX7_isWord ⟨by decide, by decide⟩ rfl (by show kO (K tk) = _; rw [ktk]; rfl) rfl rfl (Nat.le_of_ble_eq_true rfl) ⟨by decide, by decide⟩ dX6_takeLine_84 (aI0 (F := fun st M => P g X 2 87 [(0, .ref a0), (1, .ref a1)] st _ _ M) (M := (K, len, I, J, R)) fun x17_ h17 => ?_)
          obtain ⟨k17_0, k17_1, k17_2⟩ := h17
          show P g X 2 87 [(0, .ref a0), (1, .ref a1)] [.int x17_] _ _ (K, len, I, J, R)
          rcases k17_2 with ⟨hr17, hw17⟩ | ⟨hr17, hw17⟩
          · refine r_if_eq hC (tgt := 96) dX6_takeLine_87 (by decide) (fun c18 => ?_) (fun c18 => ?_)
            · exfalso; omega
            refine r_aload_n hC dX6_takeLine_90 0 rfl ?_
            refine r_aload_n hC dX6_takeLine_91 1 rfl ?_
            refine r_callV hC (As := [.ref a1]) (rest := []) (ci := 6) (f_X6_takeStory g (xL X) K len I J R hs a0 ka0 a1 ka1 tk htk ktk tp bt hbt hkt hbb hkb nbt B n (hB.mv hF hkb (fun _ => rfl)) hn p hp tkc nr hnr knr lnr pr hpr kpr lpr lk hlkr klk D hD rep hu rwd hJ) mT_3_54 mT_1_3 mT_3_51 mT_3_53 mP_13 okX6_takeStory ⟨by decide, by decide⟩ rfl (by show kO (K a0) = _; rw [ka0]; rfl) rfl rfl (Nat.le_of_ble_eq_true rfl) ⟨by decide, by decide⟩ dX6_takeLine_92 (aI2 (F := fun st M => P g X 2 95 [(0, .ref a0), (1, .ref a1)] st _ _ M) (M := (K, len, I, J, R)) fun x19_ I19 J19 h19 => ?_)
            obtain ⟨hs19, hf19, hfj19, k19_0, k19_1, k19_2, k19_3, k19_4⟩ := h19
            show P g X 2 95 [(0, .ref a0), (1, .ref a1)] [.int x19_] _ _ (K, len, I19, J19, R)
            have hF19 : Fr K [(2, 1), (2, 4), (2, 6), (2, 8), (2, 12), (3, 0), (3, 1), (3, 2), (3, 3), (3, 4), (5, 0), (5, 1), (5, 2), (5, 3), (7, 3), (7, 4), (7, 5), (7, 6), (8, 2), (8, 3), (8, 4), (55, 999), (56, 999), (57, 999), (58, 999), (59, 999), (60, 999), (61, 999), (62, 999), (63, 999), (64, 999)] I I19 := hF.trans hf19 rfl rfl
            have hFJ19 : Fr K [(8, 5), (42, 999), (48, 999)] J J19 := hFJ.trans hfj19 rfl rfl
            have oc19 := oc.tr k19_4
            have ob19 := ob.tr k19_3
            rcases k19_2 with ⟨hr19, D19, p19, hsp19, hp19, tk19, rep19, rwL19, fl19⟩ | ⟨hr19, kf19, qf19, hsp19, hf119, hf219⟩
            · have fq19 : I19 a0 5 = I a0 5 := fl19.trans rfl
              exact r_iret hC hQ hlk hr (nz_b (by omega) (by omega)) (by decide) (by decide) dX6_takeLine_95 ⟨_, _, _, rfl, rfl, ⟨hs19, hF19, hFJ19, (by omega), (by omega), (by first | exact Or.inl ⟨hr19, D19, p19, by unfold sLine; rw [pif_f hw1, pif_f hw5, pif_f hw9, pif_f hw13, pif_t hw17]; exact hsp19, hp19, tk19, rep19, rwL19, fq19⟩ | exact Or.inr ⟨hr19, kf19, qf19, by unfold sLine; rw [pif_f hw1, pif_f hw5, pif_f hw9, pif_f hw13, pif_t hw17]; exact hsp19, hf119, hf219⟩ | exact Or.inr ⟨by omega, 1, _, by unfold sLine; rw [pif_f hw1, pif_f hw5, pif_f hw9, pif_f hw13, pif_t hw17, hsp19, bnd_ok], by omega, by assumption⟩), (by exact ob19), (by exact oc19)⟩⟩
            · exact r_iret hC hQ hlk hr (nz_b (by omega) (by omega)) (by decide) (by decide) dX6_takeLine_95 ⟨_, _, _, rfl, rfl, ⟨hs19, hF19, hFJ19, (by omega), (by omega), (by first | exact Or.inl ⟨hr19, D19, p19, by unfold sLine; rw [pif_f hw1, pif_f hw5, pif_f hw9, pif_f hw13, pif_t hw17]; exact hsp19, hp19, tk19, rep19, rwL19, NONE⟩ | exact Or.inr ⟨hr19, kf19, qf19, by unfold sLine; rw [pif_f hw1, pif_f hw5, pif_f hw9, pif_f hw13, pif_t hw17]; exact hsp19, hf119, hf219⟩ | exact Or.inr ⟨by omega, 1, _, by unfold sLine; rw [pif_f hw1, pif_f hw5, pif_f hw9, pif_f hw13, pif_t hw17, hsp19, bnd_er], by omega, by assumption⟩), (by exact ob19), (by exact oc19)⟩⟩
          · refine r_if_eq hC (tgt := 96) dX6_takeLine_87 (by decide) (fun c20 => ?_) (fun c20 => ?_)
            rotate_left
            · exfalso; omega
            refine r_aload_n hC dX6_takeLine_96 0 rfl ?_
            refine r_getr hC 0 (ci := 6) rfl u6_in (by decide) mT_1_81 dX6_takeLine_97 ka0 rfl rfl htk ?_
            refine r_ldcS hC (i := 8) (by decide) rfl rfl dX6_takeLine_100 ?_
            refine r_callV hC (As := [.ref (g.2.2.1 8)]) (rest := []) (ci := 7) (f_X7_isWord g (xL X) K len I J R hs tk ktk 8 (by decide) tp bt hbt hkt hbb hkb nbt B n (hB.mv hF hkb (fun _ => rfl)) hn p hp tkc) mT_2_177 mT_1_4 mT_2_174 mT_2_175 mT_2_176 okX7_isWord ⟨by decide, by decide⟩ rfl (by show kO (K tk) = _; rw [ktk]; rfl) rfl rfl (Nat.le_of_ble_eq_true rfl) ⟨by decide, by decide⟩ dX6_takeLine_102 (aI0 (F := fun st M => P g X 2 105 [(0, .ref a0), (1, .ref a1)] st _ _ M) (M := (K, len, I, J, R)) fun x21_ h21 => ?_)
            obtain ⟨k21_0, k21_1, k21_2⟩ := h21
            show P g X 2 105 [(0, .ref a0), (1, .ref a1)] [.int x21_] _ _ (K, len, I, J, R)
            rcases k21_2 with ⟨hr21, hw21⟩ | ⟨hr21, hw21⟩
            · refine r_if_eq hC (tgt := 114) dX6_takeLine_105 (by decide) (fun c22 => ?_) (fun c22 => ?_)
              · exfalso; omega
              refine r_aload_n hC dX6_takeLine_108 0 rfl ?_
              refine r_aload_n hC dX6_takeLine_109 1 rfl ?_
              refine r_callV hC (As := [.ref a1]) (rest := []) (ci := 6) (f_X6_takeVillage g (xL X) K len I J R hs a0 ka0 a1 ka1 tk htk ktk tp bt hbt hkt hbb hkb nbt B n (hB.mv hF hkb (fun _ => rfl)) hn p hp tkc nr hnr knr lnr pr hpr kpr lpr lk hlkr klk D hD rep hu rwd hJ) mT_3_72 mT_1_3 mT_3_69 mT_3_71 mP_15 okX6_takeVillage ⟨by decide, by decide⟩ rfl (by show kO (K a0) = _; rw [ka0]; rfl) rfl rfl (Nat.le_of_ble_eq_true rfl) ⟨by decide, by decide⟩ dX6_takeLine_110 (aI2 (F := fun st M => P g X 2 113 [(0, .ref a0), (1, .ref a1)] st _ _ M) (M := (K, len, I, J, R)) fun x23_ I23 J23 h23 => ?_)
              obtain ⟨hs23, hf23, hfj23, k23_0, k23_1, k23_2, k23_3, k23_4⟩ := h23
              show P g X 2 113 [(0, .ref a0), (1, .ref a1)] [.int x23_] _ _ (K, len, I23, J23, R)
              have hF23 : Fr K [(2, 1), (2, 4), (2, 6), (2, 8), (2, 12), (3, 0), (3, 1), (3, 2), (3, 3), (3, 4), (5, 0), (5, 1), (5, 2), (5, 3), (7, 3), (7, 4), (7, 5), (7, 6), (8, 2), (8, 3), (8, 4), (55, 999), (56, 999), (57, 999), (58, 999), (59, 999), (60, 999), (61, 999), (62, 999), (63, 999), (64, 999)] I I23 := hF.trans hf23 rfl rfl
              have hFJ23 : Fr K [(8, 5), (42, 999), (48, 999)] J J23 := hFJ.trans hfj23 rfl rfl
              have oc23 := oc.tr k23_4
              have ob23 := ob.tr k23_3
              rcases k23_2 with ⟨hr23, D23, p23, hsp23, hp23, tk23, rep23, rwL23, fl23⟩ | ⟨hr23, kf23, qf23, hsp23, hf123, hf223⟩
              · have fq23 : I23 a0 5 = I a0 5 := fl23.trans rfl
                exact r_iret hC hQ hlk hr (nz_b (by omega) (by omega)) (by decide) (by decide) dX6_takeLine_113 ⟨_, _, _, rfl, rfl, ⟨hs23, hF23, hFJ23, (by omega), (by omega), (by first | exact Or.inl ⟨hr23, D23, p23, by unfold sLine; rw [pif_f hw1, pif_f hw5, pif_f hw9, pif_f hw13, pif_f hw17, pif_t hw21]; exact hsp23, hp23, tk23, rep23, rwL23, fq23⟩ | exact Or.inr ⟨hr23, kf23, qf23, by unfold sLine; rw [pif_f hw1, pif_f hw5, pif_f hw9, pif_f hw13, pif_f hw17, pif_t hw21]; exact hsp23, hf123, hf223⟩ | exact Or.inr ⟨by omega, 1, _, by unfold sLine; rw [pif_f hw1, pif_f hw5, pif_f hw9, pif_f hw13, pif_f hw17, pif_t hw21, hsp23, bnd_ok], by omega, by assumption⟩), (by exact ob23), (by exact oc23)⟩⟩
              · exact r_iret hC hQ hlk hr (nz_b (by omega) (by omega)) (by decide) (by decide) dX6_takeLine_113 ⟨_, _, _, rfl, rfl, ⟨hs23, hF23, hFJ23, (by omega), (by omega), (by first | exact Or.inl ⟨hr23, D23, p23, by unfold sLine; rw [pif_f hw1, pif_f hw5, pif_f hw9, pif_f hw13, pif_f hw17, pif_t hw21]; exact hsp23, hp23, tk23, rep23, rwL23, NONE⟩ | exact Or.inr ⟨hr23, kf23, qf23, by unfold sLine; rw [pif_f hw1, pif_f hw5, pif_f hw9, pif_f hw13, pif_f hw17, pif_t hw21]; exact hsp23, hf123, hf223⟩ | exact Or.inr ⟨by omega, 1, _, by unfold sLine; rw [pif_f hw1, pif_f hw5, pif_f hw9, pif_f hw13, pif_f hw17, pif_t hw21, hsp23, bnd_er], by omega, by assumption⟩), (by exact ob23), (by exact oc23)⟩⟩
            · refine r_if_eq hC (tgt := 114) dX6_takeLine_105 (by decide) (fun c24 => ?_) (fun c24 => ?_)
              rotate_left
              · exfalso; omega
              refine r_aload_n hC dX6_takeLine_114 0 rfl ?_
              refine r_getr hC 0 (ci := 6) rfl u6_in (by decide) mT_1_81 dX6_takeLine_115 ka0 rfl rfl htk ?_
              refine r_ldcS hC (i := 9) (by decide) rfl rfl dX6_takeLine_118 ?_
              refine r_callV hC (As := [.ref (g.2.2.1 9)]) (rest := []) (ci := 7) (f_X7_isWord g (xL X) K len I J R hs tk ktk 9 (by decide) tp bt hbt hkt hbb hkb nbt B n (hB.mv hF hkb (fun _ => rfl)) hn p hp tkc) mT_2_177 mT_1_4 mT_2_174 mT_2_175 mT_2_176 okX7_isWord ⟨by decide, by decide⟩ rfl (by show kO (K tk) = _; rw [ktk]; rfl) rfl rfl (Nat.le_of_ble_eq_true rfl) ⟨by decide, by decide⟩ dX6_takeLine_120 (aI0 (F := fun st M => P g X 2 123 [(0, .ref a0), (1, .ref a1)] st _ _ M) (M := (K, len, I, J, R)) fun x25_ h25 => ?_)
              obtain ⟨k25_0, k25_1, k25_2⟩ := h25
              show P g X 2 123 [(0, .ref a0), (1, .ref a1)] [.int x25_] _ _ (K, len, I, J, R)
              rcases k25_2 with ⟨hr25, hw25⟩ | ⟨hr25, hw25⟩
              · refine r_if_eq hC (tgt := 132) dX6_takeLine_123 (by decide) (fun c26 => ?_) (fun c26 => ?_)
                · exfalso; omega
                refine r_aload_n hC dX6_takeLine_126 0 rfl ?_
                refine r_aload_n hC dX6_takeLine_127 1 rfl ?_
                refine r_callV hC (As := [.ref a1]) (rest := []) (ci := 6) (f_X6_takeKnower g (xL X) K len I J R hs a0 ka0 a1 ka1 tk htk ktk tp bt hbt hkt hbb hkb nbt B n (hB.mv hF hkb (fun _ => rfl)) hn p hp tkc nr hnr knr lnr pr hpr kpr lpr lk hlkr klk D hD rep hu rwd hJ) mT_3_79 mT_1_3 mT_3_76 mT_3_78 mP_16 okX6_takeKnower ⟨by decide, by decide⟩ rfl (by show kO (K a0) = _; rw [ka0]; rfl) rfl rfl (Nat.le_of_ble_eq_true rfl) ⟨by decide, by decide⟩ dX6_takeLine_128 (aI2 (F := fun st M => P g X 2 131 [(0, .ref a0), (1, .ref a1)] st _ _ M) (M := (K, len, I, J, R)) fun x27_ I27 J27 h27 => ?_)
                obtain ⟨hs27, hf27, hfj27, k27_0, k27_1, k27_2, k27_3, k27_4⟩ := h27
                show P g X 2 131 [(0, .ref a0), (1, .ref a1)] [.int x27_] _ _ (K, len, I27, J27, R)
                have hF27 : Fr K [(2, 1), (2, 4), (2, 6), (2, 8), (2, 12), (3, 0), (3, 1), (3, 2), (3, 3), (3, 4), (5, 0), (5, 1), (5, 2), (5, 3), (7, 3), (7, 4), (7, 5), (7, 6), (8, 2), (8, 3), (8, 4), (55, 999), (56, 999), (57, 999), (58, 999), (59, 999), (60, 999), (61, 999), (62, 999), (63, 999), (64, 999)] I I27 := hF.trans hf27 rfl rfl
                have hFJ27 : Fr K [(8, 5), (42, 999), (48, 999)] J J27 := hFJ.trans hfj27 rfl rfl
                have oc27 := oc.tr k27_4
                have ob27 := ob.tr k27_3
                rcases k27_2 with ⟨hr27, D27, p27, hsp27, hp27, tk27, rep27, rwL27, fl27⟩ | ⟨hr27, kf27, qf27, hsp27, hf127, hf227⟩
                · have fq27 : I27 a0 5 = I a0 5 := fl27.trans rfl
                  exact r_iret hC hQ hlk hr (nz_b (by omega) (by omega)) (by decide) (by decide) dX6_takeLine_131 ⟨_, _, _, rfl, rfl, ⟨hs27, hF27, hFJ27, (by omega), (by omega), (by first | exact Or.inl ⟨hr27, D27, p27, by unfold sLine; rw [pif_f hw1, pif_f hw5, pif_f hw9, pif_f hw13, pif_f hw17, pif_f hw21, pif_t hw25]; exact hsp27, hp27, tk27, rep27, rwL27, fq27⟩ | exact Or.inr ⟨hr27, kf27, qf27, by unfold sLine; rw [pif_f hw1, pif_f hw5, pif_f hw9, pif_f hw13, pif_f hw17, pif_f hw21, pif_t hw25]; exact hsp27, hf127, hf227⟩ | exact Or.inr ⟨by omega, 1, _, by unfold sLine; rw [pif_f hw1, pif_f hw5, pif_f hw9, pif_f hw13, pif_f hw17, pif_f hw21, pif_t hw25, hsp27, bnd_ok], by omega, by assumption⟩), (by exact ob27), (by exact oc27)⟩⟩
                · exact r_iret hC hQ hlk hr (nz_b (by omega) (by omega)) (by decide) (by decide) dX6_takeLine_131 ⟨_, _, _, rfl, rfl, ⟨hs27, hF27, hFJ27, (by omega), (by omega), (by first | exact Or.inl ⟨hr27, D27, p27, by unfold sLine; rw [pif_f hw1, pif_f hw5, pif_f hw9, pif_f hw13, pif_f hw17, pif_f hw21, pif_t hw25]; exact hsp27, hp27, tk27, rep27, rwL27, NONE⟩ | exact Or.inr ⟨hr27, kf27, qf27, by unfold sLine; rw [pif_f hw1, pif_f hw5, pif_f hw9, pif_f hw13, pif_f hw17, pif_f hw21, pif_t hw25]; exact hsp27, hf127, hf227⟩ | exact Or.inr ⟨by omega, 1, _, by unfold sLine; rw [pif_f hw1, pif_f hw5, pif_f hw9, pif_f hw13, pif_f hw17, pif_f hw21, pif_t hw25, hsp27, bnd_er], by omega, by assumption⟩), (by exact ob27), (by exact oc27)⟩⟩
              · refine r_if_eq hC (tgt := 132) dX6_takeLine_123 (by decide) (fun c28 => ?_) (fun c28 => ?_)
                rotate_left
                · exfalso; omega
                refine r_aload_n hC dX6_takeLine_132 0 rfl ?_
                refine r_iconst hC (v := (1)) dX6_takeLine_133 (by decide) (by decide) (fun x29_ e29 t29 => ?_)
                refine r_callV hC (As := [.int x29_]) (rest := []) (ci := 6) (f_X6_faulty g (xL X) K len I J R hs a0 ka0 x29_ tk htk ktk tp bt hbt hkt hbb hkb nbt B n (hB.mv hF hkb (fun _ => rfl)) hn p hp tkc) mT_2_233 mT_1_3 mT_2_230 mT_2_232 mP_5 okX6_faulty ⟨by decide, by decide⟩ rfl (by show kO (K a0) = _; rw [ka0]; rfl) rfl rfl (Nat.le_of_ble_eq_true rfl) ⟨by decide, by decide⟩ dX6_takeLine_134 (aI1 (F := fun st M => P g X 2 137 [(0, .ref a0), (1, .ref a1)] st _ _ M) (M := (K, len, I, J, R)) fun x30_ I30 h30 => ?_)
                obtain ⟨hs30, hf30, k30_0, k30_1, k30_2⟩ := h30
                show P g X 2 137 [(0, .ref a0), (1, .ref a1)] [.int x30_] _ _ (K, len, I30, J, R)
                have hF30 : Fr K [(2, 1), (2, 4), (2, 6), (2, 8), (2, 12), (3, 0), (3, 1), (3, 2), (3, 3), (3, 4), (5, 0), (5, 1), (5, 2), (5, 3), (7, 3), (7, 4), (7, 5), (7, 6), (8, 2), (8, 3), (8, 4), (55, 999), (56, 999), (57, 999), (58, 999), (59, 999), (60, 999), (61, 999), (62, 999), (63, 999), (64, 999)] I I30 := hF.trans hf30 rfl rfl
                have tkm30 := tkc.mvI hf30 ktk rfl rfl rfl rfl
                have rw30 := rwd.mv hcx qC_big hf30 rfl
                have oc30 := oc.mv qC_big hf30 rfl
                have rp30 := rep.mvI hf30 ka0 ka1 klk rfl
                have ob30 := ob.mv hf30 rfl
                exact r_iret hC hQ hlk hr (nz_b (by omega) (by omega)) (by decide) (by decide) dX6_takeLine_137 ⟨_, _, _, rfl, rfl, ⟨hs30, hF30, hFJ, (by omega), (by omega), (by first | exact Or.inl ⟨hr30, D30, p30, by unfold sLine; rw [pif_f hw1, pif_f hw5, pif_f hw9, pif_f hw13, pif_f hw17, pif_f hw21]; exact hsp30, hp30, tk30, rep30, rwL30, NONE⟩ | exact Or.inr ⟨hr30, kf30, qf30, by unfold sLine; rw [pif_f hw1, pif_f hw5, pif_f hw9, pif_f hw13, pif_f hw17, pif_f hw21]; exact hsp30, hf130, hf230⟩ | exact Or.inr ⟨by omega, 1, _, by unfold sLine; rw [pif_f hw1, pif_f hw5, pif_f hw9, pif_f hw13, pif_f hw17, pif_f hw21, pif_f hw25], by omega, by assumption⟩), (by exact ob30), (by exact oc30)⟩⟩

