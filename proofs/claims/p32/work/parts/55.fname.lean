set_option maxHeartbeats 4000000 in
set_option maxRecDepth 100000 in
theorem f_X6_takeNewName (g : GG) (l : Launch) (K len : Nat → Nat) (I : Nat → Nat → Int32) (J : Nat → Nat → Int64) (R : Nat → Nat → Option Nat) (hs : Sf K len I R) (a0 : Nat) (ka0 : K a0 = 7) (tk : Nat) (htk : R a0 0 = some tk) (ktk : K tk = 8) (tp : Nat) (bt : Nat) (hbt : R tk 0 = some tp) (hkt : K tp = 6) (hbb : R tp 0 = some bt) (hkb : K bt = 40) (nbt : len bt = 900) (B : Nat → Int) (n : Nat) (hB : BT B n bt I) (hn : n ≤ 900) (p : Nat) (hp : p ≤ n) (tkc : TkC B n tk p I J) (nr : Nat) (hnr : R a0 1 = some nr) (knr : K nr = 42) (lnr : len nr = 19) (pr : Nat) (hpr : R a0 2 = some pr) (kpr : K pr = 48) (lpr : len pr = 5) (hl : Nat) (khl : K hl = 2) (lk : Nat) (klk : K lk = 3) (D : DD) (hD : DI D) (rep : RpC D a0 nr pr hl lk I J) (hu : UU K R) (rwd : RW (CC hl lk R) (cntN D) D I) (p0 : D 0 10 ≤ 18) : Ct g l yX6_takeNewName cX6_takeNewName 2 (Option.some Jvm.ClassFile.FieldType.boolean) rmX6_takeNewName [.ref a0] (K, len, I, J, R) (pI2 (K, len, I, J, R) (fun r I' J' => Sf K len I' R ∧ Fr K [(7, 3), (7, 5), (7, 6), (8, 2), (8, 3), (8, 4)] I I' ∧ Fr K [(8, 5), (42, 999)] J J' ∧ (0 ≤ r.toInt) ∧ (r.toInt ≤ 1) ∧ (r.toInt = 1 ∧ (∃ (D' : DD) (p' : Nat), sFresh B n p D = .ok (D', p') ∧ p' ≤ n ∧ TkC B n tk p' I' J' ∧ RpC D' a0 nr pr hl lk I' J' ∧ RW (CC hl lk R) (cntN D') D' I' ∧ I' a0 5 = I a0 5) ∨ r.toInt = 0 ∧ (∃ (kf : Int) (qf : Nat), sFresh B n p D = .error (kf, qf) ∧ (I' a0 5).toInt = kf ∧ (I' a0 6).toInt = qf)) ∧ (OB K hl lk I I') ∧ (OC (CC hl lk R) qC K I I') ∧ (J' pr = J pr))) := by
  refine Ct_intro (by decide +kernel) (Nat.le_of_ble_eq_true rfl) (fun X hC hL hKK hNm hr hlk hQ => ?_)
  subst hL
  have hC : Cx g X cX6_takeNewName "HillTap$Teller" 2 rmX6_takeNewName := hC
  show P g X 2 0 [(0, .ref a0)] [] 0 0 (K, len, I, J, R)
  have hF : Fr K [(7, 3), (7, 5), (7, 6), (8, 2), (8, 3), (8, 4)] I I := Fr.refl
  have hFJ : Fr K [(8, 5), (42, 999)] J J := Fr.refl
  have tkc9 := tkc
  obtain ⟨tk3, tk4, tk2, tk1, tk5⟩ := tkc9
  have hnp : nr ≠ pr := fun z => by rw [z, lpr] at lnr; exact absurd lnr (by decide)
  obtain ⟨hD0, ⟨hD1, hD2⟩, ⟨hD3, hD4⟩, ⟨hD5, hD6⟩, ⟨hD7, hD8⟩, ⟨hD9, hD10⟩, hD11, hD12⟩ := id hD
  obtain ⟨rs0, rs1, rs2, rs3, rs4, rs5, rs6, rs7, rs8, rs9, rs10⟩ := id rep.1
  have ob : OB K hl lk I I := OB.rf
  have hcx := CC_x hs khl klk hu
  have oc : OC (CC hl lk R) qC K I I := OC.rf
  obtain ⟨NC, eNC⟩ : ∃ z : Int32, z = I a0 3 := ⟨_, rfl⟩
  have fNC : NC.toInt = (I a0 3).toInt := by rw [eNC]
  have rNC := hs.rng ka0 rfl eNC
  refine r_aload_n hC dX6_takeNewName_0 0 rfl ?_
  refine r_callV hC (As := []) (rest := []) (ci := 6) (f_X6_isName g (xL X) K len I J R hs a0 ka0 tk htk ktk tp bt hbt hkt hbb hkb nbt B n (hB.mv hF hkb (fun _ => rfl)) hn p hp tkc) mT_3_25 mT_1_3 mT_3_22 mT_3_24 mP_10 okX6_isName ⟨by decide, by decide⟩ rfl (by show kO (K a0) = _; rw [ka0]; rfl) rfl rfl (Nat.le_of_ble_eq_true rfl) ⟨by decide, by decide⟩ dX6_takeNewName_1 (aI0 (F := fun st M => P g X 2 4 [(0, .ref a0)] st _ _ M) (M := (K, len, I, J, R)) fun x1_ h1 => ?_)
  obtain ⟨k1_0, k1_1, k1_2⟩ := h1
  show P g X 2 4 [(0, .ref a0)] [.int x1_] _ _ (K, len, I, J, R)
  rcases k1_2 with ⟨hr1, hw1⟩ | ⟨hr1, hw1⟩
  · refine r_if_ne hC (tgt := 13) dX6_takeNewName_4 (by decide) (fun c2 => ?_) (fun c2 => ?_)
    rotate_left
    · exfalso; omega
    have hnm : isNm B n p := by assumption
    refine r_iconst hC (v := (0)) dX6_takeNewName_13 (by decide) (by decide) (fun x3_ e3 t3 => ?_)
    refine r_istore_n hC (lv' := [(1, .int x3_), (0, .ref a0)]) dX6_takeNewName_14 (by decide) rfl ?_
    have LP4 : ∀ (mu : Nat) (x4_1 : Int32) (v4_0 : 0 ≤ x4_1.toInt) (v4_1 : x4_1.toInt ≤ D 0 10) (v4_2 : ∀ j : Nat, 0 ≤ j → (j : Int) < x4_1.toInt → D 20 j ≠ vl B n p), (19 - x4_1.toInt).toNat = mu → P g X 2 15 [(0, .ref a0), (1, .int x4_1)] [] 0 0 (K, len, I, J, R) := by
      intro mu; induction mu using Nat.strongRecOn with | ind mu ih => ?_
      intro x4_1 v4_0 v4_1 v4_2 hmu
      have ih4 := ih
      clear ih
      have hmu4 := hmu
      clear hmu
      refine r_iload_n hC dX6_takeNewName_15 1 rfl ?_
      refine r_aload_n hC dX6_takeNewName_16 0 rfl ?_
      refine r_geti hC 3 (ci := 6) rfl u6_in (by decide) mT_1_84 dX6_takeNewName_17 ka0 rfl rfl (fun x5_ e5 => ?_)
      have r5 := hs.rng ka0 rfl e5
      have f5 : x5_.toInt = (I a0 3).toInt := by rw [e5]
      have w5 : x5_ = NC := by rw [e5]; exact eNC.symm
      have wt5 : x5_.toInt = NC.toInt := by rw [w5]
      refine r_icmp_ge hC (tgt := 52) dX6_takeNewName_20 (by decide) (fun c6 => ?_) (fun c6 => ?_)
      · have hvl : (J tk 5).toInt = vl B n p := tkc.2.2.2.2 (Or.inl hnm.1)
        refine r_aload_n hC dX6_takeNewName_52 0 rfl ?_
        refine r_geti hC 3 (ci := 6) rfl u6_in (by decide) mT_1_84 dX6_takeNewName_53 ka0 rfl rfl (fun x7_ e7 => ?_)
        have r7 := hs.rng ka0 rfl e7
        have f7 : x7_.toInt = (I a0 3).toInt := by rw [e7]
        have w7 : x7_ = x5_ := by rw [e7]; exact e5.symm
        have wt7 : x7_.toInt = x5_.toInt := by rw [w7]
        refine r_bipush hC (v := (19)) dX6_takeNewName_56 (by decide) (by decide) (fun x8_ e8 t8 => ?_)
        refine r_icmp_ge hC (tgt := 87) dX6_takeNewName_58 (by decide) (fun c9 => ?_) (fun c9 => ?_)
        · exfalso; omega
        refine r_aload_n hC dX6_takeNewName_61 0 rfl ?_
        refine r_getr hC 1 (ci := 6) rfl u6_in (by decide) mT_1_82 dX6_takeNewName_62 ka0 rfl rfl hnr ?_
        refine r_aload_n hC dX6_takeNewName_65 0 rfl ?_
        refine r_geti hC 3 (ci := 6) rfl u6_in (by decide) mT_1_84 dX6_takeNewName_66 ka0 rfl rfl (fun x10_ e10 => ?_)
        have r10 := hs.rng ka0 rfl e10
        have f10 : x10_.toInt = (I a0 3).toInt := by rw [e10]
        have w10 : x10_ = x7_ := by rw [e10]; exact e7.symm
        have wt10 : x10_.toInt = x7_.toInt := by rw [w10]
        refine r_aload_n hC dX6_takeNewName_69 0 rfl ?_
        refine r_getr hC 0 (ci := 6) rfl u6_in (by decide) mT_1_81 dX6_takeNewName_70 ka0 rfl rfl htk ?_
        refine r_getj hC 5 (ci := 7) rfl u7_in (by decide) mT_1_66 dX6_takeNewName_73 ktk rfl rfl (fun y11_ e11 => ?_)
        have fj11 : y11_.toInt = (J tk 5).toInt := by rw [e11]
        refine x_lastore hC knr lnr (by decide) rfl rfl dX6_takeNewName_76 (by omega) (by omega) (fun J12 eJ12 => ?_)
        have hFJ12 := hFJ.put eJ12 knr (inS_arr rfl _)
        have tkp12 := tkc.putJ eJ12 knr ktk (by decide)
        have jp12 : J12 pr = J pr := by rw [eJ12]; exact (funext fun j => up2_ne _ _ (Or.inl (Ne.symm hnp))).trans rfl
        refine r_aload_n hC dX6_takeNewName_77 0 rfl ?_
        refine r_dup hC dX6_takeNewName_78 rfl ?_
        refine r_geti hC 3 (ci := 6) rfl u6_in (by decide) mT_1_84 dX6_takeNewName_79 ka0 rfl rfl (fun x13_ e13 => ?_)
        have r13 := hs.rng ka0 rfl e13
        have f13 : x13_.toInt = (I a0 3).toInt := by rw [e13]
        have w13 : x13_ = x10_ := by rw [e13]; exact e10.symm
        have wt13 : x13_.toInt = x10_.toInt := by rw [w13]
        refine r_iconst hC (v := (1)) dX6_takeNewName_82 (by decide) (by decide) (fun x14_ e14 t14 => ?_)
        refine r_iadd hC dX6_takeNewName_83 (fun x15_ e15 => ?_)
        try have t15 : x15_.toInt = x13_.toInt + x14_.toInt := by rw [e15]; exact ti_add (by omega) (by omega)
        refine r_puti hC 3 (ci := 6) rfl u6_in tyX6_ok nmX6 (by decide) mT_1_84 rfl rfl rfl dX6_takeNewName_84 ka0 rfl rfl (fun I16 eI16 => ?_)
        have hs16 := hs.put1 eI16 ka0 rfl (by omega) (by omega) rfl rfl (by decide)
        have hF16 := hF.put eI16 ka0 rfl
        have fp16 : I16 a0 5 = I a0 5 := (up2_at (Or.inr (by decide)) eI16).trans rfl
        have tkp16 := tkp12.put eI16 ka0 ktk (by decide)
        have rc16 : (I a0 3).toInt = D 0 10 := rep.1.2.2.2.2.2.2.2.2.2.2
        have rp16 := rep.name (v := vl B n p) eJ12 (by have h9 := clampI (i := x10_) (by omega); omega) (by omega) eI16 (by omega) hnp ka0 khl klk
        have ob16 := ob.put eI16 ka0 (by first | exact Or.inr rfl | exact Or.inl (by decide)) (by first | exact Or.inr rfl | exact Or.inl (by decide))
        have rw16 := rwd.putO hcx eI16 ka0 rfl
        have oc16 := oc.putO eI16 ka0 rfl
        refine r_aload_n hC dX6_takeNewName_87 0 rfl ?_
        refine r_getr hC 0 (ci := 6) rfl u6_in (by decide) mT_1_81 dX6_takeNewName_88 ka0 rfl rfl htk ?_
        refine r_callV hC (As := []) (rest := []) (ci := 7) (f_X7_next g (xL X) K len I16 J12 R hs16 tk ktk tp bt hbt hkt hbb hkb nbt B n (hB.mv hF16 hkb (fun _ => rfl)) hn (nx B n p) (nx_le hp).2 (tkp16.2.2.1) (tkp16.2.2.2.1)) mT_2_159 mT_1_4 mT_2_234 mT_2_157 mT_2_158 okX7_next ⟨by decide, by decide⟩ rfl (by show kO (K tk) = _; rw [ktk]; rfl) rfl rfl (Nat.le_of_ble_eq_true rfl) ⟨by decide, by decide⟩ dX6_takeNewName_91 (aV2 (F := fun st M => P g X 2 94 [(0, .ref a0), (1, .int x4_1)] st _ _ M) (M := (K, len, I16, J12, R)) fun I17 J17 h17 => ?_)
        obtain ⟨hs17, hf17, hfj17, k17_0⟩ := h17
        show P g X 2 94 [(0, .ref a0), (1, .int x4_1)] [] _ _ (K, len, I17, J17, R)
        have hF17 : Fr K [(7, 3), (7, 5), (7, 6), (8, 2), (8, 3), (8, 4)] I I17 := hF16.trans hf17 rfl rfl
        have hFJ17 : Fr K [(8, 5), (42, 999)] J J17 := hFJ12.trans hfj17 rfl rfl
        have fp17 : I17 a0 5 = I a0 5 := (hf17.get ka0 rfl).trans fp16
        have rw17 := rw16.mv hcx qC_big hf17 rfl
        have oc17 := oc16.mv qC_big hf17 rfl
        have rp17 := rp16.mv hf17 hfj17 ka0 khl klk knr kpr rfl (fun _ => rfl) (fun _ => rfl)
        have ob17 := ob16.mv hf17 rfl
        have jp17 : J17 pr = J12 pr := funext fun j => hfj17.get kpr rfl
        have jq17 : J17 pr = J pr := jp17.trans jp12
        refine r_iconst hC (v := (1)) dX6_takeNewName_94 (by decide) (by decide) (fun x18_ e18 t18 => ?_)
        exact r_iret hC hQ hlk hr (by rw [e18]; rfl) (by decide) (by decide) dX6_takeNewName_95 ⟨_, _, _, rfl, rfl, ⟨hs17, hF17, hFJ17, (by omega), (by omega), (by first | exact Or.inl ⟨by omega, _, _, by unfold sFresh; rw [pif_t hnm, pif_f (fun h9 => by obtain ⟨j, h1, h2⟩ := h9; exact v4_2 j (Nat.zero_le j) (by omega) h2)], (nx_le hp).2, k17_0, rp17, rw17.fresh, fp17⟩ | exact Or.inr ⟨by omega, 1, _, by unfold sFresh; rw [pif_f (by assumption)], by omega, by assumption⟩ | exact Or.inr ⟨by omega, 3, _, by unfold sFresh; rw [pif_t hnm, pif_t ⟨x4_1.toInt.toNat, by omega, by omega⟩], by omega, by assumption⟩), (by exact ob17), (by exact oc17), (by exact jq17)⟩⟩
      · refine r_aload_n hC dX6_takeNewName_23 0 rfl ?_
        refine r_getr hC 1 (ci := 6) rfl u6_in (by decide) mT_1_82 dX6_takeNewName_24 ka0 rfl rfl hnr ?_
        refine r_iload_n hC dX6_takeNewName_27 1 rfl ?_
        refine x_laload hC knr lnr (by decide) rfl rfl dX6_takeNewName_28 (by omega) (by omega) (fun y19_ e19 => ?_)
        refine r_aload_n hC dX6_takeNewName_29 0 rfl ?_
        refine r_getr hC 0 (ci := 6) rfl u6_in (by decide) mT_1_81 dX6_takeNewName_30 ka0 rfl rfl htk ?_
        refine r_getj hC 5 (ci := 7) rfl u7_in (by decide) mT_1_66 dX6_takeNewName_33 ktk rfl rfl (fun y20_ e20 => ?_)
        have fj20 : y20_.toInt = (J tk 5).toInt := by rw [e20]
        have hy1 : y19_.toInt = D 20 x4_1.toInt.toNat := by have h9 := clampI (i := x4_1) (by omega); rw [e19, rep.2.1 _ (by omega), show x4_1.toNatClampNeg = x4_1.toInt.toNat by omega]
        have hy2 : y20_.toInt = vl B n p := by have h8 := tkc.2.2.2.2 (Or.inl hnm.1); omega
        refine r_lcmp hC dX6_takeNewName_36 (fun x21_ e21 => ?_)
        have hz1 : x21_.toInt = 0 → y19_.toInt = y20_.toInt := fun h9 => lgc_eq (by rw [← e21]; exact h9)
        have hz2 : x21_.toInt ≠ 0 → y19_.toInt ≠ y20_.toInt := fun h9 => lgc_ne (by rw [← e21]; exact h9)
        refine r_if_ne hC (tgt := 46) dX6_takeNewName_37 (by decide) (fun c22 => ?_) (fun c22 => ?_)
        · obtain ⟨x23_, e23⟩ : ∃ z : Int32, z = x4_1 + Int32.ofInt (1) := ⟨_, rfl⟩
          refine r_iinc hC (j := 1) (v := x23_) (lv' := [(1, .int x23_), (0, .ref a0)]) dX6_takeNewName_46 rfl (by rw [e23]) (by decide) rfl ?_
          try have t23 : x23_.toInt = x4_1.toInt + (1) := by rw [e23]; exact (ti_add (b := Int32.ofInt (1)) (by show _ ≤ _ + (1 : Int); omega) (by show _ + (1 : Int) ≤ _; omega))
          refine r_goto hC (tgt := 15) dX6_takeNewName_49 (by decide) ?_
          refine r_sub [1, 0] rfl ?_
          exact ih4 ((19 - x23_.toInt).toNat) (by omega) x23_ (by omega) (by omega) (by first | exact all_0 (P := fun j => D 20 j ≠ vl B n p) (q := 0) (by omega) | exact all_s (P := fun j => D 20 j ≠ vl B n p) v4_2 (by omega) (by omega) (by show D 20 _ ≠ _; omega)) rfl
        · refine r_aload_n hC dX6_takeNewName_40 0 rfl ?_
          refine r_iconst hC (v := (3)) dX6_takeNewName_41 (by decide) (by decide) (fun x24_ e24 t24 => ?_)
          refine r_callV hC (As := [.int x24_]) (rest := []) (ci := 6) (f_X6_faulty g (xL X) K len I J R hs a0 ka0 x24_ tk htk ktk tp bt hbt hkt hbb hkb nbt B n (hB.mv hF hkb (fun _ => rfl)) hn p hp tkc) mT_2_233 mT_1_3 mT_2_230 mT_2_232 mP_5 okX6_faulty ⟨by decide, by decide⟩ rfl (by show kO (K a0) = _; rw [ka0]; rfl) rfl rfl (Nat.le_of_ble_eq_true rfl) ⟨by decide, by decide⟩ dX6_takeNewName_42 (aI1 (F := fun st M => P g X 2 45 [(0, .ref a0), (1, .int x4_1)] st _ _ M) (M := (K, len, I, J, R)) fun x25_ I25 h25 => ?_)
          obtain ⟨hs25, hf25, k25_0, k25_1, k25_2⟩ := h25
          show P g X 2 45 [(0, .ref a0), (1, .int x4_1)] [.int x25_] _ _ (K, len, I25, J, R)
          have hF25 : Fr K [(7, 3), (7, 5), (7, 6), (8, 2), (8, 3), (8, 4)] I I25 := hF.trans hf25 rfl rfl
          have tkm25 := tkc.mvI hf25 ktk rfl rfl rfl rfl
          have rw25 := rwd.mv hcx qC_big hf25 rfl
          have oc25 := oc.mv qC_big hf25 rfl
          have rp25 := rep.mvI hf25 ka0 khl klk rfl
          have ob25 := ob.mv hf25 rfl
          exact r_iret hC hQ hlk hr (nz_b (by omega) (by omega)) (by decide) (by decide) dX6_takeNewName_45 ⟨_, _, _, rfl, rfl, ⟨hs25, hF25, hFJ, (by omega), (by omega), (by first | exact Or.inl ⟨by omega, _, _, by unfold sFresh; rw [pif_t hnm, pif_f (fun h9 => by obtain ⟨j, h1, h2⟩ := h9; exact v4_2 j (Nat.zero_le j) (by omega) h2)], hp, tkm25, rp25, rw25.fresh, NONE⟩ | exact Or.inr ⟨by omega, 1, _, by unfold sFresh; rw [pif_f (by assumption)], by omega, by assumption⟩ | exact Or.inr ⟨by omega, 3, _, by unfold sFresh; rw [pif_t hnm, pif_t ⟨x4_1.toInt.toNat, by omega, by omega⟩], by omega, by assumption⟩), (by exact ob25), (by exact oc25), (by exact rfl)⟩⟩
    refine r_sub [1, 0] rfl ?_
    exact LP4 _ x3_ (by omega) (by omega) (by first | exact all_0 (P := fun j => D 20 j ≠ vl B n p) (q := 0) (by omega) | exact all_s (P := fun j => D 20 j ≠ vl B n p) v4_2 (by omega) (by omega) (by show D 20 _ ≠ _; omega)) rfl
  · refine r_if_ne hC (tgt := 13) dX6_takeNewName_4 (by decide) (fun c26 => ?_) (fun c26 => ?_)
    · exfalso; omega
    refine r_aload_n hC dX6_takeNewName_7 0 rfl ?_
    refine r_iconst hC (v := (1)) dX6_takeNewName_8 (by decide) (by decide) (fun x27_ e27 t27 => ?_)
    refine r_callV hC (As := [.int x27_]) (rest := []) (ci := 6) (f_X6_faulty g (xL X) K len I J R hs a0 ka0 x27_ tk htk ktk tp bt hbt hkt hbb hkb nbt B n (hB.mv hF hkb (fun _ => rfl)) hn p hp tkc) mT_2_233 mT_1_3 mT_2_230 mT_2_232 mP_5 okX6_faulty ⟨by decide, by decide⟩ rfl (by show kO (K a0) = _; rw [ka0]; rfl) rfl rfl (Nat.le_of_ble_eq_true rfl) ⟨by decide, by decide⟩ dX6_takeNewName_9 (aI1 (F := fun st M => P g X 2 12 [(0, .ref a0)] st _ _ M) (M := (K, len, I, J, R)) fun x28_ I28 h28 => ?_)
    obtain ⟨hs28, hf28, k28_0, k28_1, k28_2⟩ := h28
    show P g X 2 12 [(0, .ref a0)] [.int x28_] _ _ (K, len, I28, J, R)
    have hF28 : Fr K [(7, 3), (7, 5), (7, 6), (8, 2), (8, 3), (8, 4)] I I28 := hF.trans hf28 rfl rfl
    have tkm28 := tkc.mvI hf28 ktk rfl rfl rfl rfl
    have rw28 := rwd.mv hcx qC_big hf28 rfl
    have oc28 := oc.mv qC_big hf28 rfl
    have rp28 := rep.mvI hf28 ka0 khl klk rfl
    have ob28 := ob.mv hf28 rfl
    exact r_iret hC hQ hlk hr (nz_b (by omega) (by omega)) (by decide) (by decide) dX6_takeNewName_12 ⟨_, _, _, rfl, rfl, ⟨hs28, hF28, hFJ, (by omega), (by omega), (by first | exact Or.inl ⟨by omega, _, _, by unfold sFresh; rw [pif_t hnm, pif_f (fun h9 => by obtain ⟨j, h1, h2⟩ := h9; exact NOx_v15_2 j (Nat.zero_le j) (by omega) h2)], hp, tkm28, rp28, rw28.fresh, NONE⟩ | exact Or.inr ⟨by omega, 1, _, by unfold sFresh; rw [pif_f (by assumption)], by omega, by assumption⟩ | exact Or.inr ⟨by omega, 3, _, by unfold sFresh; rw [pif_t hnm, pif_t ⟨NOx_l1.toInt.toNat, by omega, by omega⟩], by omega, by assumption⟩), (by exact ob28), (by exact oc28), (by exact rfl)⟩⟩
set_option maxHeartbeats 4000000 in
set_option maxRecDepth 100000 in
theorem f_X6_pegNamed (g : GG) (l : Launch) (K len : Nat → Nat) (I : Nat → Nat → Int32) (J : Nat → Nat → Int64) (R : Nat → Nat → Option Nat) (hs : Sf K len I R) (a0 : Nat) (ka0 : K a0 = 7) (y1 : Int64) (x2 : Int32) (pr : Nat) (hpr : R a0 2 = some pr) (kpr : K pr = 48) (lpr : len pr = 5) (D : DD) (hP : ∀ j : Nat, (j : Int) < x2.toInt → (J pr j).toInt = D 23 j) (p0 : x2.toInt ≤ 5) : Ct g l yX6_pegNamed cX6_pegNamed 5 (Option.some Jvm.ClassFile.FieldType.int) rmX6_pegNamed [.ref a0, .long y1, .int x2] (K, len, I, J, R) (pI0 (K, len, I, J, R) (fun r => ((r.toInt = -1 ∧ ∀ j : Nat, (j : Int) < x2.toInt → D 23 j ≠ y1.toInt) ∨ (0 ≤ r.toInt ∧ r.toInt < x2.toInt ∧ D 23 r.toInt.toNat = y1.toInt ∧ ∀ j : Nat, (j : Int) < r.toInt → D 23 j ≠ y1.toInt)))) := by
  refine Ct_intro (by decide +kernel) (Nat.le_of_ble_eq_true rfl) (fun X hC hL hKK hNm hr hlk hQ => ?_)
  subst hL
  have hC : Cx g X cX6_pegNamed "HillTap$Teller" 5 rmX6_pegNamed := hC
  show P g X 5 0 [(0, .ref a0), (1, .long y1), (3, .int x2)] [] 0 0 (K, len, I, J, R)
  have hF : Fr K [] I I := Fr.refl
  have b_x2 := ti_rng x2
  refine r_iconst hC (v := (0)) dX6_pegNamed_0 (by decide) (by decide) (fun x1_ e1 t1 => ?_)
  refine r_istore hC (lv' := [(4, .int x1_), (0, .ref a0), (1, .long y1), (3, .int x2)]) dX6_pegNamed_1 (by decide) rfl ?_
  have LP2 : ∀ (mu : Nat) (x2_4 : Int32) (v2_0 : 0 ≤ x2_4.toInt) (v2_1 : x2_4.toInt ≤ 5) (v2_2 : ∀ j : Nat, 0 ≤ j → (j : Int) < x2_4.toInt → D 23 j ≠ y1.toInt), (5 - x2_4.toInt).toNat = mu → P g X 5 3 [(0, .ref a0), (1, .long y1), (3, .int x2), (4, .int x2_4)] [] 0 0 (K, len, I, J, R) := by
    intro mu; induction mu using Nat.strongRecOn with | ind mu ih => ?_
    intro x2_4 v2_0 v2_1 v2_2 hmu
    have ih2 := ih
    clear ih
    have hmu2 := hmu
    clear hmu
    refine r_iload hC dX6_pegNamed_3 3 rfl ?_
    refine r_iload_n hC dX6_pegNamed_5 2 rfl ?_
    refine r_icmp_ge hC (tgt := 30) dX6_pegNamed_6 (by decide) (fun c3 => ?_) (fun c3 => ?_)
    · refine r_iconst hC (v := (-1)) dX6_pegNamed_30 (by decide) (by decide) (fun x4_ e4 t4 => ?_)
      exact r_iret hC hQ hlk hr rfl (by decide) (by decide) dX6_pegNamed_31 ⟨_, rfl, rfl, (by first | exact Or.inl ⟨by omega, fun j h9 => v2_2 j (Nat.zero_le j) (by omega)⟩ | exact Or.inr ⟨by omega, by omega, by omega, fun j h9 => v2_2 j (Nat.zero_le j) (by omega)⟩)⟩
    · refine r_aload_n hC dX6_pegNamed_9 0 rfl ?_
      refine r_getr hC 2 (ci := 6) rfl u6_in (by decide) mT_1_83 dX6_pegNamed_10 ka0 rfl rfl hpr ?_
      refine r_iload hC dX6_pegNamed_13 3 rfl ?_
      refine x_laload hC kpr lpr (by decide) rfl rfl dX6_pegNamed_15 (by omega) (by omega) (fun y5_ e5 => ?_)
      refine r_lload_n hC dX6_pegNamed_16 1 rfl ?_
      have hy1 : y5_.toInt = D 23 x2_4.toInt.toNat := by have h9 := clampI (i := x2_4) (by omega); rw [e5, hP _ (by omega), show x2_4.toNatClampNeg = x2_4.toInt.toNat by omega]
      refine r_lcmp hC dX6_pegNamed_17 (fun x6_ e6 => ?_)
      have hz1 : x6_.toInt = 0 → y5_.toInt = y1.toInt := fun h9 => lgc_eq (by rw [← e6]; exact h9)
      have hz2 : x6_.toInt ≠ 0 → y5_.toInt ≠ y1.toInt := fun h9 => lgc_ne (by rw [← e6]; exact h9)
      refine r_if_ne hC (tgt := 24) dX6_pegNamed_18 (by decide) (fun c7 => ?_) (fun c7 => ?_)
      · obtain ⟨x8_, e8⟩ : ∃ z : Int32, z = x2_4 + Int32.ofInt (1) := ⟨_, rfl⟩
        refine r_iinc hC (j := 3) (v := x8_) (lv' := [(4, .int x8_), (0, .ref a0), (1, .long y1), (3, .int x2)]) dX6_pegNamed_24 rfl (by rw [e8]) (by decide) rfl ?_
        try have t8 : x8_.toInt = x2_4.toInt + (1) := by rw [e8]; exact (ti_add (b := Int32.ofInt (1)) (by show _ ≤ _ + (1 : Int); omega) (by show _ + (1 : Int) ≤ _; omega))
        refine r_goto hC (tgt := 3) dX6_pegNamed_27 (by decide) ?_
        refine r_sub [1, 2, 3, 0] rfl ?_
        exact ih2 ((5 - x8_.toInt).toNat) (by omega) x8_ (by omega) (by omega) (by first | exact all_0 (P := fun j => D 23 j ≠ y1.toInt) (q := 0) (by omega) | exact all_s (P := fun j => D 23 j ≠ y1.toInt) v2_2 (by omega) (by omega) (by show D 23 _ ≠ _; omega)) rfl
      · refine r_iload hC dX6_pegNamed_21 3 rfl ?_
        exact r_iret hC hQ hlk hr rfl (by decide) (by decide) dX6_pegNamed_23 ⟨_, rfl, rfl, (by first | exact Or.inl ⟨by omega, fun j h9 => v2_2 j (Nat.zero_le j) (by omega)⟩ | exact Or.inr ⟨by omega, by omega, by omega, fun j h9 => v2_2 j (Nat.zero_le j) (by omega)⟩)⟩
  refine r_sub [1, 2, 3, 0] rfl ?_
  exact LP2 _ x1_ (by omega) (by omega) (by first | exact all_0 (P := fun j => D 23 j ≠ y1.toInt) (q := 0) (by omega) | exact all_s (P := fun j => D 23 j ≠ y1.toInt) v2_2 (by omega) (by omega) (by show D 23 _ ≠ _; omega)) rfl

