set_option maxHeartbeats 4000000 in
set_option maxRecDepth 100000 in
theorem f_J7_fill_53178 (g : GG) (l : Launch) (K len : Nat → Nat) (I : Nat → Nat → Int32) (J : Nat → Nat → Int64) (R : Nat → Nat → Option Nat) (hs : Sf K len I R) (a0 : Nat) (ka0 : K a0 = 57) (na0 : len a0 = 60) (x1 : Int32) : Ct g l yJ7_fill_53178 cJ7_fill_53178 4 (Option.none : Option Jvm.ClassFile.FieldType) rmJ7_fill_53178 [.ref a0, .int x1] (K, len, I, J, R) (pV1 (K, len, I, J, R) (fun I' => Sf K len I' R ∧ Fr K [(57, 999)] I I' ∧ (∀ j : Nat, j < 60 → (I' a0 j).toInt = x1.toInt) ∧ (∀ b k, b ≠ a0 → I' b k = I b k))) := by
  refine Ct_intro (by decide +kernel) (Nat.le_of_ble_eq_true rfl) (fun X hC hL hKK hNm hr hlk hQ => ?_)
  subst hL
  have hC : Cx g X cJ7_fill_53178 "java/util/Arrays" 4 rmJ7_fill_53178 := hC
  show P g X 4 0 [(0, .ref a0), (1, .int x1)] [] 0 0 (K, len, I, J, R)
  have hF : Fr K [(57, 999)] I I := Fr.refl
  have b_x1 := ti_rng x1
  refine r_iconst hC (v := (0)) dJ7_fill_53178_0 (by decide) (by decide) (fun x1_ e1 t1 => ?_)
  refine r_istore_n hC (lv' := [(2, .int x1_), (0, .ref a0), (1, .int x1)]) dJ7_fill_53178_1 (by decide) rfl ?_
  refine r_aload_n hC dJ7_fill_53178_2 1 rfl ?_
  refine r_alen hC (by rw [ka0]; decide) (by rw [ka0]; rfl) (by rw [ka0]; decide) na0 dJ7_fill_53178_3 (fun x2_ e2 => ?_)
  have t2 : x2_.toInt = 60 := by rw [e2]; rfl
  refine r_istore_n hC (lv' := [(3, .int x2_), (2, .int x1_), (0, .ref a0), (1, .int x1)]) dJ7_fill_53178_4 (by decide) rfl ?_
  have LP3 : ∀ (mu : Nat) (x3_2 : Int32) (I3 : Nat → Nat → Int32) (hs3 : Sf K len I3 R) (hF3 : Fr K [(57, 999)] I I3) (v3_0 : 0 ≤ x3_2.toInt) (v3_1 : x3_2.toInt ≤ 60) (v3_2 : x2_.toInt = 60) (v3_3 : ∀ j : Nat, 0 ≤ j → (j : Int) < x3_2.toInt → (I3 a0 j).toInt = x1.toInt) (v3_4 : ∀ b k, b ≠ a0 → I3 b k = I b k), (60 - x3_2.toInt).toNat = mu → P g X 4 5 [(0, .ref a0), (1, .int x1), (2, .int x3_2), (3, .int x2_)] [] 0 0 (K, len, I3, J, R) := by
    intro mu; induction mu using Nat.strongRecOn with | ind mu ih => ?_
    intro x3_2 I3 hs3 hF3 v3_0 v3_1 v3_2 v3_3 v3_4 hmu
    have ih3 := ih
    clear ih
    have hmu3 := hmu
    clear hmu
    refine r_iload_n hC dJ7_fill_53178_5 2 rfl ?_
    refine r_iload_n hC dJ7_fill_53178_6 3 rfl ?_
    refine r_icmp_ge hC (tgt := 20) dJ7_fill_53178_7 (by decide) (fun c4 => ?_) (fun c4 => ?_)
    · exact r_vret hC hQ hlk hr (by decide) (by decide) dJ7_fill_53178_20 ⟨_, rfl, rfl, ⟨hs3, hF3, (by exact fun j hj => v3_3 j (Nat.zero_le j) (by omega)), (by exact v3_4)⟩⟩
    · refine r_aload_n hC dJ7_fill_53178_10 0 rfl ?_
      refine r_iload_n hC dJ7_fill_53178_11 2 rfl ?_
      refine r_iload_n hC dJ7_fill_53178_12 1 rfl ?_
      refine x_iastore hC ka0 na0 (by decide) rfl rfl dJ7_fill_53178_13 (by omega) (by omega) (fun I5 eI5 => ?_)
      have hs5 := hs3.put0 eI5 ka0 (rng_arr (by decide) _) rfl (xF_arr (by decide) _) (by decide)
      have hF5 := hF3.put eI5 ka0 (inS_arr rfl _)
      obtain ⟨x6_, e6⟩ : ∃ z : Int32, z = x3_2 + Int32.ofInt (1) := ⟨_, rfl⟩
      refine r_iinc hC (j := 2) (v := x6_) (lv' := [(2, .int x6_), (0, .ref a0), (1, .int x1), (3, .int x2_)]) dJ7_fill_53178_14 rfl (by rw [e6]) (by decide) rfl ?_
      try have t6 : x6_.toInt = x3_2.toInt + (1) := by rw [e6]; exact (ti_add (b := Int32.ofInt (1)) (by show _ ≤ _ + (1 : Int); omega) (by show _ + (1 : Int) ≤ _; omega))
      refine r_goto hC (tgt := 5) dJ7_fill_53178_17 (by decide) ?_
      refine r_sub [1, 2, 0, 3] rfl ?_
      exact ih3 ((60 - x6_.toInt).toNat) (by omega) x6_ I5 hs5 hF5 (by omega) (by omega) (by omega) (by first | exact all_0 (P := fun j => (I a0 j).toInt = x1.toInt) (q := 0) (by omega) | exact fill_s (k := x3_2.toNatClampNeg) v3_3 eI5 (by have h9 := clampI (i := x3_2) (by omega); omega) rfl (by omega)) (by first | exact fun b k hb => rfl | exact fill_o v3_4 eI5) rfl
  refine r_sub [2, 3, 1, 0] rfl ?_
  exact LP3 _ x1_ I hs hF (by omega) (by omega) (by omega) (by first | exact all_0 (P := fun j => (I a0 j).toInt = x1.toInt) (q := 0) (by omega) | exact fill_s (k := x3_2.toNatClampNeg) v3_3 eI (by have h9 := clampI (i := x3_2) (by omega); omega) rfl (by omega)) (by first | exact fun b k hb => rfl | exact fill_o v3_4 eI) rfl
set_option maxHeartbeats 4000000 in
set_option maxRecDepth 100000 in
theorem f_X2_empty (g : GG) (l : Launch) (K len : Nat → Nat) (I : Nat → Nat → Int32) (J : Nat → Nat → Int64) (R : Nat → Nat → Option Nat) (hs : Sf K len I R) (a0 : Nat) (ka0 : K a0 = 3) (hz : Nat) : Ct g l yX2_empty cX2_empty 1 (Option.none : Option Jvm.ClassFile.FieldType) rmX2_empty [.ref a0] (K, len, I, J, R) (pV1 (K, len, I, J, R) (fun I' => Sf K len I' R ∧ Fr K [(3, 0), (3, 1), (3, 2), (3, 3), (3, 4), (3, 5)] I I' ∧ ((I' a0 0).toInt = 0) ∧ ((I' a0 1).toInt = 0) ∧ ((I' a0 2).toInt = 0) ∧ ((I' a0 3).toInt = 0) ∧ ((I' a0 4).toInt = 0) ∧ ((I' a0 5).toInt = 0) ∧ (OB K hz a0 I I'))) := by
  refine Ct_intro (by decide +kernel) (Nat.le_of_ble_eq_true rfl) (fun X hC hL hKK hNm hr hlk hQ => ?_)
  subst hL
  have hC : Cx g X cX2_empty "HillTap$Lake" 1 rmX2_empty := hC
  show P g X 1 0 [(0, .ref a0)] [] 0 0 (K, len, I, J, R)
  have hF : Fr K [(3, 0), (3, 1), (3, 2), (3, 3), (3, 4), (3, 5)] I I := Fr.refl
  have ob : OB K hz a0 I I := OB.rf
  refine r_aload_n hC dX2_empty_0 0 rfl ?_
  refine r_iconst hC (v := (0)) dX2_empty_1 (by decide) (by decide) (fun x1_ e1 t1 => ?_)
  refine r_puti hC 0 (ci := 2) rfl u2_in tyX2_ok nmX2 (by decide) mT_1_117 rfl (by rw [e1]; rfl) (by rw [e1]; rfl) dX2_empty_2 ka0 rfl rfl (fun I2 eI2 => ?_)
  have hs2 := hs.put0 eI2 ka0 rfl rfl rfl (by decide)
  have hF2 := hF.put eI2 ka0 rfl
  have ob2 := ob.put eI2 ka0 (by first | exact Or.inr rfl | exact Or.inl (by decide)) (by first | exact Or.inr rfl | exact Or.inl (by decide))
  refine r_aload_n hC dX2_empty_5 0 rfl ?_
  refine r_iconst hC (v := (0)) dX2_empty_6 (by decide) (by decide) (fun x3_ e3 t3 => ?_)
  refine r_puti hC 1 (ci := 2) rfl u2_in tyX2_ok nmX2 (by decide) mT_1_119 rfl rfl rfl dX2_empty_7 ka0 rfl rfl (fun I4 eI4 => ?_)
  have hs4 := hs2.put0 eI4 ka0 rfl rfl rfl (by decide)
  have hF4 := hF2.put eI4 ka0 rfl
  have ob4 := ob2.put eI4 ka0 (by first | exact Or.inr rfl | exact Or.inl (by decide)) (by first | exact Or.inr rfl | exact Or.inl (by decide))
  refine r_aload_n hC dX2_empty_10 0 rfl ?_
  refine r_iconst hC (v := (0)) dX2_empty_11 (by decide) (by decide) (fun x5_ e5 t5 => ?_)
  refine r_puti hC 2 (ci := 2) rfl u2_in tyX2_ok nmX2 (by decide) mT_1_123 rfl rfl rfl dX2_empty_12 ka0 rfl rfl (fun I6 eI6 => ?_)
  have hs6 := hs4.put0 eI6 ka0 rfl rfl rfl (by decide)
  have hF6 := hF4.put eI6 ka0 rfl
  have ob6 := ob4.put eI6 ka0 (by first | exact Or.inr rfl | exact Or.inl (by decide)) (by first | exact Or.inr rfl | exact Or.inl (by decide))
  refine r_aload_n hC dX2_empty_15 0 rfl ?_
  refine r_iconst hC (v := (0)) dX2_empty_16 (by decide) (by decide) (fun x7_ e7 t7 => ?_)
  refine r_puti hC 3 (ci := 2) rfl u2_in tyX2_ok nmX2 (by decide) mT_1_125 rfl rfl rfl dX2_empty_17 ka0 rfl rfl (fun I8 eI8 => ?_)
  have hs8 := hs6.put0 eI8 ka0 rfl rfl rfl (by decide)
  have hF8 := hF6.put eI8 ka0 rfl
  have ob8 := ob6.put eI8 ka0 (by first | exact Or.inr rfl | exact Or.inl (by decide)) (by first | exact Or.inr rfl | exact Or.inl (by decide))
  refine r_aload_n hC dX2_empty_20 0 rfl ?_
  refine r_iconst hC (v := (0)) dX2_empty_21 (by decide) (by decide) (fun x9_ e9 t9 => ?_)
  refine r_puti hC 4 (ci := 2) rfl u2_in tyX2_ok nmX2 (by decide) mT_1_128 rfl rfl rfl dX2_empty_22 ka0 rfl rfl (fun I10 eI10 => ?_)
  have hF10 := hF8.put eI10 ka0 rfl
  have ob10 := ob8.put eI10 ka0 (by first | exact Or.inr rfl | exact Or.inl (by decide)) (by first | exact Or.inr rfl | exact Or.inl (by decide))
  refine r_aload_n hC dX2_empty_25 0 rfl ?_
  refine r_iconst hC (v := (0)) dX2_empty_26 (by decide) (by decide) (fun x11_ e11 t11 => ?_)
  refine r_puti hC 5 (ci := 2) rfl u2_in tyX2_ok nmX2 (by decide) mT_1_131 rfl rfl rfl dX2_empty_27 ka0 rfl rfl (fun I12 eI12 => ?_)
  have hs12 : Sf K len I12 R := hs8.put345 eI10 eI12 ka0 (by omega) (by omega) (by omega) (by omega) (by omega)
  have hF12 := hF10.put eI12 ka0 rfl
  have ob12 := ob10.put eI12 ka0 (by first | exact Or.inr rfl | exact Or.inl (by decide)) (by first | exact Or.inr rfl | exact Or.inl (by decide))
  have hv0 : I12 a0 0 = x1_ := (Eq.trans (up2_at (Or.inr (by decide)) eI12) (Eq.trans (up2_at (Or.inr (by decide)) eI10) (Eq.trans (up2_at (Or.inr (by decide)) eI8) (Eq.trans (up2_at (Or.inr (by decide)) eI6) (Eq.trans (up2_at (Or.inr (by decide)) eI4) (by rw [eI2]; exact up2_self _ _ _ _))))))
  have hv0t : (I12 a0 0).toInt = x1_.toInt := congrArg Int32.toInt hv0
  have hv1 : I12 a0 1 = x3_ := (Eq.trans (up2_at (Or.inr (by decide)) eI12) (Eq.trans (up2_at (Or.inr (by decide)) eI10) (Eq.trans (up2_at (Or.inr (by decide)) eI8) (Eq.trans (up2_at (Or.inr (by decide)) eI6) (by rw [eI4]; exact up2_self _ _ _ _)))))
  have hv1t : (I12 a0 1).toInt = x3_.toInt := congrArg Int32.toInt hv1
  have hv2 : I12 a0 2 = x5_ := (Eq.trans (up2_at (Or.inr (by decide)) eI12) (Eq.trans (up2_at (Or.inr (by decide)) eI10) (Eq.trans (up2_at (Or.inr (by decide)) eI8) (by rw [eI6]; exact up2_self _ _ _ _))))
  have hv2t : (I12 a0 2).toInt = x5_.toInt := congrArg Int32.toInt hv2
  have hv3 : I12 a0 3 = x7_ := (Eq.trans (up2_at (Or.inr (by decide)) eI12) (Eq.trans (up2_at (Or.inr (by decide)) eI10) (by rw [eI8]; exact up2_self _ _ _ _)))
  have hv3t : (I12 a0 3).toInt = x7_.toInt := congrArg Int32.toInt hv3
  have hv4 : I12 a0 4 = x9_ := (Eq.trans (up2_at (Or.inr (by decide)) eI12) (by rw [eI10]; exact up2_self _ _ _ _))
  have hv4t : (I12 a0 4).toInt = x9_.toInt := congrArg Int32.toInt hv4
  have hv5 : I12 a0 5 = x11_ := (by rw [eI12]; exact up2_self _ _ _ _)
  have hv5t : (I12 a0 5).toInt = x11_.toInt := congrArg Int32.toInt hv5
  exact r_vret hC hQ hlk hr (by decide) (by decide) dX2_empty_30 ⟨_, rfl, rfl, ⟨hs12, hF12, (by omega), (by omega), (by omega), (by omega), (by omega), (by omega), (by exact ob12)⟩⟩
set_option maxHeartbeats 4000000 in
set_option maxRecDepth 100000 in
theorem f_X1_empty (g : GG) (l : Launch) (K len : Nat → Nat) (I : Nat → Nat → Int32) (J : Nat → Nat → Int64) (R : Nat → Nat → Option Nat) (hs : Sf K len I R) (a0 : Nat) (ka0 : K a0 = 2) (lk : Nat) (hlkr : R a0 0 = some lk) (klk : K lk = 3) : Ct g l yX1_empty cX1_empty 1 (Option.none : Option Jvm.ClassFile.FieldType) rmX1_empty [.ref a0] (K, len, I, J, R) (pV1 (K, len, I, J, R) (fun I' => Sf K len I' R ∧ Fr K [(2, 1), (2, 4), (2, 6), (2, 8), (2, 12), (3, 0), (3, 1), (3, 2), (3, 3), (3, 4), (3, 5), (57, 999)] I I' ∧ ((I' lk 0).toInt = 0) ∧ ((I' lk 1).toInt = 0) ∧ ((I' lk 2).toInt = 0) ∧ ((I' lk 3).toInt = 0) ∧ ((I' lk 4).toInt = 0) ∧ ((I' lk 5).toInt = 0) ∧ ((I' a0 1).toInt = 0) ∧ ((I' a0 4).toInt = 0) ∧ ((I' a0 6).toInt = 0) ∧ ((I' a0 8).toInt = 0) ∧ ((I' a0 12).toInt = 0) ∧ (OB K a0 lk I I') ∧ (OC (CC a0 lk R) qC K I I') ∧ (∀ b, R a0 5 = some b → ∀ j : Nat, j < 60 → (I' b j).toInt = 0))) := by
  refine Ct_intro (by decide +kernel) (Nat.le_of_ble_eq_true rfl) (fun X hC hL hKK hNm hr hlk hQ => ?_)
  subst hL
  have hC : Cx g X cX1_empty "HillTap$Hill" 1 rmX1_empty := hC
  show P g X 1 0 [(0, .ref a0)] [] 0 0 (K, len, I, J, R)
  have hF : Fr K [(2, 1), (2, 4), (2, 6), (2, 8), (2, 12), (3, 0), (3, 1), (3, 2), (3, 3), (3, 4), (3, 5), (57, 999)] I I := Fr.refl
  have ob : OB K a0 lk I I := OB.rf
  have oc : OC (CC a0 lk R) qC K I I := OC.rf
  refine r_aload_n hC dX1_empty_0 0 rfl ?_
  refine r_getr hC 0 (ci := 1) rfl u1_in (by decide) mT_1_180 dX1_empty_1 ka0 rfl rfl hlkr ?_
  refine r_callV hC (As := []) (rest := []) (ci := 2) (f_X2_empty g (xL X) K len I J R hs lk klk a0) mT_2_145 mT_1_6 mT_2_142 mT_2_143 mT_2_144 okX2_empty ⟨by decide, by decide⟩ rfl (by show kO (K lk) = _; rw [klk]; rfl) rfl rfl (Nat.le_of_ble_eq_true rfl) ⟨by decide, by decide⟩ dX1_empty_4 (aV1 (F := fun st M => P g X 1 7 [(0, .ref a0)] st _ _ M) (M := (K, len, I, J, R)) fun I1 h1 => ?_)
  obtain ⟨hs1, hf1, k1_0, k1_1, k1_2, k1_3, k1_4, k1_5, k1_6⟩ := h1
  show P g X 1 7 [(0, .ref a0)] [] _ _ (K, len, I1, J, R)
  have hF1 : Fr K [(2, 1), (2, 4), (2, 6), (2, 8), (2, 12), (3, 0), (3, 1), (3, 2), (3, 3), (3, 4), (3, 5), (57, 999)] I I1 := hF.trans hf1 rfl rfl
  have ob1 := ob.tr k1_6
  have oc1 := oc.mv qC_big hf1 rfl
  obtain ⟨E0, eE0⟩ : ∃ z : Int32, z = I1 lk 0 := ⟨_, rfl⟩
  have fE0 : E0.toInt = (I1 lk 0).toInt := by rw [eE0]
  obtain ⟨E1, eE1⟩ : ∃ z : Int32, z = I1 lk 1 := ⟨_, rfl⟩
  have fE1 : E1.toInt = (I1 lk 1).toInt := by rw [eE1]
  obtain ⟨E2, eE2⟩ : ∃ z : Int32, z = I1 lk 2 := ⟨_, rfl⟩
  have fE2 : E2.toInt = (I1 lk 2).toInt := by rw [eE2]
  obtain ⟨E3, eE3⟩ : ∃ z : Int32, z = I1 lk 3 := ⟨_, rfl⟩
  have fE3 : E3.toInt = (I1 lk 3).toInt := by rw [eE3]
  obtain ⟨E4, eE4⟩ : ∃ z : Int32, z = I1 lk 4 := ⟨_, rfl⟩
  have fE4 : E4.toInt = (I1 lk 4).toInt := by rw [eE4]
  have rE4 := hs1.rng klk rfl eE4
  obtain ⟨E5, eE5⟩ : ∃ z : Int32, z = I1 lk 5 := ⟨_, rfl⟩
  have fE5 : E5.toInt = (I1 lk 5).toInt := by rw [eE5]
  have rE5 := hs1.rng klk rfl eE5
  refine r_aload_n hC dX1_empty_7 0 rfl ?_
  refine r_iconst hC (v := (0)) dX1_empty_8 (by decide) (by decide) (fun x2_ e2 t2 => ?_)
  refine r_puti hC 1 (ci := 1) rfl u1_in tyX1_ok nmX1 (by decide) mT_1_184 rfl rfl rfl dX1_empty_9 ka0 rfl rfl (fun I3 eI3 => ?_)
  have hs3 := hs1.put1 eI3 ka0 rfl (by omega) (by omega) rfl rfl (by decide)
  have hF3 := hF1.put eI3 ka0 rfl
  have ob3 := ob1.put eI3 ka0 (by first | exact Or.inr rfl | exact Or.inl (by decide)) (by first | exact Or.inr rfl | exact Or.inl (by decide))
  have oc3 := oc1.putO eI3 ka0 rfl
  refine r_aload_n hC dX1_empty_12 0 rfl ?_
  refine r_iconst hC (v := (0)) dX1_empty_13 (by decide) (by decide) (fun x4_ e4 t4 => ?_)
  refine r_puti hC 4 (ci := 1) rfl u1_in tyX1_ok nmX1 (by decide) mT_1_194 rfl rfl rfl dX1_empty_14 ka0 rfl rfl (fun I5 eI5 => ?_)
  have hs5 := hs3.put1 eI5 ka0 rfl (by omega) (by omega) rfl rfl (by decide)
  have hF5 := hF3.put eI5 ka0 rfl
  have ob5 := ob3.put eI5 ka0 (by first | exact Or.inr rfl | exact Or.inl (by decide)) (by first | exact Or.inr rfl | exact Or.inl (by decide))
  have oc5 := oc3.putO eI5 ka0 rfl
  refine r_aload_n hC dX1_empty_17 0 rfl ?_
  obtain ⟨a6_, hb6, hk6, hn6⟩ := hs5.row ka0 5 57 60 (by decide) (by decide)
  refine r_getr hC 5 (ci := 1) rfl u1_in (by decide) mT_1_197 dX1_empty_18 ka0 rfl rfl hb6 ?_
  refine r_iconst hC (v := (0)) dX1_empty_21 (by decide) (by decide) (fun x7_ e7 t7 => ?_)
  refine r_callS hC (As := [.ref a6_, .int x7_]) (rest := []) (f_J7_fill_53178 g (xL X) K len I5 J R hs5 a6_ hk6 hn6 x7_) mT_2_148 mT_1_11 mT_2_146 mT_2_147 okJ7_fill_53178 ⟨by decide, by decide⟩ rfl rfl (Nat.le_of_ble_eq_true rfl) ⟨by decide, by decide⟩ dX1_empty_22 (aV1 (F := fun st M => P g X 1 25 [(0, .ref a0)] st _ _ M) (M := (K, len, I5, J, R)) fun I8 h8 => ?_)
  obtain ⟨hs8, hf8, k8_0, k8_1⟩ := h8
  show P g X 1 25 [(0, .ref a0)] [] _ _ (K, len, I8, J, R)
  have hF8 : Fr K [(2, 1), (2, 4), (2, 6), (2, 8), (2, 12), (3, 0), (3, 1), (3, 2), (3, 3), (3, 4), (3, 5), (57, 999)] I I8 := hF5.trans hf8 rfl rfl
  have ob8 := ob5.mv hf8 rfl
  have oc8 := oc5.row (fun k => ⟨5, k, cCt (r := 5) rfl hb6⟩) k8_1
  have rz8 : ∀ j : Nat, j < 60 → (I8 a6_ j).toInt = 0 := fun j hj => (k8_0 j hj).trans (by omega)
  refine r_aload_n hC dX1_empty_25 0 rfl ?_
  refine r_iconst hC (v := (0)) dX1_empty_26 (by decide) (by decide) (fun x9_ e9 t9 => ?_)
  refine r_puti hC 6 (ci := 1) rfl u1_in tyX1_ok nmX1 (by decide) mT_1_200 rfl rfl rfl dX1_empty_27 ka0 rfl rfl (fun I10 eI10 => ?_)
  have hs10 := hs8.put1 eI10 ka0 rfl (by omega) (by omega) rfl rfl (by decide)
  have hF10 := hF8.put eI10 ka0 rfl
  have ob10 := ob8.put eI10 ka0 (by first | exact Or.inr rfl | exact Or.inl (by decide)) (by first | exact Or.inr rfl | exact Or.inl (by decide))
  have oc10 := oc8.putO eI10 ka0 rfl
  have rz10 : ∀ j : Nat, j < 60 → (I10 a6_ j).toInt = 0 := fun j hj => by rw [up2_kk eI10 ka0 hk6 (by decide)]; exact rz8 j hj
  refine r_aload_n hC dX1_empty_30 0 rfl ?_
  refine r_iconst hC (v := (0)) dX1_empty_31 (by decide) (by decide) (fun x11_ e11 t11 => ?_)
  refine r_puti hC 8 (ci := 1) rfl u1_in tyX1_ok nmX1 (by decide) mT_1_206 rfl rfl rfl dX1_empty_32 ka0 rfl rfl (fun I12 eI12 => ?_)
  have hs12 := hs10.put1 eI12 ka0 rfl (by omega) (by omega) rfl rfl (by decide)
  have hF12 := hF10.put eI12 ka0 rfl
  have ob12 := ob10.put eI12 ka0 (by first | exact Or.inr rfl | exact Or.inl (by decide)) (by first | exact Or.inr rfl | exact Or.inl (by decide))
  have oc12 := oc10.putO eI12 ka0 rfl
  have rz12 : ∀ j : Nat, j < 60 → (I12 a6_ j).toInt = 0 := fun j hj => by rw [up2_kk eI12 ka0 hk6 (by decide)]; exact rz10 j hj
  refine r_aload_n hC dX1_empty_35 0 rfl ?_
  refine r_iconst hC (v := (0)) dX1_empty_36 (by decide) (by decide) (fun x13_ e13 t13 => ?_)
  refine r_puti hC 12 (ci := 1) rfl u1_in tyX1_ok nmX1 (by decide) mT_1_218 rfl rfl rfl dX1_empty_37 ka0 rfl rfl (fun I14 eI14 => ?_)
  have hs14 := hs12.put1 eI14 ka0 rfl (by omega) (by omega) rfl rfl (by decide)
  have hF14 := hF12.put eI14 ka0 rfl
  have ob14 := ob12.put eI14 ka0 (by first | exact Or.inr rfl | exact Or.inl (by decide)) (by first | exact Or.inr rfl | exact Or.inl (by decide))
  have oc14 := oc12.putO eI14 ka0 rfl
  have rz14 : ∀ j : Nat, j < 60 → (I14 a6_ j).toInt = 0 := fun j hj => by rw [up2_kk eI14 ka0 hk6 (by decide)]; exact rz12 j hj
  have hv0 : I14 lk 0 = E0 := (Eq.trans (up2_kk eI14 ka0 klk (by decide)) (Eq.trans (up2_kk eI12 ka0 klk (by decide)) (Eq.trans (up2_kk eI10 ka0 klk (by decide)) (Eq.trans (hf8.get klk rfl) (Eq.trans (up2_kk eI5 ka0 klk (by decide)) (Eq.trans (up2_kk eI3 ka0 klk (by decide)) eE0.symm))))))
  have hv0t : (I14 lk 0).toInt = E0.toInt := congrArg Int32.toInt hv0
  have hv1 : I14 lk 1 = E1 := (Eq.trans (up2_kk eI14 ka0 klk (by decide)) (Eq.trans (up2_kk eI12 ka0 klk (by decide)) (Eq.trans (up2_kk eI10 ka0 klk (by decide)) (Eq.trans (hf8.get klk rfl) (Eq.trans (up2_kk eI5 ka0 klk (by decide)) (Eq.trans (up2_kk eI3 ka0 klk (by decide)) eE1.symm))))))
  have hv1t : (I14 lk 1).toInt = E1.toInt := congrArg Int32.toInt hv1
  have hv2 : I14 lk 2 = E2 := (Eq.trans (up2_kk eI14 ka0 klk (by decide)) (Eq.trans (up2_kk eI12 ka0 klk (by decide)) (Eq.trans (up2_kk eI10 ka0 klk (by decide)) (Eq.trans (hf8.get klk rfl) (Eq.trans (up2_kk eI5 ka0 klk (by decide)) (Eq.trans (up2_kk eI3 ka0 klk (by decide)) eE2.symm))))))
  have hv2t : (I14 lk 2).toInt = E2.toInt := congrArg Int32.toInt hv2
  have hv3 : I14 lk 3 = E3 := (Eq.trans (up2_kk eI14 ka0 klk (by decide)) (Eq.trans (up2_kk eI12 ka0 klk (by decide)) (Eq.trans (up2_kk eI10 ka0 klk (by decide)) (Eq.trans (hf8.get klk rfl) (Eq.trans (up2_kk eI5 ka0 klk (by decide)) (Eq.trans (up2_kk eI3 ka0 klk (by decide)) eE3.symm))))))
  have hv3t : (I14 lk 3).toInt = E3.toInt := congrArg Int32.toInt hv3
  have hv4 : I14 lk 4 = E4 := (Eq.trans (up2_kk eI14 ka0 klk (by decide)) (Eq.trans (up2_kk eI12 ka0 klk (by decide)) (Eq.trans (up2_kk eI10 ka0 klk (by decide)) (Eq.trans (hf8.get klk rfl) (Eq.trans (up2_kk eI5 ka0 klk (by decide)) (Eq.trans (up2_kk eI3 ka0 klk (by decide)) eE4.symm))))))
  have hv4t : (I14 lk 4).toInt = E4.toInt := congrArg Int32.toInt hv4
  have hv5 : I14 lk 5 = E5 := (Eq.trans (up2_kk eI14 ka0 klk (by decide)) (Eq.trans (up2_kk eI12 ka0 klk (by decide)) (Eq.trans (up2_kk eI10 ka0 klk (by decide)) (Eq.trans (hf8.get klk rfl) (Eq.trans (up2_kk eI5 ka0 klk (by decide)) (Eq.trans (up2_kk eI3 ka0 klk (by decide)) eE5.symm))))))
  have hv5t : (I14 lk 5).toInt = E5.toInt := congrArg Int32.toInt hv5
  have hw1 : I14 a0 1 = x2_ := (Eq.trans (up2_at (Or.inr (by decide)) eI14) (Eq.trans (up2_at (Or.inr (by decide)) eI12) (Eq.trans (up2_at (Or.inr (by decide)) eI10) (Eq.trans (hf8.get ka0 rfl) (Eq.trans (up2_at (Or.inr (by decide)) eI5) (by rw [eI3]; exact up2_self _ _ _ _))))))
  have hw1t : (I14 a0 1).toInt = x2_.toInt := congrArg Int32.toInt hw1
  have hw4 : I14 a0 4 = x4_ := (Eq.trans (up2_at (Or.inr (by decide)) eI14) (Eq.trans (up2_at (Or.inr (by decide)) eI12) (Eq.trans (up2_at (Or.inr (by decide)) eI10) (Eq.trans (hf8.get ka0 rfl) (by rw [eI5]; exact up2_self _ _ _ _)))))
  have hw4t : (I14 a0 4).toInt = x4_.toInt := congrArg Int32.toInt hw4
  have hw6 : I14 a0 6 = x9_ := (Eq.trans (up2_at (Or.inr (by decide)) eI14) (Eq.trans (up2_at (Or.inr (by decide)) eI12) (by rw [eI10]; exact up2_self _ _ _ _)))
  have hw6t : (I14 a0 6).toInt = x9_.toInt := congrArg Int32.toInt hw6
  have hw8 : I14 a0 8 = x11_ := (Eq.trans (up2_at (Or.inr (by decide)) eI14) (by rw [eI12]; exact up2_self _ _ _ _))
  have hw8t : (I14 a0 8).toInt = x11_.toInt := congrArg Int32.toInt hw8
  have hw12 : I14 a0 12 = x13_ := (by rw [eI14]; exact up2_self _ _ _ _)
  have hw12t : (I14 a0 12).toInt = x13_.toInt := congrArg Int32.toInt hw12
  exact r_vret hC hQ hlk hr (by decide) (by decide) dX1_empty_40 ⟨_, rfl, rfl, ⟨hs14, hF14, (by omega), (by omega), (by omega), (by omega), (by omega), (by omega), (by omega), (by omega), (by omega), (by omega), (by omega), (by exact ob14), (by exact oc14), (by exact fun b hb => by rw [hb6] at hb; cases hb; exact rz14)⟩⟩
set_option maxHeartbeats 4000000 in
set_option maxRecDepth 100000 in
theorem f_X6_tellHill (g : GG) (l : Launch) (K len : Nat → Nat) (I : Nat → Nat → Int32) (J : Nat → Nat → Int64) (R : Nat → Nat → Option Nat) (hs : Sf K len I R) (a0 : Nat) (ka0 : K a0 = 7) (x1 : Int32) (a2 : Nat) (ka2 : K a2 = 2) (tk : Nat) (htk : R a0 0 = some tk) (ktk : K tk = 8) (tp : Nat) (bt : Nat) (hbt : R tk 0 = some tp) (hkt : K tp = 6) (hbb : R tp 0 = some bt) (hkb : K bt = 40) (nbt : len bt = 900) (B : Nat → Int) (n : Nat) (hB : BT B n bt I) (hn : n ≤ 900) (nr : Nat) (hnr : R a0 1 = some nr) (knr : K nr = 42) (lnr : len nr = 19) (pr : Nat) (hpr : R a0 2 = some pr) (kpr : K pr = 48) (lpr : len pr = 5) (lk : Nat) (hlkr : R a2 0 = some lk) (klk : K lk = 3) (hu : UU K R) (p0 : 0 ≤ x1.toInt) (p1 : x1.toInt = n) (p2 : n ≤ (I tp 1).toInt) : Ct g l yX6_tellHill cX6_tellHill 5 (Option.some Jvm.ClassFile.FieldType.boolean) rmX6_tellHill [.ref a0, .int x1, .ref a2] (K, len, I, J, R) (pI2 (K, len, I, J, R) (fun r I' J' => Sf K len I' R ∧ Fr K [(2, 1), (2, 4), (2, 6), (2, 8), (2, 12), (3, 0), (3, 1), (3, 2), (3, 3), (3, 4), (3, 5), (5, 0), (5, 1), (5, 2), (5, 3), (7, 3), (7, 4), (7, 5), (7, 6), (8, 1), (8, 2), (8, 3), (8, 4), (55, 999), (56, 999), (57, 999), (58, 999), (59, 999), (60, 999), (61, 999), (62, 999), (63, 999), (64, 999)] I I' ∧ Fr K [(8, 5), (42, 999), (48, 999)] J J' ∧ (r.toInt = 1 ∧ (∃ (D' : DD), sHill B n 902 0 D0 = .ok D' ∧ RpC D' a0 nr pr a2 lk I' J' ∧ RW (CC a2 lk R) (cntN D') D' I' ∧ DJ D' ∧ DI D' ∧ (I' lk 5).toInt = 0 ∧ (I' a0 5).toInt = 0) ∨ r.toInt = 0 ∧ (∃ (kf : Int) (qf : Nat), sHill B n 902 0 D0 = .error (kf, qf) ∧ (I' a0 5).toInt = kf ∧ (I' a0 6).toInt = qf)) ∧ (OB K a2 lk I I') ∧ (OC (CC a2 lk R) qC K I I'))) := by
  refine Ct_intro (by decide +kernel) (Nat.le_of_ble_eq_true rfl) (fun X hC hL hKK hNm hr hlk hQ => ?_)
  subst hL
  have hC : Cx g X cX6_tellHill "HillTap$Teller" 5 rmX6_tellHill := hC
  show P g X 5 0 [(0, .ref a0), (1, .int x1), (2, .ref a2)] [] 0 0 (K, len, I, J, R)
  have hF : Fr K [(2, 1), (2, 4), (2, 6), (2, 8), (2, 12), (3, 0), (3, 1), (3, 2), (3, 3), (3, 4), (3, 5), (5, 0), (5, 1), (5, 2), (5, 3), (7, 3), (7, 4), (7, 5), (7, 6), (8, 1), (8, 2), (8, 3), (8, 4), (55, 999), (56, 999), (57, 999), (58, 999), (59, 999), (60, 999), (61, 999), (62, 999), (63, 999), (64, 999)] I I := Fr.refl
  have hFJ : Fr K [(8, 5), (42, 999), (48, 999)] J J := Fr.refl
  have ob : OB K a2 lk I I := OB.rf
  have hcx := CC_x hs ka2 klk hu
  have oc : OC (CC a2 lk R) qC K I I := OC.rf
  have hnp : nr ≠ pr := fun z => by rw [z, lpr] at lnr; exact absurd lnr (by decide)
  have b_x1 := ti_rng x1
  obtain ⟨L0, eL0⟩ : ∃ z : Int32, z = I tp 1 := ⟨_, rfl⟩
  have fL0 : L0.toInt = (I tp 1).toInt := by rw [eL0]
  have rL0 := hs.rng hkt rfl eL0
  refine r_aload_n hC dX6_tellHill_0 2 rfl ?_
  refine r_callV hC (As := []) (rest := []) (ci := 1) (f_X1_empty g (xL X) K len I J R hs a2 ka2 lk hlkr klk) mT_2_141 mT_1_5 mT_2_138 mT_2_139 mT_2_140 okX1_empty ⟨by decide, by decide⟩ rfl (by show kO (K a2) = _; rw [ka2]; rfl) rfl rfl (Nat.le_of_ble_eq_true rfl) ⟨by decide, by decide⟩ dX6_tellHill_1 (aV1 (F := fun st M => P g X 5 4 [(0, .ref a0), (1, .int x1), (2, .ref a2)] st _ _ M) (M := (K, len, I, J, R)) fun I1 h1 => ?_)
  obtain ⟨hs1, hf1, k1_0, k1_1, k1_2, k1_3, k1_4, k1_5, k1_6, k1_7, k1_8, k1_9, k1_10, k1_11, k1_12, k1_13⟩ := h1
  show P g X 5 4 [(0, .ref a0), (1, .int x1), (2, .ref a2)] [] _ _ (K, len, I1, J, R)
  have hF1 : Fr K [(2, 1), (2, 4), (2, 6), (2, 8), (2, 12), (3, 0), (3, 1), (3, 2), (3, 3), (3, 4), (3, 5), (5, 0), (5, 1), (5, 2), (5, 3), (7, 3), (7, 4), (7, 5), (7, 6), (8, 1), (8, 2), (8, 3), (8, 4), (55, 999), (56, 999), (57, 999), (58, 999), (59, 999), (60, 999), (61, 999), (62, 999), (63, 999), (64, 999)] I I1 := hF.trans hf1 rfl rfl
  have rw1 : RW (CC a2 lk R) (cntN D0) D0 I1 := RW_0 k1_13
  have oc1 := oc.tr k1_12
  have ob1 := ob.tr k1_11
  obtain ⟨E0, eE0⟩ : ∃ z : Int32, z = I1 lk 0 := ⟨_, rfl⟩
  have fE0 : E0.toInt = (I1 lk 0).toInt := by rw [eE0]
  obtain ⟨E1, eE1⟩ : ∃ z : Int32, z = I1 lk 1 := ⟨_, rfl⟩
  have fE1 : E1.toInt = (I1 lk 1).toInt := by rw [eE1]
  obtain ⟨E2, eE2⟩ : ∃ z : Int32, z = I1 lk 2 := ⟨_, rfl⟩
  have fE2 : E2.toInt = (I1 lk 2).toInt := by rw [eE2]
  obtain ⟨E3, eE3⟩ : ∃ z : Int32, z = I1 lk 3 := ⟨_, rfl⟩
  have fE3 : E3.toInt = (I1 lk 3).toInt := by rw [eE3]
  obtain ⟨E4, eE4⟩ : ∃ z : Int32, z = I1 lk 4 := ⟨_, rfl⟩
  have fE4 : E4.toInt = (I1 lk 4).toInt := by rw [eE4]
  have rE4 := hs1.rng klk rfl eE4
  obtain ⟨E5, eE5⟩ : ∃ z : Int32, z = I1 lk 5 := ⟨_, rfl⟩
  have fE5 : E5.toInt = (I1 lk 5).toInt := by rw [eE5]
  have rE5 := hs1.rng klk rfl eE5
  obtain ⟨H1, eH1⟩ : ∃ z : Int32, z = I1 a2 1 := ⟨_, rfl⟩
  have fH1 : H1.toInt = (I1 a2 1).toInt := by rw [eH1]
  have rH1 := hs1.rng ka2 rfl eH1
  obtain ⟨H4, eH4⟩ : ∃ z : Int32, z = I1 a2 4 := ⟨_, rfl⟩
  have fH4 : H4.toInt = (I1 a2 4).toInt := by rw [eH4]
  have rH4 := hs1.rng ka2 rfl eH4
  obtain ⟨H6, eH6⟩ : ∃ z : Int32, z = I1 a2 6 := ⟨_, rfl⟩
  have fH6 : H6.toInt = (I1 a2 6).toInt := by rw [eH6]
  have rH6 := hs1.rng ka2 rfl eH6
  obtain ⟨H8, eH8⟩ : ∃ z : Int32, z = I1 a2 8 := ⟨_, rfl⟩
  have fH8 : H8.toInt = (I1 a2 8).toInt := by rw [eH8]
  have rH8 := hs1.rng ka2 rfl eH8
  obtain ⟨H12, eH12⟩ : ∃ z : Int32, z = I1 a2 12 := ⟨_, rfl⟩
  have fH12 : H12.toInt = (I1 a2 12).toInt := by rw [eH12]
  have rH12 := hs1.rng ka2 rfl eH12
  refine r_aload_n hC dX6_tellHill_4 0 rfl ?_
  refine r_iconst hC (v := (0)) dX6_tellHill_5 (by decide) (by decide) (fun x2_ e2 t2 => ?_)
  refine r_puti hC 3 (ci := 6) rfl u6_in tyX6_ok nmX6 (by decide) mT_1_84 rfl rfl rfl dX6_tellHill_6 ka0 rfl rfl (fun I3 eI3 => ?_)
  have hs3 := hs1.put1 eI3 ka0 rfl (by omega) (by omega) rfl rfl (by decide)
  have hF3 := hF1.put eI3 ka0 rfl
  have ob3 := ob1.put eI3 ka0 (by first | exact Or.inr rfl | exact Or.inl (by decide)) (by first | exact Or.inr rfl | exact Or.inl (by decide))
  have rw3 := rw1.putO hcx eI3 ka0 rfl
  have oc3 := oc1.putO eI3 ka0 rfl
  refine r_aload_n hC dX6_tellHill_9 0 rfl ?_
  refine r_iconst hC (v := (0)) dX6_tellHill_10 (by decide) (by decide) (fun x4_ e4 t4 => ?_)
  refine r_puti hC 5 (ci := 6) rfl u6_in tyX6_ok nmX6 (by decide) mT_1_86 rfl rfl rfl dX6_tellHill_11 ka0 rfl rfl (fun I5 eI5 => ?_)
  have hs5 := hs3.put0 eI5 ka0 rfl rfl rfl (by decide)
  have hF5 := hF3.put eI5 ka0 rfl
  have ob5 := ob3.put eI5 ka0 (by first | exact Or.inr rfl | exact Or.inl (by decide)) (by first | exact Or.inr rfl | exact Or.inl (by decide))
  have rw5 := rw3.putO hcx eI5 ka0 rfl
  have oc5 := oc3.putO eI5 ka0 rfl
  refine r_aload_n hC dX6_tellHill_14 0 rfl ?_
  refine r_iconst hC (v := (0)) dX6_tellHill_15 (by decide) (by decide) (fun x6_ e6 t6 => ?_)
  refine r_puti hC 6 (ci := 6) rfl u6_in tyX6_ok nmX6 (by decide) mT_1_88 rfl rfl rfl dX6_tellHill_16 ka0 rfl rfl (fun I7 eI7 => ?_)
  have hs7 := hs5.put0 eI7 ka0 rfl rfl rfl (by decide)
  have hF7 := hF5.put eI7 ka0 rfl
  have ob7 := ob5.put eI7 ka0 (by first | exact Or.inr rfl | exact Or.inl (by decide)) (by first | exact Or.inr rfl | exact Or.inl (by decide))
  have rw7 := rw5.putO hcx eI7 ka0 rfl
  have oc7 := oc5.putO eI7 ka0 rfl
  refine r_aload_n hC dX6_tellHill_19 0 rfl ?_
  refine r_getr hC 0 (ci := 6) rfl u6_in (by decide) mT_1_81 dX6_tellHill_20 ka0 rfl rfl htk ?_
  refine r_iload_n hC dX6_tellHill_23 1 rfl ?_
  have hL : I7 tp 1 = L0 := (Eq.trans (up2_kk eI7 ka0 hkt (by decide)) (Eq.trans (up2_kk eI5 ka0 hkt (by decide)) (Eq.trans (up2_kk eI3 ka0 hkt (by decide)) (Eq.trans (hf1.get hkt rfl) eL0.symm))))
  have hLt : (I7 tp 1).toInt = L0.toInt := congrArg Int32.toInt hL
  refine r_callV hC (As := [.int x1]) (rest := []) (ci := 7) (f_X7_begin g (xL X) K len I7 J R hs7 tk ktk x1 tp bt hbt hkt hbb hkb nbt B n (hB.mv hF7 hkb (fun _ => rfl)) hn (by omega) (by omega) (by omega)) mT_2_152 mT_1_4 mT_2_149 mT_2_150 mT_2_151 okX7_begin ⟨by decide, by decide⟩ rfl (by show kO (K tk) = _; rw [ktk]; rfl) rfl rfl (Nat.le_of_ble_eq_true rfl) ⟨by decide, by decide⟩ dX6_tellHill_24 (aV2 (F := fun st M => P g X 5 27 [(0, .ref a0), (1, .int x1), (2, .ref a2)] st _ _ M) (M := (K, len, I7, J, R)) fun I8 J8 h8 => ?_)
  obtain ⟨hs8, hf8, hfj8, k8_0⟩ := h8
  show P g X 5 27 [(0, .ref a0), (1, .int x1), (2, .ref a2)] [] _ _ (K, len, I8, J8, R)
  have hF8 : Fr K [(2, 1), (2, 4), (2, 6), (2, 8), (2, 12), (3, 0), (3, 1), (3, 2), (3, 3), (3, 4), (3, 5), (5, 0), (5, 1), (5, 2), (5, 3), (7, 3), (7, 4), (7, 5), (7, 6), (8, 1), (8, 2), (8, 3), (8, 4), (55, 999), (56, 999), (57, 999), (58, 999), (59, 999), (60, 999), (61, 999), (62, 999), (63, 999), (64, 999)] I I8 := hF7.trans hf8 rfl rfl
  have hFJ8 : Fr K [(8, 5), (42, 999), (48, 999)] J J8 := hFJ.trans hfj8 rfl rfl
  have rw8 := rw7.mv hcx qC_big hf8 rfl
  have oc8 := oc7.mv qC_big hf8 rfl
  have ob8 := ob7.mv hf8 rfl
  have hv0 : I8 lk 0 = E0 := (Eq.trans (hf8.get klk rfl) (Eq.trans (up2_kk eI7 ka0 klk (by decide)) (Eq.trans (up2_kk eI5 ka0 klk (by decide)) (Eq.trans (up2_kk eI3 ka0 klk (by decide)) eE0.symm))))
  have hv0t : (I8 lk 0).toInt = E0.toInt := congrArg Int32.toInt hv0
  have hv1 : I8 lk 1 = E1 := (Eq.trans (hf8.get klk rfl) (Eq.trans (up2_kk eI7 ka0 klk (by decide)) (Eq.trans (up2_kk eI5 ka0 klk (by decide)) (Eq.trans (up2_kk eI3 ka0 klk (by decide)) eE1.symm))))
  have hv1t : (I8 lk 1).toInt = E1.toInt := congrArg Int32.toInt hv1
  have hv2 : I8 lk 2 = E2 := (Eq.trans (hf8.get klk rfl) (Eq.trans (up2_kk eI7 ka0 klk (by decide)) (Eq.trans (up2_kk eI5 ka0 klk (by decide)) (Eq.trans (up2_kk eI3 ka0 klk (by decide)) eE2.symm))))
  have hv2t : (I8 lk 2).toInt = E2.toInt := congrArg Int32.toInt hv2
  have hv3 : I8 lk 3 = E3 := (Eq.trans (hf8.get klk rfl) (Eq.trans (up2_kk eI7 ka0 klk (by decide)) (Eq.trans (up2_kk eI5 ka0 klk (by decide)) (Eq.trans (up2_kk eI3 ka0 klk (by decide)) eE3.symm))))
  have hv3t : (I8 lk 3).toInt = E3.toInt := congrArg Int32.toInt hv3
  have hv4 : I8 lk 4 = E4 := (Eq.trans (hf8.get klk rfl) (Eq.trans (up2_kk eI7 ka0 klk (by decide)) (Eq.trans (up2_kk eI5 ka0 klk (by decide)) (Eq.trans (up2_kk eI3 ka0 klk (by decide)) eE4.symm))))
  have hv4t : (I8 lk 4).toInt = E4.toInt := congrArg Int32.toInt hv4
  have hv5 : I8 lk 5 = E5 := (Eq.trans (hf8.get klk rfl) (Eq.trans (up2_kk eI7 ka0 klk (by decide)) (Eq.trans (up2_kk eI5 ka0 klk (by decide)) (Eq.trans (up2_kk eI3 ka0 klk (by decide)) eE5.symm))))
  have hv5t : (I8 lk 5).toInt = E5.toInt := congrArg Int32.toInt hv5
  have hw1 : I8 a2 1 = H1 := (Eq.trans (hf8.get ka2 rfl) (Eq.trans (up2_kk eI7 ka0 ka2 (by decide)) (Eq.trans (up2_kk eI5 ka0 ka2 (by decide)) (Eq.trans (up2_kk eI3 ka0 ka2 (by decide)) eH1.symm))))
  have hw1t : (I8 a2 1).toInt = H1.toInt := congrArg Int32.toInt hw1
  have hw4 : I8 a2 4 = H4 := (Eq.trans (hf8.get ka2 rfl) (Eq.trans (up2_kk eI7 ka0 ka2 (by decide)) (Eq.trans (up2_kk eI5 ka0 ka2 (by decide)) (Eq.trans (up2_kk eI3 ka0 ka2 (by decide)) eH4.symm))))
  have hw4t : (I8 a2 4).toInt = H4.toInt := congrArg Int32.toInt hw4
  have hw6 : I8 a2 6 = H6 := (Eq.trans (hf8.get ka2 rfl) (Eq.trans (up2_kk eI7 ka0 ka2 (by decide)) (Eq.trans (up2_kk eI5 ka0 ka2 (by decide)) (Eq.trans (up2_kk eI3 ka0 ka2 (by decide)) eH6.symm))))
  have hw6t : (I8 a2 6).toInt = H6.toInt := congrArg Int32.toInt hw6
  have hw8 : I8 a2 8 = H8 := (Eq.trans (hf8.get ka2 rfl) (Eq.trans (up2_kk eI7 ka0 ka2 (by decide)) (Eq.trans (up2_kk eI5 ka0 ka2 (by decide)) (Eq.trans (up2_kk eI3 ka0 ka2 (by decide)) eH8.symm))))
  have hw8t : (I8 a2 8).toInt = H8.toInt := congrArg Int32.toInt hw8
  have hw12 : I8 a2 12 = H12 := (Eq.trans (hf8.get ka2 rfl) (Eq.trans (up2_kk eI7 ka0 ka2 (by decide)) (Eq.trans (up2_kk eI5 ka0 ka2 (by decide)) (Eq.trans (up2_kk eI3 ka0 ka2 (by decide)) eH12.symm))))
  have hw12t : (I8 a2 12).toInt = H12.toInt := congrArg Int32.toInt hw12
  have hn3 : I8 a0 3 = x2_ := (Eq.trans (hf8.get ka0 rfl) (Eq.trans (up2_at (Or.inr (by decide)) eI7) (Eq.trans (up2_at (Or.inr (by decide)) eI5) (by rw [eI3]; exact up2_self _ _ _ _))))
  have hn3t : (I8 a0 3).toInt = x2_.toInt := congrArg Int32.toInt hn3
  have hn5 : I8 a0 5 = x4_ := (Eq.trans (hf8.get ka0 rfl) (Eq.trans (up2_at (Or.inr (by decide)) eI7) (by rw [eI5]; exact up2_self _ _ _ _)))
  have hn5t : (I8 a0 5).toInt = x4_.toInt := congrArg Int32.toInt hn5
  have rep0 : RpC D0 a0 nr pr a2 lk I8 J8 := ⟨⟨by show (I8 lk 0).toInt = 0; omega, by show (I8 lk 1).toInt = 0; omega, by show (I8 lk 2).toInt = 0; omega, by show (I8 lk 3).toInt = 0; omega, by show (I8 lk 4).toInt = 0; omega, by show (I8 a2 1).toInt = 0; omega, by show (I8 a2 4).toInt = 0; omega, by show (I8 a2 6).toInt = 0; omega, by show (I8 a2 8).toInt = 0; omega, by show (I8 a2 12).toInt = 0; omega, by show (I8 a0 3).toInt = 0; omega⟩, fun j z => absurd z (by show ¬ ((j : Int) < 0); omega), fun j z => absurd z (by show ¬ ((j : Int) < 0); omega)⟩
  have pz0 : (I8 lk 5).toInt = 0 := by omega
  have fz0 : (I8 a0 5).toInt = 0 := by omega
  refine r_iconst hC (v := (1)) dX6_tellHill_27 (by decide) (by decide) (fun x9_ e9 t9 => ?_)
  refine r_istore_n hC (lv' := [(3, .int x9_), (0, .ref a0), (1, .int x1), (2, .ref a2)]) dX6_tellHill_28 (by decide) rfl ?_
  refine r_iconst hC (v := (0)) dX6_tellHill_29 (by decide) (by decide) (fun x10_ e10 t10 => ?_)
  refine r_istore hC (lv' := [(4, .int x10_), (3, .int x9_), (0, .ref a0), (1, .int x1), (2, .ref a2)]) dX6_tellHill_30 (by decide) rfl ?_
  have LP11 : ∀ (mu : Nat) (x11_4 : Int32) (x11_3 : Int32) (I11 : Nat → Nat → Int32) (J11 : Nat → Nat → Int64) (hs11 : Sf K len I11 R) (hF11 : Fr K [(2, 1), (2, 4), (2, 6), (2, 8), (2, 12), (3, 0), (3, 1), (3, 2), (3, 3), (3, 4), (3, 5), (5, 0), (5, 1), (5, 2), (5, 3), (7, 3), (7, 4), (7, 5), (7, 6), (8, 1), (8, 2), (8, 3), (8, 4), (55, 999), (56, 999), (57, 999), (58, 999), (59, 999), (60, 999), (61, 999), (62, 999), (63, 999), (64, 999)] I I11) (hFJ11 : Fr K [(8, 5), (42, 999), (48, 999)] J J11) (v11_0 : 0 ≤ x11_3.toInt) (v11_1 : x11_3.toInt ≤ 1) (v11_2 : 0 ≤ x11_4.toInt) (v11_3 : x11_4.toInt ≤ 901) (v11_4 : CL B n a0 tk nr pr a2 lk R (sHill B n 902 0 D0) x11_3.toInt x11_4.toInt I11 J11) (v11_5 : (I11 lk 5).toInt = 0) (v11_6 : (I11 a0 5).toInt = 0) (v11_7 : OB K a2 lk I I11) (v11_8 : OC (CC a2 lk R) qC K I I11), (901 - x11_4.toInt).toNat = mu → P g X 5 32 [(0, .ref a0), (1, .int x1), (2, .ref a2), (3, .int x11_3), (4, .int x11_4)] [] 0 0 (K, len, I11, J11, R) := by
    intro mu; induction mu using Nat.strongRecOn with | ind mu ih => ?_
    intro x11_4 x11_3 I11 J11 hs11 hF11 hFJ11 v11_0 v11_1 v11_2 v11_3 v11_4 v11_5 v11_6 v11_7 v11_8 hmu
    have ih11 := ih
    clear ih
    have hmu11 := hmu
    clear hmu
    refine r_iload_n hC dX6_tellHill_32 3 rfl ?_
    refine r_if_eq hC (tgt := 79) dX6_tellHill_33 (by decide) (fun c12 => ?_) (fun c12 => ?_)
    · obtain ⟨DL, pL, hpL, tkL, ⟨repL, rwL, hJL⟩, hDL, hkL, hSL⟩ := v11_4.zero (by omega)
      obtain ⟨rs0, rs1, rs2, rs3, rs4, rs5, rs6, rs7, rs8, rs9, rs10⟩ := id repL.1
      refine r_aload_n hC dX6_tellHill_79 0 rfl ?_
      refine r_getr hC 0 (ci := 6) rfl u6_in (by decide) mT_1_81 dX6_tellHill_80 ka0 rfl rfl htk ?_
      refine r_callV hC (As := []) (rest := []) (ci := 7) (f_X7_isEnd g (xL X) K len I11 J11 R hs11 tk ktk B n pL tkL) mT_3_93 mT_1_4 mT_3_90 mT_3_91 mT_3_92 okX7_isEnd ⟨by decide, by decide⟩ rfl (by show kO (K tk) = _; rw [ktk]; rfl) rfl rfl (Nat.le_of_ble_eq_true rfl) ⟨by decide, by decide⟩ dX6_tellHill_83 (aI0 (F := fun st M => P g X 5 86 [(0, .ref a0), (1, .int x1), (2, .ref a2), (3, .int x11_3), (4, .int x11_4)] st _ _ M) (M := (K, len, I11, J11, R)) fun x13_ h13 => ?_)
      obtain ⟨k13_0, k13_1, k13_2⟩ := h13
      show P g X 5 86 [(0, .ref a0), (1, .int x1), (2, .ref a2), (3, .int x11_3), (4, .int x11_4)] [.int x13_] _ _ (K, len, I11, J11, R)
      rcases k13_2 with ⟨hr13, hw13⟩ | ⟨hr13, hw13⟩
      · refine r_if_ne hC (tgt := 95) dX6_tellHill_86 (by decide) (fun c14 => ?_) (fun c14 => ?_)
        rotate_left
        · exfalso; omega
        refine r_aload_n hC dX6_tellHill_95 2 rfl ?_
        refine r_getr hC 0 (ci := 1) rfl u1_in (by decide) mT_1_181 dX6_tellHill_96 ka2 rfl rfl hlkr ?_
        refine r_geti hC 0 (ci := 2) rfl u2_in (by decide) mT_1_118 dX6_tellHill_99 klk rfl rfl (fun x15_ e15 => ?_)
        have f15 : x15_.toInt = (I11 lk 0).toInt := by rw [e15]
        refine r_if_eq hC (tgt := 119) dX6_tellHill_102 (by decide) (fun c16 => ?_) (fun c16 => ?_)
        · refine r_aload_n hC dX6_tellHill_119 0 rfl ?_
          refine r_bipush hC (v := (6)) dX6_tellHill_120 (by decide) (by decide) (fun x17_ e17 t17 => ?_)
          refine r_callV hC (As := [.int x17_]) (rest := []) (ci := 6) (f_X6_faulty g (xL X) K len I11 J11 R hs11 a0 ka0 x17_ tk htk ktk tp bt hbt hkt hbb hkb nbt B n (hB.mv hF11 hkb (fun _ => rfl)) hn pL hpL tkL) mT_2_233 mT_1_3 mT_2_230 mT_2_232 mP_5 okX6_faulty ⟨by decide, by decide⟩ rfl (by show kO (K a0) = _; rw [ka0]; rfl) rfl rfl (Nat.le_of_ble_eq_true rfl) ⟨by decide, by decide⟩ dX6_tellHill_122 (aI1 (F := fun st M => P g X 5 125 [(0, .ref a0), (1, .int x1), (2, .ref a2), (3, .int x11_3), (4, .int x11_4)] st _ _ M) (M := (K, len, I11, J11, R)) fun x18_ I18 h18 => ?_)
          obtain ⟨hs18, hf18, k18_0, k18_1, k18_2⟩ := h18
          show P g X 5 125 [(0, .ref a0), (1, .int x1), (2, .ref a2), (3, .int x11_3), (4, .int x11_4)] [.int x18_] _ _ (K, len, I18, J11, R)
          have hF18 : Fr K [(2, 1), (2, 4), (2, 6), (2, 8), (2, 12), (3, 0), (3, 1), (3, 2), (3, 3), (3, 4), (3, 5), (5, 0), (5, 1), (5, 2), (5, 3), (7, 3), (7, 4), (7, 5), (7, 6), (8, 1), (8, 2), (8, 3), (8, 4), (55, 999), (56, 999), (57, 999), (58, 999), (59, 999), (60, 999), (61, 999), (62, 999), (63, 999), (64, 999)] I I18 := hF11.trans hf18 rfl rfl
          have tkm18 := tkL.mvI hf18 ktk rfl rfl rfl rfl
          have rw18 := rwL.mv hcx qC_big hf18 rfl
          have oc18 := v11_8.mv qC_big hf18 rfl
          have rp18 := repL.mvI hf18 ka0 ka2 klk rfl
          have ob18 := v11_7.mv hf18 rfl
          have pz18 : (I18 lk 5).toInt = 0 := by rw [hf18.get klk rfl]; exact v11_5
          exact r_iret hC hQ hlk hr (nz_b (by omega) (by omega)) (by decide) (by decide) dX6_tellHill_125 ⟨_, _, _, rfl, rfl, ⟨hs18, hF18, hFJ11, (by first | exact Or.inl ⟨by omega, DL, hSL.trans (FinH_k (by omega) (by omega)), rp18, rw18, hJL, hDL, pz18, None⟩ | exact Or.inr ⟨by omega, kf0, qf0, CL.er hSL hsp0 (by omega), hf10, hf20⟩ | exact Or.inr ⟨by omega, 1, pl B n pL, hSL.trans (FinH_1 (by omega)), by omega, by omega⟩ | exact Or.inr ⟨by omega, 6, pl B n pL, hSL.trans (FinH_6 (by omega) (by omega)), by omega, by omega⟩), (by exact ob18), (by exact oc18)⟩⟩
        · refine r_aload_n hC dX6_tellHill_105 2 rfl ?_
          refine r_geti hC 1 (ci := 1) rfl u1_in (by decide) mT_1_186 dX6_tellHill_106 ka2 rfl rfl (fun x19_ e19 => ?_)
          have r19 := hs11.rng ka2 rfl e19
          have f19 : x19_.toInt = (I11 a2 1).toInt := by rw [e19]
          refine r_if_eq hC (tgt := 119) dX6_tellHill_109 (by decide) (fun c20 => ?_) (fun c20 => ?_)
          · refine r_aload_n hC dX6_tellHill_119 0 rfl ?_
            refine r_bipush hC (v := (6)) dX6_tellHill_120 (by decide) (by decide) (fun x21_ e21 t21 => ?_)
            refine r_callV hC (As := [.int x21_]) (rest := []) (ci := 6) (f_X6_faulty g (xL X) K len I11 J11 R hs11 a0 ka0 x21_ tk htk ktk tp bt hbt hkt hbb hkb nbt B n (hB.mv hF11 hkb (fun _ => rfl)) hn pL hpL tkL) mT_2_233 mT_1_3 mT_2_230 mT_2_232 mP_5 okX6_faulty ⟨by decide, by decide⟩ rfl (by show kO (K a0) = _; rw [ka0]; rfl) rfl rfl (Nat.le_of_ble_eq_true rfl) ⟨by decide, by decide⟩ dX6_tellHill_122 (aI1 (F := fun st M => P g X 5 125 [(0, .ref a0), (1, .int x1), (2, .ref a2), (3, .int x11_3), (4, .int x11_4)] st _ _ M) (M := (K, len, I11, J11, R)) fun x22_ I22 h22 => ?_)
            obtain ⟨hs22, hf22, k22_0, k22_1, k22_2⟩ := h22
            show P g X 5 125 [(0, .ref a0), (1, .int x1), (2, .ref a2), (3, .int x11_3), (4, .int x11_4)] [.int x22_] _ _ (K, len, I22, J11, R)
            have hF22 : Fr K [(2, 1), (2, 4), (2, 6), (2, 8), (2, 12), (3, 0), (3, 1), (3, 2), (3, 3), (3, 4), (3, 5), (5, 0), (5, 1), (5, 2), (5, 3), (7, 3), (7, 4), (7, 5), (7, 6), (8, 1), (8, 2), (8, 3), (8, 4), (55, 999), (56, 999), (57, 999), (58, 999), (59, 999), (60, 999), (61, 999), (62, 999), (63, 999), (64, 999)] I I22 := hF11.trans hf22 rfl rfl
            have tkm22 := tkL.mvI hf22 ktk rfl rfl rfl rfl
            have rw22 := rwL.mv hcx qC_big hf22 rfl
            have oc22 := v11_8.mv qC_big hf22 rfl
            have rp22 := repL.mvI hf22 ka0 ka2 klk rfl
            have ob22 := v11_7.mv hf22 rfl
            have pz22 : (I22 lk 5).toInt = 0 := by rw [hf22.get klk rfl]; exact v11_5
            exact r_iret hC hQ hlk hr (nz_b (by omega) (by omega)) (by decide) (by decide) dX6_tellHill_125 ⟨_, _, _, rfl, rfl, ⟨hs22, hF22, hFJ11, (by first | exact Or.inl ⟨by omega, DL, hSL.trans (FinH_k (by omega) (by omega)), rp22, rw22, hJL, hDL, pz22, None⟩ | exact Or.inr ⟨by omega, kf0, qf0, CL.er hSL hsp0 (by omega), hf10, hf20⟩ | exact Or.inr ⟨by omega, 1, pl B n pL, hSL.trans (FinH_1 (by omega)), by omega, by omega⟩ | exact Or.inr ⟨by omega, 6, pl B n pL, hSL.trans (FinH_6 (by omega) (by omega)), by omega, by omega⟩), (by exact ob22), (by exact oc22)⟩⟩
          · refine r_aload_n hC dX6_tellHill_112 2 rfl ?_
            refine r_geti hC 6 (ci := 1) rfl u1_in (by decide) mT_1_201 dX6_tellHill_113 ka2 rfl rfl (fun x23_ e23 => ?_)
            have r23 := hs11.rng ka2 rfl e23
            have f23 : x23_.toInt = (I11 a2 6).toInt := by rw [e23]
            refine r_if_ne hC (tgt := 126) dX6_tellHill_116 (by decide) (fun c24 => ?_) (fun c24 => ?_)
            · refine r_iconst hC (v := (1)) dX6_tellHill_126 (by decide) (by decide) (fun x25_ e25 t25 => ?_)
              exact r_iret hC hQ hlk hr (by rw [e25]; rfl) (by decide) (by decide) dX6_tellHill_127 ⟨_, _, _, rfl, rfl, ⟨hs11, hF11, hFJ11, (by first | exact Or.inl ⟨by omega, DL, hSL.trans (FinH_k (by omega) (by omega)), repL, rwL, hJL, hDL, v11_5, v11_6⟩ | exact Or.inr ⟨by omega, kf0, qf0, CL.er hSL hsp0 (by omega), hf10, hf20⟩ | exact Or.inr ⟨by omega, 1, pl B n pL, hSL.trans (FinH_1 (by omega)), by omega, by omega⟩ | exact Or.inr ⟨by omega, 6, pl B n pL, hSL.trans (FinH_6 (by omega) (by omega)), by omega, by omega⟩), (by exact v11_7), (by exact v11_8)⟩⟩
            · refine r_aload_n hC dX6_tellHill_119 0 rfl ?_
              refine r_bipush hC (v := (6)) dX6_tellHill_120 (by decide) (by decide) (fun x26_ e26 t26 => ?_)
              refine r_callV hC (As := [.int x26_]) (rest := []) (ci := 6) (f_X6_faulty g (xL X) K len I11 J11 R hs11 a0 ka0 x26_ tk htk ktk tp bt hbt hkt hbb hkb nbt B n (hB.mv hF11 hkb (fun _ => rfl)) hn pL hpL tkL) mT_2_233 mT_1_3 mT_2_230 mT_2_232 mP_5 okX6_faulty ⟨by decide, by decide⟩ rfl (by show kO (K a0) = _; rw [ka0]; rfl) rfl rfl (Nat.le_of_ble_eq_true rfl) ⟨by decide, by decide⟩ dX6_tellHill_122 (aI1 (F := fun st M => P g X 5 125 [(0, .ref a0), (1, .int x1), (2, .ref a2), (3, .int x11_3), (4, .int x11_4)] st _ _ M) (M := (K, len, I11, J11, R)) fun x27_ I27 h27 => ?_)
              obtain ⟨hs27, hf27, k27_0, k27_1, k27_2⟩ := h27
              show P g X 5 125 [(0, .ref a0), (1, .int x1), (2, .ref a2), (3, .int x11_3), (4, .int x11_4)] [.int x27_] _ _ (K, len, I27, J11, R)
              have hF27 : Fr K [(2, 1), (2, 4), (2, 6), (2, 8), (2, 12), (3, 0), (3, 1), (3, 2), (3, 3), (3, 4), (3, 5), (5, 0), (5, 1), (5, 2), (5, 3), (7, 3), (7, 4), (7, 5), (7, 6), (8, 1), (8, 2), (8, 3), (8, 4), (55, 999), (56, 999), (57, 999), (58, 999), (59, 999), (60, 999), (61, 999), (62, 999), (63, 999), (64, 999)] I I27 := hF11.trans hf27 rfl rfl
              have tkm27 := tkL.mvI hf27 ktk rfl rfl rfl rfl
              have rw27 := rwL.mv hcx qC_big hf27 rfl
              have oc27 := v11_8.mv qC_big hf27 rfl
              have rp27 := repL.mvI hf27 ka0 ka2 klk rfl
              have ob27 := v11_7.mv hf27 rfl
              have pz27 : (I27 lk 5).toInt = 0 := by rw [hf27.get klk rfl]; exact v11_5
              exact r_iret hC hQ hlk hr (nz_b (by omega) (by omega)) (by decide) (by decide) dX6_tellHill_125 ⟨_, _, _, rfl, rfl, ⟨hs27, hF27, hFJ11, (by first | exact Or.inl ⟨by omega, DL, hSL.trans (FinH_k (by omega) (by omega)), rp27, rw27, hJL, hDL, pz27, None⟩ | exact Or.inr ⟨by omega, kf0, qf0, CL.er hSL hsp0 (by omega), hf10, hf20⟩ | exact Or.inr ⟨by omega, 1, pl B n pL, hSL.trans (FinH_1 (by omega)), by omega, by omega⟩ | exact Or.inr ⟨by omega, 6, pl B n pL, hSL.trans (FinH_6 (by omega) (by omega)), by omega, by omega⟩), (by exact ob27), (by exact oc27)⟩⟩
      · refine r_if_ne hC (tgt := 95) dX6_tellHill_86 (by decide) (fun c28 => ?_) (fun c28 => ?_)
        · exfalso; omega
        refine r_aload_n hC dX6_tellHill_89 0 rfl ?_
        refine r_iconst hC (v := (1)) dX6_tellHill_90 (by decide) (by decide) (fun x29_ e29 t29 => ?_)
        refine r_callV hC (As := [.int x29_]) (rest := []) (ci := 6) (f_X6_faulty g (xL X) K len I11 J11 R hs11 a0 ka0 x29_ tk htk ktk tp bt hbt hkt hbb hkb nbt B n (hB.mv hF11 hkb (fun _ => rfl)) hn pL hpL tkL) mT_2_233 mT_1_3 mT_2_230 mT_2_232 mP_5 okX6_faulty ⟨by decide, by decide⟩ rfl (by show kO (K a0) = _; rw [ka0]; rfl) rfl rfl (Nat.le_of_ble_eq_true rfl) ⟨by decide, by decide⟩ dX6_tellHill_91 (aI1 (F := fun st M => P g X 5 94 [(0, .ref a0), (1, .int x1), (2, .ref a2), (3, .int x11_3), (4, .int x11_4)] st _ _ M) (M := (K, len, I11, J11, R)) fun x30_ I30 h30 => ?_)
        obtain ⟨hs30, hf30, k30_0, k30_1, k30_2⟩ := h30
        show P g X 5 94 [(0, .ref a0), (1, .int x1), (2, .ref a2), (3, .int x11_3), (4, .int x11_4)] [.int x30_] _ _ (K, len, I30, J11, R)
        have hF30 : Fr K [(2, 1), (2, 4), (2, 6), (2, 8), (2, 12), (3, 0), (3, 1), (3, 2), (3, 3), (3, 4), (3, 5), (5, 0), (5, 1), (5, 2), (5, 3), (7, 3), (7, 4), (7, 5), (7, 6), (8, 1), (8, 2), (8, 3), (8, 4), (55, 999), (56, 999), (57, 999), (58, 999), (59, 999), (60, 999), (61, 999), (62, 999), (63, 999), (64, 999)] I I30 := hF11.trans hf30 rfl rfl
        have tkm30 := tkL.mvI hf30 ktk rfl rfl rfl rfl
        have rw30 := rwL.mv hcx qC_big hf30 rfl
        have oc30 := v11_8.mv qC_big hf30 rfl
        have rp30 := repL.mvI hf30 ka0 ka2 klk rfl
        have ob30 := v11_7.mv hf30 rfl
        have pz30 : (I30 lk 5).toInt = 0 := by rw [hf30.get klk rfl]; exact v11_5
        exact r_iret hC hQ hlk hr (nz_b (by omega) (by omega)) (by decide) (by decide) dX6_tellHill_94 ⟨_, _, _, rfl, rfl, ⟨hs30, hF30, hFJ11, (by first | exact Or.inl ⟨by omega, DL, hSL.trans (FinH_k (by omega) (by omega)), rp30, rw30, hJL, hDL, pz30, None⟩ | exact Or.inr ⟨by omega, kf0, qf0, CL.er hSL hsp0 (by omega), hf10, hf20⟩ | exact Or.inr ⟨by omega, 1, pl B n pL, hSL.trans (FinH_1 (by omega)), by omega, by omega⟩ | exact Or.inr ⟨by omega, 6, pl B n pL, hSL.trans (FinH_6 (by omega) (by omega)), by omega, by omega⟩), (by exact ob30), (by exact oc30)⟩⟩
    · obtain ⟨DL, pL, hpL, tkL, ⟨repL, rwL, hJL⟩, hDL, hlL, hSL⟩ := v11_4.one (by omega)
      refine r_iload hC dX6_tellHill_36 4 rfl ?_
      refine r_sipush hC (v := (900)) dX6_tellHill_38 (by decide) (by decide) (fun x31_ e31 t31 => ?_)
      refine r_icmp_gt hC (tgt := 79) dX6_tellHill_41 (by decide) (fun c32 => ?_) (fun c32 => ?_)
      · exfalso; omega
      refine r_aload_n hC dX6_tellHill_44 0 rfl ?_
      refine r_aload_n hC dX6_tellHill_45 2 rfl ?_
      refine r_callV hC (As := [.ref a2]) (rest := []) (ci := 6) (f_X6_takeLine g (xL X) K len I11 J11 R hs11 a0 ka0 a2 ka2 tk htk ktk tp bt hbt hkt hbb hkb nbt B n (hB.mv hF11 hkb (fun _ => rfl)) hn pL hpL tkL nr hnr knr lnr pr hpr kpr lpr lk hlkr klk DL hDL repL hu rwL hJL) mT_2_172 mT_1_3 mT_2_169 mT_2_171 mP_3 okX6_takeLine ⟨by decide, by decide⟩ rfl (by show kO (K a0) = _; rw [ka0]; rfl) rfl rfl (Nat.le_of_ble_eq_true rfl) ⟨by decide, by decide⟩ dX6_tellHill_46 (aI2 (F := fun st M => P g X 5 49 [(0, .ref a0), (1, .int x1), (2, .ref a2), (3, .int x11_3), (4, .int x11_4)] st _ _ M) (M := (K, len, I11, J11, R)) fun x33_ I33 J33 h33 => ?_)
      obtain ⟨hs33, hf33, hfj33, k33_0, k33_1, k33_2, k33_3, k33_4⟩ := h33
      show P g X 5 49 [(0, .ref a0), (1, .int x1), (2, .ref a2), (3, .int x11_3), (4, .int x11_4)] [.int x33_] _ _ (K, len, I33, J33, R)
      have hF33 : Fr K [(2, 1), (2, 4), (2, 6), (2, 8), (2, 12), (3, 0), (3, 1), (3, 2), (3, 3), (3, 4), (3, 5), (5, 0), (5, 1), (5, 2), (5, 3), (7, 3), (7, 4), (7, 5), (7, 6), (8, 1), (8, 2), (8, 3), (8, 4), (55, 999), (56, 999), (57, 999), (58, 999), (59, 999), (60, 999), (61, 999), (62, 999), (63, 999), (64, 999)] I I33 := hF11.trans hf33 rfl rfl
      have hFJ33 : Fr K [(8, 5), (42, 999), (48, 999)] J J33 := hFJ11.trans hfj33 rfl rfl
      have oc33 := v11_8.tr k33_4
      have ob33 := v11_7.tr k33_3
      have pz33 : (I33 lk 5).toInt = 0 := by rw [hf33.get klk rfl]; exact v11_5
      rcases k33_2 with ⟨hr33, D33, p33, hsp33, hp33, tk33, rep33, rwL33, fl33⟩ | ⟨hr33, kf33, qf33, hsp33, hf133, hf233⟩
      · have fz33 : (I33 a0 5).toInt = 0 := by rw [fl33]; exact v11_6
        refine r_if_ne hC (tgt := 54) dX6_tellHill_49 (by decide) (fun c34 => ?_) (fun c34 => ?_)
        rotate_left
        · exfalso; omega
        refine r_aload_n hC dX6_tellHill_54 0 rfl ?_
        refine r_getr hC 0 (ci := 6) rfl u6_in (by decide) mT_1_81 dX6_tellHill_55 ka0 rfl rfl htk ?_
        refine r_callV hC (As := []) (rest := []) (ci := 7) (f_X7_isSemicolon g (xL X) K len I33 J33 R hs33 tk ktk B n p33 tk33) mT_3_89 mT_1_4 mT_3_86 mT_3_87 mT_3_88 okX7_isSemicolon ⟨by decide, by decide⟩ rfl (by show kO (K tk) = _; rw [ktk]; rfl) rfl rfl (Nat.le_of_ble_eq_true rfl) ⟨by decide, by decide⟩ dX6_tellHill_58 (aI0 (F := fun st M => P g X 5 61 [(0, .ref a0), (1, .int x1), (2, .ref a2), (3, .int x11_3), (4, .int x11_4)] st _ _ M) (M := (K, len, I33, J33, R)) fun x35_ h35 => ?_)
        obtain ⟨k35_0, k35_1, k35_2⟩ := h35
        show P g X 5 61 [(0, .ref a0), (1, .int x1), (2, .ref a2), (3, .int x11_3), (4, .int x11_4)] [.int x35_] _ _ (K, len, I33, J33, R)
        rcases k35_2 with ⟨hr35, hw35⟩ | ⟨hr35, hw35⟩
        · refine r_istore_n hC (lv' := [(3, .int x35_), (0, .ref a0), (1, .int x1), (2, .ref a2), (4, .int x11_4)]) dX6_tellHill_61 (by decide) rfl ?_
          refine r_iload_n hC dX6_tellHill_62 0 rfl ?_
          refine r_if_eq hC (tgt := 73) dX6_tellHill_63 (by decide) (fun c36 => ?_) (fun c36 => ?_)
          · exfalso; omega
          refine r_aload_n hC dX6_tellHill_66 1 rfl ?_
          refine r_getr hC 0 (ci := 6) rfl u6_in (by decide) mT_1_81 dX6_tellHill_67 ka0 rfl rfl htk ?_
          refine r_callV hC (As := []) (rest := []) (ci := 7) (f_X7_next g (xL X) K len I33 J33 R hs33 tk ktk tp bt hbt hkt hbb hkb nbt B n (hB.mv hF33 hkb (fun _ => rfl)) hn (nx B n p33) (nx_le hp33).2 (tk33.2.2.1) (tk33.2.2.2.1)) mT_2_159 mT_1_4 mT_2_234 mT_2_157 mT_2_158 okX7_next ⟨by decide, by decide⟩ rfl (by show kO (K tk) = _; rw [ktk]; rfl) rfl rfl (Nat.le_of_ble_eq_true rfl) ⟨by decide, by decide⟩ dX6_tellHill_70 (aV2 (F := fun st M => P g X 5 73 [(3, .int x35_), (0, .ref a0), (1, .int x1), (2, .ref a2), (4, .int x11_4)] st _ _ M) (M := (K, len, I33, J33, R)) fun I37 J37 h37 => ?_)
          obtain ⟨hs37, hf37, hfj37, k37_0⟩ := h37
          show P g X 5 73 [(3, .int x35_), (0, .ref a0), (1, .int x1), (2, .ref a2), (4, .int x11_4)] [] _ _ (K, len, I37, J37, R)
          have hF37 : Fr K [(2, 1), (2, 4), (2, 6), (2, 8), (2, 12), (3, 0), (3, 1), (3, 2), (3, 3), (3, 4), (3, 5), (5, 0), (5, 1), (5, 2), (5, 3), (7, 3), (7, 4), (7, 5), (7, 6), (8, 1), (8, 2), (8, 3), (8, 4), (55, 999), (56, 999), (57, 999), (58, 999), (59, 999), (60, 999), (61, 999), (62, 999), (63, 999), (64, 999)] I I37 := hF33.trans hf37 rfl rfl
          have hFJ37 : Fr K [(8, 5), (42, 999), (48, 999)] J J37 := hFJ33.trans hfj37 rfl rfl
          have rw37 := rwL33.mv hcx qC_big hf37 rfl
          have oc37 := oc33.mv qC_big hf37 rfl
          have rp37 := rep33.mv hf37 hfj37 ka0 ka2 klk knr kpr rfl (fun _ => rfl) (fun _ => rfl)
          have ob37 := ob33.mv hf37 rfl
          have pz37 : (I37 lk 5).toInt = 0 := by rw [hf37.get klk rfl]; exact pz33
          have fz37 : (I37 a0 5).toInt = 0 := by rw [hf37.get ka0 rfl]; exact fz33
          obtain ⟨x38_, e38⟩ : ∃ z : Int32, z = x11_4 + Int32.ofInt (1) := ⟨_, rfl⟩
          refine r_iinc hC (j := 4) (v := x38_) (lv' := [(4, .int x38_), (3, .int x35_), (0, .ref a0), (1, .int x1), (2, .ref a2)]) dX6_tellHill_73 rfl (by rw [e38]) (by decide) rfl ?_
          try have t38 : x38_.toInt = x11_4.toInt + (1) := by rw [e38]; exact (ti_add (b := Int32.ofInt (1)) (by show _ ≤ _ + (1 : Int); omega) (by show _ + (1 : Int) ≤ _; omega))
          refine r_goto hC (tgt := 32) dX6_tellHill_76 (by decide) ?_
          refine r_sub [2, 3, 4, 1, 0] rfl ?_
          exact ih11 ((901 - x38_.toInt).toNat) (by omega) x38_ x35_ I37 J37 hs37 hF37 hFJ37 (by omega) (by omega) (by omega) (by omega) (by first | exact Or.inl ⟨by omega, D0, 0, Nat.zero_le n, k37_0, ⟨rp37, rw37, dj_0⟩, DI_0, by omega, by rw [show x38_.toInt.toNat = 0 by omega]⟩ | exact CL.mk1 hpL hSL hDL hsp33 (by omega) (by omega) (by omega) (by omega) (by omega) (by omega) k37_0 ⟨rp37, rw37, sLine_dj hpL hDL hJL hsp33⟩ | exact CL.mk0 hpL hSL hDL hsp33 (by omega) (by omega) (by omega) k37_0 ⟨rp37, rw37, sLine_dj hpL hDL hJL hsp33⟩) (by exact pz37) (by exact fz37) (by exact ob37) (by exact oc37) rfl
        · refine r_istore_n hC (lv' := [(3, .int x35_), (0, .ref a0), (1, .int x1), (2, .ref a2), (4, .int x11_4)]) dX6_tellHill_61 (by decide) rfl ?_
          refine r_iload_n hC dX6_tellHill_62 0 rfl ?_
          refine r_if_eq hC (tgt := 73) dX6_tellHill_63 (by decide) (fun c39 => ?_) (fun c39 => ?_)
          rotate_left
          · exfalso; omega
          obtain ⟨x40_, e40⟩ : ∃ z : Int32, z = x11_4 + Int32.ofInt (1) := ⟨_, rfl⟩
          refine r_iinc hC (j := 4) (v := x40_) (lv' := [(4, .int x40_), (3, .int x35_), (0, .ref a0), (1, .int x1), (2, .ref a2)]) dX6_tellHill_73 rfl (by rw [e40]) (by decide) rfl ?_
          try have t40 : x40_.toInt = x11_4.toInt + (1) := by rw [e40]; exact (ti_add (b := Int32.ofInt (1)) (by show _ ≤ _ + (1 : Int); omega) (by show _ + (1 : Int) ≤ _; omega))
          refine r_goto hC (tgt := 32) dX6_tellHill_76 (by decide) ?_
          refine r_sub [2, 3, 4, 1, 0] rfl ?_
          exact ih11 ((901 - x40_.toInt).toNat) (by omega) x40_ x35_ I33 J33 hs33 hF33 hFJ33 (by omega) (by omega) (by omega) (by omega) (by first | exact Or.inl ⟨by omega, D0, 0, Nat.zero_le n, tk33, ⟨rep33, rwL33, dj_0⟩, DI_0, by omega, by rw [show x40_.toInt.toNat = 0 by omega]⟩ | exact CL.mk1 hpL hSL hDL hsp33 (by omega) (by omega) (by omega) (by omega) (by omega) (by omega) tk33 ⟨rep33, rwL33, sLine_dj hpL hDL hJL hsp33⟩ | exact CL.mk0 hpL hSL hDL hsp33 (by omega) (by omega) (by omega) tk33 ⟨rep33, rwL33, sLine_dj hpL hDL hJL hsp33⟩) (by exact pz33) (by exact fz33) (by exact ob33) (by exact oc33) rfl
      · refine r_if_ne hC (tgt := 54) dX6_tellHill_49 (by decide) (fun c41 => ?_) (fun c41 => ?_)
        · exfalso; omega
        refine r_iconst hC (v := (0)) dX6_tellHill_52 (by decide) (by decide) (fun x42_ e42 t42 => ?_)
        exact r_iret hC hQ hlk hr (by rw [e42]; rfl) (by decide) (by decide) dX6_tellHill_53 ⟨_, _, _, rfl, rfl, ⟨hs33, hF33, hFJ33, (by first | exact Or.inl ⟨by omega, DL, hSL.trans (FinH_k (by omega) (by omega)), NONE, NONE, hJL, hDL, pz33, None⟩ | exact Or.inr ⟨by omega, kf33, qf33, CL.er hSL hsp33 (by omega), hf133, hf233⟩ | exact Or.inr ⟨by omega, 1, pl B n pL, hSL.trans (FinH_1 (by omega)), by omega, by omega⟩ | exact Or.inr ⟨by omega, 6, pl B n pL, hSL.trans (FinH_6 (by omega) (by omega)), by omega, by omega⟩), (by exact ob33), (by exact oc33)⟩⟩
  refine r_sub [2, 3, 4, 1, 0] rfl ?_
  exact LP11 _ x10_ x9_ I8 J8 hs8 hF8 hFJ8 (by omega) (by omega) (by omega) (by omega) (by first | exact Or.inl ⟨by omega, D0, 0, Nat.zero_le n, k8_0, ⟨rep0, rw8, dj_0⟩, DI_0, by omega, by rw [show x10_.toInt.toNat = 0 by omega]⟩ | exact CL.mk1 hpL hSL hDL hsp0 (by omega) (by omega) (by omega) (by omega) (by omega) (by omega) k8_0 ⟨rep0, rw8, sLine_dj hpL hDL hJL hsp0⟩ | exact CL.mk0 hpL hSL hDL hsp0 (by omega) (by omega) (by omega) k8_0 ⟨rep0, rw8, sLine_dj hpL hDL hJL hsp0⟩) (by exact pz0) (by exact fz0) (by exact ob8) (by exact oc8) rfl
