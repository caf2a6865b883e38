section ANS1
variable {D : DD} {s n : Nat} {day a b off most i j best v : Int}
end ANS1
set_option maxHeartbeats 4000000 in
set_option maxRecDepth 100000 in
theorem f_X10_isVillage (g : GG) (l : Launch) (K len : Nat → Nat) (I : Nat → Nat → Int32) (J : Nat → Nat → Int64) (R : Nat → Nat → Option Nat) (hs : Sf K len I R) (a0 : Nat) (ka0 : K a0 = 11) (x1 : Int32) : Ct g l yX10_isVillage cX10_isVillage 2 (Option.some Jvm.ClassFile.FieldType.boolean) rmX10_isVillage [.ref a0, .int x1] (K, len, I, J, R) (pI0 (K, len, I, J, R) (fun r => ((R a0 3 = none ∧ r.toInt = 0) ∨ (∃ hm, R a0 3 = some hm ∧ (r.toInt = 1 ∧ (0 ≤ x1.toInt ∧ x1.toInt < (I hm 8).toInt) ∨ r.toInt = 0 ∧ ¬ (0 ≤ x1.toInt ∧ x1.toInt < (I hm 8).toInt)))))) := by
  refine Ct_intro (by decide +kernel) (Nat.le_of_ble_eq_true rfl) (fun X hC hL hKK hNm hr hlk hQ => ?_)
  subst hL
  have hC : Cx g X cX10_isVillage "HillTapModel" 2 rmX10_isVillage := hC
  show P g X 2 0 [(0, .ref a0), (1, .int x1)] [] 0 0 (K, len, I, J, R)
  have hF : Fr K [] I I := Fr.refl
  have b_x1 := ti_rng x1
  refine r_aload_n hC dX10_isVillage_0 0 rfl ?_
  rcases hs.2.1.2.2.1 a0 ka0 with hz1 | ⟨a1_, hb1, hk1⟩
  · refine r_getz hC 3 (ci := 10) rfl u10_in (by decide) mT_4_238 dX10_isVillage_1 ka0 rfl rfl hz1 ?_
    refine r_ifnullN hC (tgt := 26) dX10_isVillage_4 (by decide) ?_
    refine r_iconst hC (v := (0)) dX10_isVillage_26 (by decide) (by decide) (fun x2_ e2 t2 => ?_)
    exact r_iret hC hQ hlk hr (by rw [e2]; rfl) (by decide) (by decide) dX10_isVillage_27 ⟨_, rfl, rfl, (by first | exact Or.inl ⟨hz1, by omega⟩ | exact Or.inr ⟨_, hz1, by omega⟩)⟩
  · refine r_getr hC 3 (ci := 10) rfl u10_in (by decide) mT_4_238 dX10_isVillage_1 ka0 rfl rfl hb1 ?_
    refine r_ifnull hC dX10_isVillage_4 ?_
    refine r_iload_n hC dX10_isVillage_7 1 rfl ?_
    refine r_if_lt hC (tgt := 26) dX10_isVillage_8 (by decide) (fun c3 => ?_) (fun c3 => ?_)
    · refine r_iconst hC (v := (0)) dX10_isVillage_26 (by decide) (by decide) (fun x4_ e4 t4 => ?_)
      exact r_iret hC hQ hlk hr (by rw [e4]; rfl) (by decide) (by decide) dX10_isVillage_27 ⟨_, rfl, rfl, (by first | exact Or.inl ⟨hb1, by omega⟩ | exact Or.inr ⟨_, hb1, by omega⟩)⟩
    · refine r_iload_n hC dX10_isVillage_11 1 rfl ?_
      refine r_aload_n hC dX10_isVillage_12 0 rfl ?_
      refine r_getr hC 3 (ci := 10) rfl u10_in (by decide) mT_4_238 dX10_isVillage_13 ka0 rfl rfl hb1 ?_
      refine r_getiN hC 8 (ci := 9) rfl u9_in (by decide) nF_8 dX10_isVillage_16 hk1 rfl rfl (fun x5_ e5 => ?_)
      have r5 := hs.rng hk1 rfl e5
      have f5 : x5_.toInt = (I a1_ 8).toInt := by rw [e5]
      refine r_icmp_ge hC (tgt := 26) dX10_isVillage_19 (by decide) (fun c6 => ?_) (fun c6 => ?_)
      · refine r_iconst hC (v := (0)) dX10_isVillage_26 (by decide) (by decide) (fun x7_ e7 t7 => ?_)
        exact r_iret hC hQ hlk hr (by rw [e7]; rfl) (by decide) (by decide) dX10_isVillage_27 ⟨_, rfl, rfl, (by first | exact Or.inl ⟨hb1, by omega⟩ | exact Or.inr ⟨_, hb1, by omega⟩)⟩
      · refine r_iconst hC (v := (1)) dX10_isVillage_22 (by decide) (by decide) (fun x8_ e8 t8 => ?_)
        refine r_goto hC (tgt := 27) dX10_isVillage_23 (by decide) ?_
        exact r_iret hC hQ hlk hr (by rw [e8]; rfl) (by decide) (by decide) dX10_isVillage_27 ⟨_, rfl, rfl, (by first | exact Or.inl ⟨hb1, by omega⟩ | exact Or.inr ⟨_, hb1, by omega⟩)⟩
set_option maxHeartbeats 4000000 in
set_option maxRecDepth 100000 in
theorem f_X10_isStruck (g : GG) (l : Launch) (K len : Nat → Nat) (I : Nat → Nat → Int32) (J : Nat → Nat → Int64) (R : Nat → Nat → Option Nat) (hs : Sf K len I R) (a0 : Nat) (ka0 : K a0 = 11) (x1 : Int32) (hm : Nat) (hbm : R a0 3 = some hm) (khm : K hm = 10) (lr : Nat) (hlr : R a0 15 = some lr) (klr : K lr = 85) (llr : len lr = 60) (sr : Nat) (hsr : R a0 16 = some sr) (ksr : K sr = 86) (lsr : len sr = 300) (ir : Nat) (hir : R a0 17 = some ir) (kir : K ir = 87) (lir : len ir = 300) (wr : Nat) (hwr : R a0 18 = some wr) (kwr : K wr = 88) (lwr : len wr = 300) (D : DD) (E : Nat → Nat → Int) (mc : MC D E a0 hm I R) (s : Nat) (hsk : (s : Int) < D 0 7) (mo : MO D s (LP1 D) 1 a0 lr sr ir wr I) (p0 : 0 ≤ x1.toInt) (p1 : x1.toInt < D 0 8) : Ct g l yX10_isStruck cX10_isStruck 2 (Option.some Jvm.ClassFile.FieldType.boolean) rmX10_isStruck [.ref a0, .int x1] (K, len, I, J, R) (pI0 (K, len, I, J, R) (fun r => (r.toInt = 1 ∧ (GV D s (Ad D s (LP1 D) 1) 60 ≠ -2 ∧ D 10 x1.toInt.toNat ≤ Wq D s (Ad D s (LP1 D) 1) (LP1 D) 60) ∨ r.toInt = 0 ∧ ¬ (GV D s (Ad D s (LP1 D) 1) 60 ≠ -2 ∧ D 10 x1.toInt.toNat ≤ Wq D s (Ad D s (LP1 D) 1) (LP1 D) 60)))) := by
  refine Ct_intro (by decide +kernel) (Nat.le_of_ble_eq_true rfl) (fun X hC hL hKK hNm hr hlk hQ => ?_)
  subst hL
  have hC : Cx g X cX10_isStruck "HillTapModel" 2 rmX10_isStruck := hC
  show P g X 2 0 [(0, .ref a0), (1, .int x1)] [] 0 0 (K, len, I, J, R)
  have hF : Fr K [] I I := Fr.refl
  obtain ⟨⟨hJ, hR6, hD7⟩, rwm, ⟨hd1, hd2, hd3, hd4, hd5, hd7, hd8, hd9⟩, -⟩ := id mc
  have hcx := CM_x hs khm
  have b5 := hs.rng khm (k := 3) rfl (x := I hm 3) rfl
  have b7 := hs.rng khm (k := 7) rfl (x := I hm 7) rfl
  have b8 := hs.rng khm (k := 8) rfl (x := I hm 8) rfl
  have b20 := hs.rng ka0 (k := 20) rfl (x := I a0 20) rfl
  have b_x1 := ti_rng x1
  refine r_aload_n hC dX10_isStruck_0 0 rfl ?_
  refine r_geti hC 19 (ci := 10) rfl u10_in (by decide) mT_5_14 dX10_isStruck_1 ka0 rfl rfl (fun x1_ e1 => ?_)
  have r1 := hs.rng ka0 rfl e1
  have q1 := hs.gone ka0 e1
  have f1 : x1_.toInt = (I a0 19).toInt := by rw [e1]
  have q1g : x1_.toInt = GV D s (Ad D s (LP1 D) 1) 60 := by rw [e1]; exact mo.2.2
  refine r_bipush hC (v := (-2)) dX10_isStruck_4 (by decide) (by decide) (fun x2_ e2 t2 => ?_)
  refine r_icmp_eq hC (tgt := 29) dX10_isStruck_6 (by decide) (fun c3 => ?_) (fun c3 => ?_)
  · refine r_iconst hC (v := (0)) dX10_isStruck_29 (by decide) (by decide) (fun x4_ e4 t4 => ?_)
    exact r_iret hC hQ hlk hr (by rw [e4]; rfl) (by decide) (by decide) dX10_isStruck_30 ⟨_, rfl, rfl, (by omega)⟩
  · refine r_aload_n hC dX10_isStruck_9 0 rfl ?_
    refine r_getr hC 3 (ci := 10) rfl u10_in (by decide) mT_4_238 dX10_isStruck_10 ka0 rfl rfl hbm ?_
    obtain ⟨a5_, hb5, hk5, hn5⟩ := hs.row khm 20 77 4 (by decide) (by decide)
    refine r_getrN hC 20 (ci := 9) rfl u9_in (by decide) nF_20 dX10_isStruck_13 khm rfl rfl hb5 ?_
    refine r_iload_n hC dX10_isStruck_16 1 rfl ?_
    refine x_iaload hC hk5 hn5 (by decide) rfl rfl dX10_isStruck_17 (by omega) (by omega) (fun x6_ e6 => ?_)
    have q6 : x6_.toInt = D 10 x1.toInt.toNat := by rw [e6, clx (i := x1) rfl (by omega)]; exact mc.hrw (r := 10) (by decide) (by decide) hb5 (by rw [cnt_10]; omega) (fun h9 => absurd h9 (by decide))
    have jb6 : 0 ≤ D 10 x1.toInt.toNat ∧ D 10 x1.toInt.toNat ≤ 999 := hJ.2.2.2.1 10 _ (by decide) (by decide) (by decide)
    refine r_aload_n hC dX10_isStruck_18 0 rfl ?_
    refine r_callV hC (As := []) (rest := [.int x6_]) (ci := 10) (f_X10_waveOf g (xL X) K len I J R hs a0 ka0 hm hbm khm lr hlr klr llr sr hsr ksr lsr ir hir kir lir wr hwr kwr lwr D E mc s hsk mo) mT_6_163 mT_1_10 mT_6_160 mT_6_162 mP_80 okX10_waveOf ⟨by decide, by decide⟩ rfl (by show kO (K a0) = _; rw [ka0]; rfl) rfl rfl (Nat.le_of_ble_eq_true rfl) ⟨by decide, by decide⟩ dX10_isStruck_19 (aI0 (F := fun st M => P g X 2 22 [(0, .ref a0), (1, .int x1)] st _ _ M) (M := (K, len, I, J, R)) fun x7_ h7 => ?_)
    have k7_0 := h7
    clear h7
    show P g X 2 22 [(0, .ref a0), (1, .int x1)] [.int x7_, .int x6_] _ _ (K, len, I, J, R)
    refine r_icmp_gt hC (tgt := 29) dX10_isStruck_22 (by decide) (fun c8 => ?_) (fun c8 => ?_)
    · refine r_iconst hC (v := (0)) dX10_isStruck_29 (by decide) (by decide) (fun x9_ e9 t9 => ?_)
      exact r_iret hC hQ hlk hr (by rw [e9]; rfl) (by decide) (by decide) dX10_isStruck_30 ⟨_, rfl, rfl, (by omega)⟩
    · refine r_iconst hC (v := (1)) dX10_isStruck_25 (by decide) (by decide) (fun x10_ e10 t10 => ?_)
      refine r_goto hC (tgt := 30) dX10_isStruck_26 (by decide) ?_
      exact r_iret hC hQ hlk hr (by rw [e10]; rfl) (by decide) (by decide) dX10_isStruck_30 ⟨_, rfl, rfl, (by omega)⟩
