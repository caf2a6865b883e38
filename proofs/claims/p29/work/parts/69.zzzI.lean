def Dd (D : DD) (s : Nat) (day : Int) : Nat → Int
  | 0 => 0
  | v + 1 => Dd D s day v + (if (GV D s (Ad D s (LP1 D) 1) 60 ≠ -2 ∧ D 10 v ≤ Wq D s (Ad D s (LP1 D) 1) (LP1 D) 60) ∧ GV D s (Ad D s (LP1 D) 1) 60 < day + D 12 v then D 11 v else 0)
section ANS1
variable {D : DD} {s n : Nat} {day a b off most i j best v : Int}
theorem Dd_t (h : (GV D s (Ad D s (LP1 D) 1) 60 ≠ -2 ∧ D 10 n ≤ Wq D s (Ad D s (LP1 D) 1) (LP1 D) 60) ∧ GV D s (Ad D s (LP1 D) 1) 60 < day + D 12 n) : Dd D s day (n + 1) = Dd D s day n + D 11 n := by simp only [Dd]; rw [if_pos h]
theorem Dd_n (h : ¬ ((GV D s (Ad D s (LP1 D) 1) 60 ≠ -2 ∧ D 10 n ≤ Wq D s (Ad D s (LP1 D) 1) (LP1 D) 60) ∧ GV D s (Ad D s (LP1 D) 1) 60 < day + D 12 n)) : Dd D s day (n + 1) = Dd D s day n := by simp only [Dd]; rw [if_neg h]; omega
end ANS1
set_option maxHeartbeats 4000000 in
set_option maxRecDepth 100000 in
theorem f_X10_isStruck (g : GG) (l : Launch) (K len : Nat → Nat) (I : Nat → Nat → Int32) (J : Nat → Nat → Int64) (R : Nat → Nat → Option Nat) (hs : Sf K len I R) (a0 : Nat) (ka0 : K a0 = 11) (x1 : Int32) (hm : Nat) (hbm : R a0 3 = some hm) (khm : K hm = 10) (lr : Nat) (hlr : R a0 15 = some lr) (klr : K lr = 85) (llr : len lr = 60) (sr : Nat) (hsr : R a0 16 = some sr) (ksr : K sr = 86) (lsr : len sr = 300) (ir : Nat) (hir : R a0 17 = some ir) (kir : K ir = 87) (lir : len ir = 300) (wr : Nat) (hwr : R a0 18 = some wr) (kwr : K wr = 88) (lwr : len wr = 300) (D : DD) (E : Nat → Nat → Int) (mc : MC D E a0 hm I R) (s : Nat) (hsk : (s : Int) < D 0 7) (mo : MO D s (LP1 D) 1 a0 lr sr ir wr I) (p0 : 0 ≤ x1.toInt) (p1 : x1.toInt < D 0 8) : Ct g l yX10_isStruck cX10_isStruck 2 (Option.some Jvm.ClassFile.FieldType.boolean) rmX10_isStruck [.ref a0, .int x1] (K, len, I, J, R) (pI0 (K, len, I, J, R) (fun r => (r.toInt = 1 ∧ (GV D s (Ad D s (LP1 D) 1) 60 ≠ -2 ∧ D 10 x1.toInt.toNat ≤ Wq D s (Ad D s (LP1 D) 1) (LP1 D) 60) ∨ r.toInt = 0 ∧ ¬ (GV D s (Ad D s (LP1 D) 1) 60 ≠ -2 ∧ D 10 x1.toInt.toNat ≤ Wq D s (Ad D s (LP1 D) 1) (LP1 D) 60)))) := by
  refine Ct_intro (by decide +kernel) (Nat.le_of_ble_eq_true rfl) (fun X hC hL hKK hNm hr hlk hQ => ?_)
  subst hL
  have hC : Cx g X cX10_isStruck "HillTapModel" 2 rmX10_isStruck := hC
  show P g X 2 0 [(0, .ref a0), (1, .int x1)] [] 0 0 (K, len, I, J, R)
  have hF : Fr K [] I I := Fr.refl
  obtain ⟨⟨hJ, hR6, hD7⟩, rwm, ⟨hd1, hd2, hd3, hd4, hd5, hd7, hd8, hd9⟩, -⟩ := id mc
  have hcx := CM_x hs khm
  have b5 := hs.rng khm (k := 3) rfl (x := I hm 3) rfl
  have b7 := hs.rng khm (k := 7) rfl (x := I hm 7) rfl
  have b8 := hs.rng khm (k := 8) rfl (x := I hm 8) rfl
  have b20 := hs.rng ka0 (k := 20) rfl (x := I a0 20) rfl
  have b_x1 := ti_rng x1
  refine r_aload_n hC dX10_isStruck_0 0 rfl ?_
  refine r_geti hC 19 (ci := 10) rfl u10_in (by decide) mT_5_14 dX10_isStruck_1 ka0 rfl rfl (fun x1_ e1 => ?_)
  have r1 := hs.rng ka0 rfl e1
  have q1 := hs.gone ka0 e1
  have f1 : x1_.toInt = (I a0 19).toInt := by rw [e1]
  have q1g : x1_.toInt = GV D s (Ad D s (LP1 D) 1) 60 := by rw [e1]; exact mo.2.2
  refine r_bipush hC (v := (-2)) dX10_isStruck_4 (by decide) (by decide) (fun x2_ e2 t2 => ?_)
  refine r_icmp_eq hC (tgt := 29) dX10_isStruck_6 (by decide) (fun c3 => ?_) (fun c3 => ?_)
  · refine r_iconst hC (v := (0)) dX10_isStruck_29 (by decide) (by decide) (fun x4_ e4 t4 => ?_)
    exact r_iret hC hQ hlk hr (by rw [e4]; rfl) (by decide) (by decide) dX10_isStruck_30 ⟨_, rfl, rfl, (by omega)⟩
  · refine r_aload_n hC dX10_isStruck_9 0 rfl ?_
    refine r_getr hC 3 (ci := 10) rfl u10_in (by decide) mT_4_238 dX10_isStruck_10 ka0 rfl rfl hbm ?_
    obtain ⟨a5_, hb5, hk5, hn5⟩ := hs.row khm 20 77 4 (by decide) (by decide)
    refine r_getrN hC 20 (ci := 9) rfl u9_in (by decide) nF_20 dX10_isStruck_13 khm rfl rfl hb5 ?_
    refine r_iload_n hC dX10_isStruck_16 1 rfl ?_
    refine x_iaload hC hk5 hn5 (by decide) rfl rfl dX10_isStruck_17 (by omega) (by omega) (fun x6_ e6 => ?_)
    have q6 : x6_.toInt = D 10 x1.toInt.toNat := by rw [e6, clx (i := x1) rfl (by omega)]; exact mc.hrw (r := 10) (by decide) (by decide) hb5 (by rw [cnt_10]; omega) (fun h9 => absurd h9 (by decide))
    have jb6 : 0 ≤ D 10 x1.toInt.toNat ∧ D 10 x1.toInt.toNat ≤ 999 := hJ.2.2.2.1 10 _ (by decide) (by decide) (by decide)
    refine r_aload_n hC dX10_isStruck_18 0 rfl ?_
    refine r_callV hC (As := []) (rest := [.int x6_]) (ci := 10) (f_X10_waveOf g (xL X) K len I J R hs a0 ka0 hm hbm khm lr hlr klr llr sr hsr ksr lsr ir hir kir lir wr hwr kwr lwr D E mc s hsk mo) mT_6_163 mT_1_10 mT_6_160 mT_6_162 mP_80 okX10_waveOf ⟨by decide, by decide⟩ rfl (by show kO (K a0) = _; rw [ka0]; rfl) rfl rfl (Nat.le_of_ble_eq_true rfl) ⟨by decide, by decide⟩ dX10_isStruck_19 (aI0 (F := fun st M => P g X 2 22 [(0, .ref a0), (1, .int x1)] st _ _ M) (M := (K, len, I, J, R)) fun x7_ h7 => ?_)
    have k7_0 := h7
    clear h7
    show P g X 2 22 [(0, .ref a0), (1, .int x1)] [.int x7_, .int x6_] _ _ (K, len, I, J, R)
    refine r_icmp_gt hC (tgt := 29) dX10_isStruck_22 (by decide) (fun c8 => ?_) (fun c8 => ?_)
    · refine r_iconst hC (v := (0)) dX10_isStruck_29 (by decide) (by decide) (fun x9_ e9 t9 => ?_)
      exact r_iret hC hQ hlk hr (by rw [e9]; rfl) (by decide) (by decide) dX10_isStruck_30 ⟨_, rfl, rfl, (by omega)⟩
    · refine r_iconst hC (v := (1)) dX10_isStruck_25 (by decide) (by decide) (fun x10_ e10 t10 => ?_)
      refine r_goto hC (tgt := 30) dX10_isStruck_26 (by decide) ?_
      exact r_iret hC hQ hlk hr (by rw [e10]; rfl) (by decide) (by decide) dX10_isStruck_30 ⟨_, rfl, rfl, (by omega)⟩
set_option maxHeartbeats 4000000 in
set_option maxRecDepth 100000 in
theorem a_X8_dead (g : GG) (l : Launch) (K len : Nat → Nat) (I : Nat → Nat → Int32) (J : Nat → Nat → Int64) (R : Nat → Nat → Option Nat) (hs : Sf K len I R) (a0 : Nat) (ka0 : K a0 = 9) (x1 : Int32) (x2 : Int32) (h : Nat) (hh : R a0 2 = some h) (kh : K h = 2) (lk : Nat) (hlk2 : R h 0 = some lk) (klk : K lk = 3) (rd : Nat) (hrd : R a0 9 = some rd) (krd : K rd = 4) (lv : Nat) (hlv : R a0 4 = some lv) (klv : K lv = 41) (llv : len lv = 60) (kn : Nat) (hkn : R a0 6 = some kn) (kkn : K kn = 43) (lkn : len kn = 6) (cr : Nat) (hcr : R a0 5 = some cr) (kcr1 : K cr = 44) (lcr : len cr = 6) (hu : UU K R) (D : DD) (E : Nat → Nat → Int) (hc : KC D E a0 h lk rd I R) : Ct g l yX8_dead cX8_dead 6 (Option.some Jvm.ClassFile.FieldType.int) rmX8_dead [.ref a0, .int x1, .int x2] (K, len, I, J, R) (pI1 (K, len, I, J, R) (fun r I' => Sf K len I' R ∧ Fr K [(1, 5), (1, 6), (9, 12), (43, 999), (50, 999), (51, 999), (52, 999), (53, 999), (54, 999)] I I' ∧ (KC D E a0 h lk rd I' R) ∧ (((0 ≤ x1.toInt ∧ x1.toInt < D 0 7) ∧ 0 ≤ x2.toInt ∧ x2.toInt ≤ 59) ∧ r.toInt = Dd D x1.toInt.toNat x2.toInt (D 0 8).toNat ∨ ¬ ((0 ≤ x1.toInt ∧ x1.toInt < D 0 7) ∧ 0 ≤ x2.toInt ∧ x2.toInt ≤ 59) ∧ r.toInt = -1) ∧ ((I' a0 12).toInt ≠ 4))) := by
  refine Ct_intro (by decide +kernel) (Nat.le_of_ble_eq_true rfl) (fun X hC hL hKK hNm hr hlk hQ => ?_)
  subst hL
  have hC : Cx g X cX8_dead "HillTap" 6 rmX8_dead := hC
  show P g X 6 0 [(0, .ref a0), (1, .int x1), (2, .int x2)] [] 0 0 (K, len, I, J, R)
  have hF : Fr K [(1, 5), (1, 6), (9, 12), (43, 999), (50, 999), (51, 999), (52, 999), (53, 999), (54, 999)] I I := Fr.refl
  have ka : KA a0 h lk rd K len R := ⟨⟨_, hs⟩, hu, ka0, kh, klk, krd⟩
  obtain ⟨sd1, sd2, sd3, sd4, sd5, sd7, sd8, sd9⟩ := id hc.2.1
  have d7b := hs.rng kh (k := 6) rfl (x := I h 6) rfl
  have d5b := hs.rng kh (k := 1) rfl (x := I h 1) rfl
  have d8b := hs.rng kh (k := 8) rfl (x := I h 8) rfl
  have b_x1 := ti_rng x1
  have b_x2 := ti_rng x2
  refine r_aload_n hC dX8_dead_0 0 rfl ?_
  refine r_iload_n hC dX8_dead_1 1 rfl ?_
  refine r_callV hC (As := [.int x1]) (rest := []) (ci := 8) (f_X8_isStory g (xL X) K len I J R hs a0 ka0 x1 h hh kh) mT_3_155 mT_1_1 mT_3_152 mT_3_154 mP_24 okX8_isStory ⟨by decide, by decide⟩ rfl (by show kO (K a0) = _; rw [ka0]; rfl) rfl rfl (Nat.le_of_ble_eq_true rfl) ⟨by decide, by decide⟩ dX8_dead_2 (aI0 (F := fun st M => P g X 6 5 [(0, .ref a0), (1, .int x1), (2, .int x2)] st _ _ M) (M := (K, len, I, J, R)) fun x1_ h1 => ?_)
  have k1_0 := h1
  clear h1
  show P g X 6 5 [(0, .ref a0), (1, .int x1), (2, .int x2)] [.int x1_] _ _ (K, len, I, J, R)
  rcases k1_0 with ⟨hr1, hw1⟩ | ⟨hr1, hw1⟩
  · refine r_if_eq hC (tgt := 15) dX8_dead_5 (by decide) (fun c2 => ?_) (fun c2 => ?_)
    · exfalso; omega
    refine r_iload_n hC dX8_dead_8 2 rfl ?_
    refine r_callS hC (As := [.int x2]) (rest := []) (f_X8_isDay g (xL X) K len I J R hs x2) mT_3_134 mT_1_1 mT_3_132 mT_3_133 okX8_isDay ⟨by decide, by decide⟩ rfl rfl (Nat.le_of_ble_eq_true rfl) ⟨by decide, by decide⟩ dX8_dead_9 (aI0 (F := fun st M => P g X 6 12 [(0, .ref a0), (1, .int x1), (2, .int x2)] st _ _ M) (M := (K, len, I, J, R)) fun x3_ h3 => ?_)
    have k3_0 := h3
    clear h3
    show P g X 6 12 [(0, .ref a0), (1, .int x1), (2, .int x2)] [.int x3_] _ _ (K, len, I, J, R)
    rcases k3_0 with ⟨hr3, hw3⟩ | ⟨hr3, hw3⟩
    · refine r_if_ne hC (tgt := 21) dX8_dead_12 (by decide) (fun c4 => ?_) (fun c4 => ?_)
      rotate_left
      · exfalso; omega
      refine r_aload_n hC dX8_dead_21 0 rfl ?_
      refine r_iload_n hC dX8_dead_22 1 rfl ?_
      refine r_callV hC (As := [.int x1]) (rest := []) (ci := 8) (f_X8_courseOf g (xL X) K len I J R hs a0 ka0 x1 h hh kh lk hlk2 klk rd hrd krd lv hlv klv llv kn hkn kkn lkn cr hcr kcr1 lcr hu D E hc (by omega) (by omega)) mT_3_163 mT_1_1 mT_3_160 mT_3_162 mP_26 okX8_courseOf ⟨by decide, by decide⟩ rfl (by show kO (K a0) = _; rw [ka0]; rfl) rfl rfl (Nat.le_of_ble_eq_true rfl) ⟨by decide, by decide⟩ dX8_dead_23 (aR1 (F := fun st M => P g X 6 26 [(0, .ref a0), (1, .int x1), (2, .int x2)] st _ _ M) (M := (K, len, I, J, R)) fun a5_ I5 h5 => ?_)
      obtain ⟨hs5, hf5, k5_0, k5_1, k5_2, k5_3, k5_4⟩ := h5
      show P g X 6 26 [(0, .ref a0), (1, .int x1), (2, .int x2)] [.ref a5_] _ _ (K, len, I5, J, R)
      have hF5 : Fr K [(1, 5), (1, 6), (9, 12), (43, 999), (50, 999), (51, 999), (52, 999), (53, 999), (54, 999)] I I5 := hF.trans hf5 rfl rfl
      refine r_geti hC 5 (ci := 0) rfl u0_in (by decide) mT_2_36 dX8_dead_26 k5_0 rfl rfl (fun x6_ e6 => ?_)
      have f6 : x6_.toInt = (I5 a5_ 5).toInt := by rw [e6]
      have q6 : x6_.toInt = GV D x1.toInt.toNat (Ad D x1.toInt.toNat (LP1 D) 1) 60 := by rw [e6]; exact k5_3.2.1
      refine r_istore_n hC (lv' := [(3, .int x6_), (0, .ref a0), (1, .int x1), (2, .int x2)]) dX8_dead_29 (by decide) rfl ?_
      refine r_iconst hC (v := (0)) dX8_dead_30 (by decide) (by decide) (fun x7_ e7 t7 => ?_)
      refine r_istore hC (lv' := [(4, .int x7_), (3, .int x6_), (0, .ref a0), (1, .int x1), (2, .int x2)]) dX8_dead_31 (by decide) rfl ?_
      refine r_iconst hC (v := (0)) dX8_dead_33 (by decide) (by decide) (fun x8_ e8 t8 => ?_)
      refine r_istore hC (lv' := [(5, .int x8_), (4, .int x7_), (3, .int x6_), (0, .ref a0), (1, .int x1), (2, .int x2)]) dX8_dead_34 (by decide) rfl ?_
      have LP9 : ∀ (mu : Nat) (x9_5 : Int32) (x9_4 : Int32) (I9 : Nat → Nat → Int32) (hs9 : Sf K len I9 R) (hF9 : Fr K [(1, 5), (1, 6), (9, 12), (43, 999), (50, 999), (51, 999), (52, 999), (53, 999), (54, 999)] I I9) (v9_0 : 0 ≤ x9_5.toInt) (v9_1 : x9_5.toInt ≤ D 0 8) (v9_2 : x9_4.toInt = Dd D x1.toInt.toNat x2.toInt x9_5.toInt.toNat) (v9_3 : 0 ≤ x9_4.toInt ∧ x9_4.toInt ≤ 999 * x9_5.toInt) (v9_4 : KC D E a0 h lk rd I9 R), (4 - x9_5.toInt).toNat = mu → P g X 6 36 [(0, .ref a0), (1, .int x1), (2, .int x2), (3, .int x6_), (4, .int x9_4), (5, .int x9_5)] [] 0 0 (K, len, I9, J, R) := by
        intro mu; induction mu using Nat.strongRecOn with | ind mu ih => ?_
        intro x9_5 x9_4 I9 hs9 hF9 v9_0 v9_1 v9_2 v9_3 v9_4 hmu
        have ih9 := ih
        clear ih
        have hmu9 := hmu
        clear hmu
        refine r_iload hC dX8_dead_36 5 rfl ?_
        refine r_aload_n hC dX8_dead_38 0 rfl ?_
        refine r_getr hC 2 (ci := 8) rfl u8_in (by decide) mT_2_80 dX8_dead_39 ka0 rfl rfl hh ?_
        refine r_geti hC 8 (ci := 1) rfl u1_in (by decide) mT_1_208 dX8_dead_42 kh rfl rfl (fun x10_ e10 => ?_)
        have r10 := hs9.rng kh rfl e10
        have f10 : x10_.toInt = (I9 h 8).toInt := by rw [e10]
        have sc10 : x10_.toInt = D 0 8 := by rw [e10]; exact v9_4.2.1.2.2.2.2.2.2.1
        refine r_icmp_ge hC (tgt := 95) dX8_dead_45 (by decide) (fun c11 => ?_) (fun c11 => ?_)
        · refine r_aload_n hC dX8_dead_95 0 rfl ?_
          refine r_iload hC dX8_dead_96 4 rfl ?_
          have lqd : x9_4.toInt = Dd D x1.toInt.toNat x2.toInt (D 0 8).toNat := by rw [show (D 0 8).toNat = x9_5.toInt.toNat by omega]; exact v9_2
          refine r_callV hC (As := [.int x9_4]) (rest := []) (ci := 8) (c_X8_answer g (xL X) K len I9 J R hs9 a0 ka0 x9_4) mT_3_115 mT_1_1 mT_3_112 mT_3_114 mP_21 okX8_answer ⟨by decide, by decide⟩ rfl (by show kO (K a0) = _; rw [ka0]; rfl) rfl rfl (Nat.le_of_ble_eq_true rfl) ⟨by decide, by decide⟩ dX8_dead_98 (aI1 (F := fun st M => P g X 6 101 [(0, .ref a0), (1, .int x1), (2, .int x2), (3, .int x6_), (4, .int x9_4), (5, .int x9_5)] st _ _ M) (M := (K, len, I9, J, R)) fun x12_ I12 h12 => ?_)
          obtain ⟨hs12, hf12, k12_0, k12_1⟩ := h12
          show P g X 6 101 [(0, .ref a0), (1, .int x1), (2, .int x2), (3, .int x6_), (4, .int x9_4), (5, .int x9_5)] [.int x12_] _ _ (K, len, I12, J, R)
          have hF12 : Fr K [(1, 5), (1, 6), (9, 12), (43, 999), (50, 999), (51, 999), (52, 999), (53, 999), (54, 999)] I I12 := hF9.trans hf12 rfl rfl
          have hc12 := v9_4.mv ka hf12 rfl
          exact r_iret hC hQ hlk hr rfl (by decide) (by decide) dX8_dead_101 ⟨_, _, rfl, rfl, ⟨hs12, hF12, (by exact hc12), (by first | exact Or.inr ⟨by omega, by omega⟩ | exact Or.inl ⟨by omega, (congrArg Int32.toInt k12_0).trans lqd⟩), (by omega)⟩⟩
        · refine r_aload_n hC dX8_dead_48 0 rfl ?_
          refine r_iload_n hC dX8_dead_49 1 rfl ?_
          refine r_iload hC dX8_dead_50 5 rfl ?_
          refine r_callV hC (As := [.int x1, .int x9_5]) (rest := []) (ci := 8) (f_X8_strikes g (xL X) K len I9 J R hs9 a0 ka0 x1 x9_5 h hh kh lk hlk2 klk rd hrd krd lv hlv klv llv kn hkn kkn lkn cr hcr kcr1 lcr hu D E v9_4 (by omega) (by omega) (by omega) (by omega)) mT_4_123 mT_1_1 mT_4_120 mT_4_122 mP_46 okX8_strikes ⟨by decide, by decide⟩ rfl (by show kO (K a0) = _; rw [ka0]; rfl) rfl rfl (Nat.le_of_ble_eq_true rfl) ⟨by decide, by decide⟩ dX8_dead_52 (aI1 (F := fun st M => P g X 6 55 [(0, .ref a0), (1, .int x1), (2, .int x2), (3, .int x6_), (4, .int x9_4), (5, .int x9_5)] st _ _ M) (M := (K, len, I9, J, R)) fun x13_ I13 h13 => ?_)
          obtain ⟨hs13, hf13, k13_0, k13_1⟩ := h13
          show P g X 6 55 [(0, .ref a0), (1, .int x1), (2, .int x2), (3, .int x6_), (4, .int x9_4), (5, .int x9_5)] [.int x13_] _ _ (K, len, I13, J, R)
          have hF13 : Fr K [(1, 5), (1, 6), (9, 12), (43, 999), (50, 999), (51, 999), (52, 999), (53, 999), (54, 999)] I I13 := hF9.trans hf13 rfl rfl
          refine r_if_eq hC (tgt := 89) dX8_dead_55 (by decide) (fun c14 => ?_) (fun c14 => ?_)
          · obtain ⟨x15_, e15⟩ : ∃ z : Int32, z = x9_5 + Int32.ofInt (1) := ⟨_, rfl⟩
            refine r_iinc hC (j := 5) (v := x15_) (lv' := [(5, .int x15_), (0, .ref a0), (1, .int x1), (2, .int x2), (3, .int x6_), (4, .int x9_4)]) dX8_dead_89 rfl (by rw [e15]) (by decide) rfl ?_
            try have t15 : x15_.toInt = x9_5.toInt + (1) := by rw [e15]; exact (ti_add (b := Int32.ofInt (1)) (by show _ ≤ _ + (1 : Int); omega) (by show _ + (1 : Int) ≤ _; omega))
            refine r_goto hC (tgt := 36) dX8_dead_92 (by decide) ?_
            refine r_sub [1, 2, 3, 4, 5, 0] rfl ?_
            exact ih9 ((4 - x15_.toInt).toNat) (by omega) x15_ x9_4 I13 hs13 hF13 (by omega) (by omega) (by first | (rw [show x15_.toInt.toNat = 0 by omega]; show _ = (0 : Int); omega) | (rw [show x15_.toInt.toNat = x9_5.toInt.toNat + 1 by omega, Dd_t (by omega)]; omega) | (rw [show x15_.toInt.toNat = x9_5.toInt.toNat + 1 by omega, Dd_n (by omega)]; omega)) (by omega) (by exact k13_0) rfl
          · refine r_iload_n hC dX8_dead_58 2 rfl ?_
            refine r_aload_n hC dX8_dead_59 0 rfl ?_
            refine r_getr hC 2 (ci := 8) rfl u8_in (by decide) mT_2_80 dX8_dead_60 ka0 rfl rfl hh ?_
            obtain ⟨a16_, hb16, hk16, hn16⟩ := hs13.row kh 11 60 4 (by decide) (by decide)
            refine r_getr hC 11 (ci := 1) rfl u1_in (by decide) mT_1_217 dX8_dead_63 kh rfl rfl hb16 ?_
            refine r_iload hC dX8_dead_66 5 rfl ?_
            refine x_iaload hC hk16 hn16 (by decide) rfl rfl dX8_dead_68 (by omega) (by omega) (fun x17_ e17 => ?_)
            have q17 : x17_.toInt = D 12 x9_5.toInt.toNat := by rw [e17, clx (i := x9_5) rfl (by omega)]; exact k13_0.1 12 _ _ _ (cCt (r := 12) rfl hb16) (by rw [cnt_12]; omega) (fun h9 => absurd h9 (by decide))
            have jb17 : 0 ≤ D 12 x9_5.toInt.toNat ∧ D 12 x9_5.toInt.toNat ≤ 30 := ((k13_0.2.2.1 (by omega)).1).2.2.2.1 12 _ (by decide) (by decide) (by decide)
            refine r_iadd hC dX8_dead_69 (fun x18_ e18 => ?_)
            try have t18 : x18_.toInt = x2.toInt + x17_.toInt := by rw [e18]; exact ti_add (by omega) (by omega)
            refine r_iload_n hC dX8_dead_70 3 rfl ?_
            refine r_icmp_le hC (tgt := 89) dX8_dead_71 (by decide) (fun c19 => ?_) (fun c19 => ?_)
            · obtain ⟨x20_, e20⟩ : ∃ z : Int32, z = x9_5 + Int32.ofInt (1) := ⟨_, rfl⟩
              refine r_iinc hC (j := 5) (v := x20_) (lv' := [(5, .int x20_), (0, .ref a0), (1, .int x1), (2, .int x2), (3, .int x6_), (4, .int x9_4)]) dX8_dead_89 rfl (by rw [e20]) (by decide) rfl ?_
              try have t20 : x20_.toInt = x9_5.toInt + (1) := by rw [e20]; exact (ti_add (b := Int32.ofInt (1)) (by show _ ≤ _ + (1 : Int); omega) (by show _ + (1 : Int) ≤ _; omega))
              refine r_goto hC (tgt := 36) dX8_dead_92 (by decide) ?_
              refine r_sub [1, 2, 3, 4, 5, 0] rfl ?_
              exact ih9 ((4 - x20_.toInt).toNat) (by omega) x20_ x9_4 I13 hs13 hF13 (by omega) (by omega) (by first | (rw [show x20_.toInt.toNat = 0 by omega]; show _ = (0 : Int); omega) | (rw [show x20_.toInt.toNat = x9_5.toInt.toNat + 1 by omega, Dd_t (by omega)]; omega) | (rw [show x20_.toInt.toNat = x9_5.toInt.toNat + 1 by omega, Dd_n (by omega)]; omega)) (by omega) (by exact k13_0) rfl
            · refine r_iload hC dX8_dead_74 4 rfl ?_
              refine r_aload_n hC dX8_dead_76 0 rfl ?_
              refine r_getr hC 2 (ci := 8) rfl u8_in (by decide) mT_2_80 dX8_dead_77 ka0 rfl rfl hh ?_
              obtain ⟨a21_, hb21, hk21, hn21⟩ := hs13.row kh 10 59 4 (by decide) (by decide)
              refine r_getr hC 10 (ci := 1) rfl u1_in (by decide) mT_1_214 dX8_dead_80 kh rfl rfl hb21 ?_
              refine r_iload hC dX8_dead_83 5 rfl ?_
              refine x_iaload hC hk21 hn21 (by decide) rfl rfl dX8_dead_85 (by omega) (by omega) (fun x22_ e22 => ?_)
              have q22 : x22_.toInt = D 11 x9_5.toInt.toNat := by rw [e22, clx (i := x9_5) rfl (by omega)]; exact k13_0.1 11 _ _ _ (cCt (r := 11) rfl hb21) (by rw [cnt_11]; omega) (fun h9 => absurd h9 (by decide))
              have jb22 : 0 ≤ D 11 x9_5.toInt.toNat ∧ D 11 x9_5.toInt.toNat ≤ 999 := ((k13_0.2.2.1 (by omega)).1).2.2.2.1 11 _ (by decide) (by decide) (by decide)
              refine r_iadd hC dX8_dead_86 (fun x23_ e23 => ?_)
              try have t23 : x23_.toInt = x9_4.toInt + x22_.toInt := by rw [e23]; exact ti_add (by omega) (by omega)
              refine r_istore hC (lv' := [(4, .int x23_), (0, .ref a0), (1, .int x1), (2, .int x2), (3, .int x6_), (5, .int x9_5)]) dX8_dead_87 (by decide) rfl ?_
              obtain ⟨x24_, e24⟩ : ∃ z : Int32, z = x9_5 + Int32.ofInt (1) := ⟨_, rfl⟩
              refine r_iinc hC (j := 5) (v := x24_) (lv' := [(5, .int x24_), (4, .int x23_), (0, .ref a0), (1, .int x1), (2, .int x2), (3, .int x6_)]) dX8_dead_89 rfl (by rw [e24]) (by decide) rfl ?_
              try have t24 : x24_.toInt = x9_5.toInt + (1) := by rw [e24]; exact (ti_add (b := Int32.ofInt (1)) (by show _ ≤ _ + (1 : Int); omega) (by show _ + (1 : Int) ≤ _; omega))
              refine r_goto hC (tgt := 36) dX8_dead_92 (by decide) ?_
              refine r_sub [2, 3, 4, 5, 1, 0] rfl ?_
              exact ih9 ((4 - x24_.toInt).toNat) (by omega) x24_ x23_ I13 hs13 hF13 (by omega) (by omega) (by first | (rw [show x24_.toInt.toNat = 0 by omega]; show _ = (0 : Int); omega) | (rw [show x24_.toInt.toNat = x9_5.toInt.toNat + 1 by omega, Dd_t (by omega)]; omega) | (rw [show x24_.toInt.toNat = x9_5.toInt.toNat + 1 by omega, Dd_n (by omega)]; omega)) (by omega) (by exact k13_0) rfl
      refine r_sub [3, 4, 5, 2, 1, 0] rfl ?_
      exact LP9 _ x8_ x7_ I5 hs5 hF5 (by omega) (by omega) (by first | (rw [show x8_.toInt.toNat = 0 by omega]; show _ = (0 : Int); omega) | (rw [show x8_.toInt.toNat = x9_5.toInt.toNat + 1 by omega, Dd_t (by omega)]; omega) | (rw [show x8_.toInt.toNat = x9_5.toInt.toNat + 1 by omega, Dd_n (by omega)]; omega)) (by omega) (by exact k5_2) rfl
    · refine r_if_ne hC (tgt := 21) dX8_dead_12 (by decide) (fun c25 => ?_) (fun c25 => ?_)
      · exfalso; omega
      refine r_aload_n hC dX8_dead_15 0 rfl ?_
      refine r_iconst hC (v := (1)) dX8_dead_16 (by decide) (by decide) (fun x26_ e26 t26 => ?_)
      refine r_callV hC (As := [.int x26_]) (rest := []) (ci := 8) (c_X8_refuse g (xL X) K len I J R hs a0 ka0 x26_) mT_2_133 mT_1_1 mT_2_130 mT_2_132 mP_0 okX8_refuse ⟨by decide, by decide⟩ rfl (by show kO (K a0) = _; rw [ka0]; rfl) rfl rfl (Nat.le_of_ble_eq_true rfl) ⟨by decide, by decide⟩ dX8_dead_17 (aI1 (F := fun st M => P g X 6 20 [(0, .ref a0), (1, .int x1), (2, .int x2)] st _ _ M) (M := (K, len, I, J, R)) fun x27_ I27 h27 => ?_)
      obtain ⟨hs27, hf27, k27_0, k27_1⟩ := h27
      show P g X 6 20 [(0, .ref a0), (1, .int x1), (2, .int x2)] [.int x27_] _ _ (K, len, I27, J, R)
      have hF27 : Fr K [(1, 5), (1, 6), (9, 12), (43, 999), (50, 999), (51, 999), (52, 999), (53, 999), (54, 999)] I I27 := hF.trans hf27 rfl rfl
      have hc27 := hc.mv ka hf27 rfl
      exact r_iret hC hQ hlk hr rfl (by decide) (by decide) dX8_dead_20 ⟨_, _, rfl, rfl, ⟨hs27, hF27, (by exact hc27), (by first | exact Or.inr ⟨by omega, by omega⟩ | exact Or.inl ⟨by omega, (congrArg Int32.toInt k27_0).trans NOlq⟩), (by omega)⟩⟩
  · refine r_if_eq hC (tgt := 15) dX8_dead_5 (by decide) (fun c28 => ?_) (fun c28 => ?_)
    rotate_left
    · exfalso; omega
    refine r_aload_n hC dX8_dead_15 0 rfl ?_
    refine r_iconst hC (v := (1)) dX8_dead_16 (by decide) (by decide) (fun x29_ e29 t29 => ?_)
    refine r_callV hC (As := [.int x29_]) (rest := []) (ci := 8) (c_X8_refuse g (xL X) K len I J R hs a0 ka0 x29_) mT_2_133 mT_1_1 mT_2_130 mT_2_132 mP_0 okX8_refuse ⟨by decide, by decide⟩ rfl (by show kO (K a0) = _; rw [ka0]; rfl) rfl rfl (Nat.le_of_ble_eq_true rfl) ⟨by decide, by decide⟩ dX8_dead_17 (aI1 (F := fun st M => P g X 6 20 [(0, .ref a0), (1, .int x1), (2, .int x2)] st _ _ M) (M := (K, len, I, J, R)) fun x30_ I30 h30 => ?_)
    obtain ⟨hs30, hf30, k30_0, k30_1⟩ := h30
    show P g X 6 20 [(0, .ref a0), (1, .int x1), (2, .int x2)] [.int x30_] _ _ (K, len, I30, J, R)
    have hF30 : Fr K [(1, 5), (1, 6), (9, 12), (43, 999), (50, 999), (51, 999), (52, 999), (53, 999), (54, 999)] I I30 := hF.trans hf30 rfl rfl
    have hc30 := hc.mv ka hf30 rfl
    exact r_iret hC hQ hlk hr rfl (by decide) (by decide) dX8_dead_20 ⟨_, _, rfl, rfl, ⟨hs30, hF30, (by exact hc30), (by first | exact Or.inr ⟨by omega, by omega⟩ | exact Or.inl ⟨by omega, (congrArg Int32.toInt k30_0).trans NOlq⟩), (by omega)⟩⟩
set_option maxHeartbeats 4000000 in
set_option maxRecDepth 100000 in
theorem f_X10_dead (g : GG) (l : Launch) (K len : Nat → Nat) (I : Nat → Nat → Int32) (J : Nat → Nat → Int64) (R : Nat → Nat → Option Nat) (hs : Sf K len I R) (a0 : Nat) (ka0 : K a0 = 11) (x1 : Int32) (x2 : Int32) (D : DD) (E : Nat → Nat → Int) (hmx : ∀ hm, R a0 3 = some hm → MC D E a0 hm I R) : Ct g l yX10_dead cX10_dead 5 (Option.some Jvm.ClassFile.FieldType.int) rmX10_dead [.ref a0, .int x1, .int x2] (K, len, I, J, R) (pI1 (K, len, I, J, R) (fun r I' => Sf K len I' R ∧ Fr K [(11, 0), (11, 1), (11, 2), (11, 19), (85, 999), (86, 999), (87, 999), (88, 999)] I I' ∧ ((R a0 3 = none ∧ r.toInt = -1) ∨ (∃ hm, R a0 3 = some hm ∧ (((0 ≤ x1.toInt ∧ x1.toInt < D 0 7) ∧ 0 ≤ x2.toInt ∧ x2.toInt ≤ 59) ∧ r.toInt = Dd D x1.toInt.toNat x2.toInt (D 0 8).toNat ∨ ¬ ((0 ≤ x1.toInt ∧ x1.toInt < D 0 7) ∧ 0 ≤ x2.toInt ∧ x2.toInt ≤ 59) ∧ r.toInt = -1))) ∧ ((I' a0 2).toInt = -1))) := by
  refine Ct_intro (by decide +kernel) (Nat.le_of_ble_eq_true rfl) (fun X hC hL hKK hNm hr hlk hQ => ?_)
  subst hL
  have hC : Cx g X cX10_dead "HillTapModel" 5 rmX10_dead := hC
  show P g X 5 0 [(0, .ref a0), (1, .int x1), (2, .int x2)] [] 0 0 (K, len, I, J, R)
  have hF : Fr K [(11, 0), (11, 1), (11, 2), (11, 19), (85, 999), (86, 999), (87, 999), (88, 999)] I I := Fr.refl
  obtain ⟨lr, hlr, klr, llr⟩ := hs.row ka0 15 85 60 (by decide) (by decide)
  obtain ⟨sr, hsr, ksr, lsr⟩ := hs.row ka0 16 86 300 (by decide) (by decide)
  obtain ⟨ir, hir, kir, lir⟩ := hs.row ka0 17 87 300 (by decide) (by decide)
  obtain ⟨wr, hwr, kwr, lwr⟩ := hs.row ka0 18 88 300 (by decide) (by decide)
  have b_x1 := ti_rng x1
  have b_x2 := ti_rng x2
  rcases hs.2.1.2.2.1 a0 ka0 with hz | ⟨hm, hbm, khm⟩
  · refine r_aload_n hC dX10_dead_0 0 rfl ?_
    refine r_iconst hC (v := (0)) dX10_dead_1 (by decide) (by decide) (fun x1_ e1 t1 => ?_)
    refine r_puti hC 0 (ci := 10) rfl u10_in tyX10_ok nmX10 (by decide) mT_4_235 rfl rfl rfl dX10_dead_2 ka0 rfl rfl (fun I2 eI2 => ?_)
    have hs2 := hs.put0 eI2 ka0 rfl rfl rfl (by decide)
    have hF2 := hF.put eI2 ka0 rfl
    refine r_aload_n hC dX10_dead_5 0 rfl ?_
    refine r_iload_n hC dX10_dead_6 1 rfl ?_
    refine r_callV hC (As := [.int x1]) (rest := []) (ci := 10) (f_X10_isStory g (xL X) K len I2 J R hs2 a0 ka0 x1) mT_6_119 mT_1_10 mT_6_116 mT_6_118 mP_71 okX10_isStory ⟨by decide, by decide⟩ rfl (by show kO (K a0) = _; rw [ka0]; rfl) rfl rfl (Nat.le_of_ble_eq_true rfl) ⟨by decide, by decide⟩ dX10_dead_7 (aI0 (F := fun st M => P g X 5 10 [(0, .ref a0), (1, .int x1), (2, .int x2)] st _ _ M) (M := (K, len, I2, J, R)) fun x3_ h3 => ?_)
    have k3_0 := h3
    clear h3
    show P g X 5 10 [(0, .ref a0), (1, .int x1), (2, .int x2)] [.int x3_] _ _ (K, len, I2, J, R)
    have kq3 : x3_.toInt = 0 := by rcases k3_0 with ⟨z, y⟩ | ⟨hm9, z, y⟩; exact y; rw [hz] at z; cases z
    clear k3_0
    refine r_if_eq hC (tgt := 21) dX10_dead_10 (by decide) (fun c4 => ?_) (fun c4 => ?_)
    rotate_left
    · exfalso; omega
    refine r_aload_n hC dX10_dead_21 0 rfl ?_
    refine r_iconst hC (v := (1)) dX10_dead_22 (by decide) (by decide) (fun x5_ e5 t5 => ?_)
    refine r_callV hC (As := [.int x5_]) (rest := []) (ci := 10) (c_X10_refused g (xL X) K len I2 J R hs2 a0 ka0 x5_) mT_5_85 mT_1_10 mT_5_82 mT_5_84 mP_48 okX10_refused ⟨by decide, by decide⟩ rfl (by show kO (K a0) = _; rw [ka0]; rfl) rfl rfl (Nat.le_of_ble_eq_true rfl) ⟨by decide, by decide⟩ dX10_dead_23 (aI1 (F := fun st M => P g X 5 26 [(0, .ref a0), (1, .int x1), (2, .int x2)] st _ _ M) (M := (K, len, I2, J, R)) fun x6_ I6 h6 => ?_)
    obtain ⟨hs6, hf6, k6_0, k6_1, k6_2⟩ := h6
    show P g X 5 26 [(0, .ref a0), (1, .int x1), (2, .int x2)] [.int x6_] _ _ (K, len, I6, J, R)
    have hF6 : Fr K [(11, 0), (11, 1), (11, 2), (11, 19), (85, 999), (86, 999), (87, 999), (88, 999)] I I6 := hF2.trans hf6 rfl rfl
    exact r_iret hC hQ hlk hr rfl (by decide) (by decide) dX10_dead_26 ⟨_, _, rfl, rfl, ⟨hs6, hF6, (by first | exact Or.inl ⟨hz, by omega⟩ | exact Or.inr ⟨hm, hbm, Or.inr ⟨by omega, by omega⟩⟩ | exact Or.inr ⟨hm, hbm, Or.inl ⟨by omega, (congrArg Int32.toInt k6_0).trans NOlq⟩⟩), (by omega)⟩⟩
  · obtain ⟨S0, eS0⟩ : ∃ z : Int32, z = I hm 7 := ⟨_, rfl⟩
    have fS0 : S0.toInt = (I hm 7).toInt := by rw [eS0]
    have rS0 := hs.rng khm rfl eS0
    have mc := hmx hm hbm
    obtain ⟨⟨hJ, hR6, hD7⟩, rwm, ⟨hd1, hd2, hd3, hd4, hd5, hd7, hd8, hd9⟩, -⟩ := id mc
    have hcx := CM_x hs khm
    have b5 := hs.rng khm (k := 3) rfl (x := I hm 3) rfl
    have b7 := hs.rng khm (k := 7) rfl (x := I hm 7) rfl
    have b8 := hs.rng khm (k := 8) rfl (x := I hm 8) rfl
    have b20 := hs.rng ka0 (k := 20) rfl (x := I a0 20) rfl
    refine r_aload_n hC dX10_dead_0 0 rfl ?_
    refine r_iconst hC (v := (0)) dX10_dead_1 (by decide) (by decide) (fun x7_ e7 t7 => ?_)
    refine r_puti hC 0 (ci := 10) rfl u10_in tyX10_ok nmX10 (by decide) mT_4_235 rfl rfl rfl dX10_dead_2 ka0 rfl rfl (fun I8 eI8 => ?_)
    have hs8 := hs.put0 eI8 ka0 rfl rfl rfl (by decide)
    have hF8 := hF.put eI8 ka0 rfl
    refine r_aload_n hC dX10_dead_5 0 rfl ?_
    refine r_iload_n hC dX10_dead_6 1 rfl ?_
    refine r_callV hC (As := [.int x1]) (rest := []) (ci := 10) (f_X10_isStory g (xL X) K len I8 J R hs8 a0 ka0 x1) mT_6_119 mT_1_10 mT_6_116 mT_6_118 mP_71 okX10_isStory ⟨by decide, by decide⟩ rfl (by show kO (K a0) = _; rw [ka0]; rfl) rfl rfl (Nat.le_of_ble_eq_true rfl) ⟨by decide, by decide⟩ dX10_dead_7 (aI0 (F := fun st M => P g X 5 10 [(0, .ref a0), (1, .int x1), (2, .int x2)] st _ _ M) (M := (K, len, I8, J, R)) fun x9_ h9 => ?_)
    have k9_0 := h9
    clear h9
    show P g X 5 10 [(0, .ref a0), (1, .int x1), (2, .int x2)] [.int x9_] _ _ (K, len, I8, J, R)
    have kq9 : x9_.toInt = 1 ∧ (0 ≤ x1.toInt ∧ x1.toInt < D 0 7) ∨ x9_.toInt = 0 ∧ ¬ (0 ≤ x1.toInt ∧ x1.toInt < D 0 7) := by rcases k9_0 with ⟨z, -⟩ | ⟨hm9, z, y⟩ <;> rw [hbm] at z <;> cases z; rw [show (I8 hm 7).toInt = _ from (mc.mv hs ka0 khm hF8 rfl).2.2.1.2.2.2.2.2.1] at y; exact y
    clear k9_0
    refine r_if_eq hC (tgt := 21) dX10_dead_10 (by decide) (fun c10 => ?_) (fun c10 => ?_)
    · refine r_aload_n hC dX10_dead_21 0 rfl ?_
      refine r_iconst hC (v := (1)) dX10_dead_22 (by decide) (by decide) (fun x11_ e11 t11 => ?_)
      refine r_callV hC (As := [.int x11_]) (rest := []) (ci := 10) (c_X10_refused g (xL X) K len I8 J R hs8 a0 ka0 x11_) mT_5_85 mT_1_10 mT_5_82 mT_5_84 mP_48 okX10_refused ⟨by decide, by decide⟩ rfl (by show kO (K a0) = _; rw [ka0]; rfl) rfl rfl (Nat.le_of_ble_eq_true rfl) ⟨by decide, by decide⟩ dX10_dead_23 (aI1 (F := fun st M => P g X 5 26 [(0, .ref a0), (1, .int x1), (2, .int x2)] st _ _ M) (M := (K, len, I8, J, R)) fun x12_ I12 h12 => ?_)
      obtain ⟨hs12, hf12, k12_0, k12_1, k12_2⟩ := h12
      show P g X 5 26 [(0, .ref a0), (1, .int x1), (2, .int x2)] [.int x12_] _ _ (K, len, I12, J, R)
      have hF12 : Fr K [(11, 0), (11, 1), (11, 2), (11, 19), (85, 999), (86, 999), (87, 999), (88, 999)] I I12 := hF8.trans hf12 rfl rfl
      exact r_iret hC hQ hlk hr rfl (by decide) (by decide) dX10_dead_26 ⟨_, _, rfl, rfl, ⟨hs12, hF12, (by first | exact Or.inl ⟨hz, by omega⟩ | exact Or.inr ⟨hm, hbm, Or.inr ⟨by omega, by omega⟩⟩ | exact Or.inr ⟨hm, hbm, Or.inl ⟨by omega, (congrArg Int32.toInt k12_0).trans NOlq⟩⟩), (by omega)⟩⟩
    · refine r_aload_n hC dX10_dead_13 0 rfl ?_
      refine r_iload_n hC dX10_dead_14 2 rfl ?_
      refine r_callV hC (As := [.int x2]) (rest := []) (ci := 10) (f_X10_isDay g (xL X) K len I8 J R hs8 a0 ka0 x2) mT_6_95 mT_1_10 mT_6_92 mT_6_94 mP_68 okX10_isDay ⟨by decide, by decide⟩ rfl (by show kO (K a0) = _; rw [ka0]; rfl) rfl rfl (Nat.le_of_ble_eq_true rfl) ⟨by decide, by decide⟩ dX10_dead_15 (aI0 (F := fun st M => P g X 5 18 [(0, .ref a0), (1, .int x1), (2, .int x2)] st _ _ M) (M := (K, len, I8, J, R)) fun x13_ h13 => ?_)
      have k13_0 := h13
      clear h13
      show P g X 5 18 [(0, .ref a0), (1, .int x1), (2, .int x2)] [.int x13_] _ _ (K, len, I8, J, R)
      have kq13 : x13_.toInt = 1 ∧ (0 ≤ x2.toInt ∧ x2.toInt ≤ 59) ∨ x13_.toInt = 0 ∧ ¬ (0 ≤ x2.toInt ∧ x2.toInt ≤ 59) := by rcases k13_0 with ⟨z, -⟩ | ⟨hm9, z, y⟩ <;> rw [hbm] at z <;> cases z; exact y
      clear k13_0
      refine r_if_ne hC (tgt := 27) dX10_dead_18 (by decide) (fun c14 => ?_) (fun c14 => ?_)
      · refine r_aload_n hC dX10_dead_27 0 rfl ?_
        refine r_iload_n hC dX10_dead_28 1 rfl ?_
        have hv15 : I8 hm 7 = S0 := (Eq.trans (up2_kk eI8 ka0 khm (by decide)) eS0.symm)
        refine r_callV hC (As := [.int x1]) (rest := []) (ci := 10) (f_X10_runsAsTold g (xL X) K len I8 J R hs8 a0 ka0 x1 hm hbm khm (by rw [hv15]; omega) lr hlr klr llr sr hsr ksr lsr ir hir kir lir wr hwr kwr lwr D E (mc.mv hs ka0 khm hF8 rfl) (by omega) (by omega)) mT_6_127 mT_1_10 mT_6_124 mT_6_126 mP_73 okX10_runsAsTold ⟨by decide, by decide⟩ rfl (by show kO (K a0) = _; rw [ka0]; rfl) rfl rfl (Nat.le_of_ble_eq_true rfl) ⟨by decide, by decide⟩ dX10_dead_29 (aV1 (F := fun st M => P g X 5 32 [(0, .ref a0), (1, .int x1), (2, .int x2)] st _ _ M) (M := (K, len, I8, J, R)) fun I16 h16 => ?_)
        obtain ⟨hs16, hf16, k16_0⟩ := h16
        show P g X 5 32 [(0, .ref a0), (1, .int x1), (2, .int x2)] [] _ _ (K, len, I16, J, R)
        have hF16 : Fr K [(11, 0), (11, 1), (11, 2), (11, 19), (85, 999), (86, 999), (87, 999), (88, 999)] I I16 := hF8.trans hf16 rfl rfl
        refine r_iconst hC (v := (0)) dX10_dead_32 (by decide) (by decide) (fun x17_ e17 t17 => ?_)
        refine r_istore_n hC (lv' := [(3, .int x17_), (0, .ref a0), (1, .int x1), (2, .int x2)]) dX10_dead_33 (by decide) rfl ?_
        refine r_iconst hC (v := (0)) dX10_dead_34 (by decide) (by decide) (fun x18_ e18 t18 => ?_)
        refine r_istore hC (lv' := [(4, .int x18_), (3, .int x17_), (0, .ref a0), (1, .int x1), (2, .int x2)]) dX10_dead_35 (by decide) rfl ?_
        have LP19 : ∀ (mu : Nat) (x19_4 : Int32) (x19_3 : Int32) (v19_0 : 0 ≤ x19_4.toInt) (v19_1 : x19_4.toInt ≤ D 0 8) (v19_2 : x19_3.toInt = Dd D x1.toInt.toNat x2.toInt x19_4.toInt.toNat) (v19_3 : 0 ≤ x19_3.toInt ∧ x19_3.toInt ≤ 999 * x19_4.toInt), (4 - x19_4.toInt).toNat = mu → P g X 5 37 [(0, .ref a0), (1, .int x1), (2, .int x2), (3, .int x19_3), (4, .int x19_4)] [] 0 0 (K, len, I16, J, R) := by
          intro mu; induction mu using Nat.strongRecOn with | ind mu ih => ?_
          intro x19_4 x19_3 v19_0 v19_1 v19_2 v19_3 hmu
          have ih19 := ih
          clear ih
          have hmu19 := hmu
          clear hmu
          refine r_iload hC dX10_dead_37 4 rfl ?_
          refine r_aload_n hC dX10_dead_39 0 rfl ?_
          refine r_getr hC 3 (ci := 10) rfl u10_in (by decide) mT_4_238 dX10_dead_40 ka0 rfl rfl hbm ?_
          refine r_getiN hC 8 (ci := 9) rfl u9_in (by decide) nF_8 dX10_dead_43 khm rfl rfl (fun x20_ e20 => ?_)
          have r20 := hs16.rng khm rfl e20
          have f20 : x20_.toInt = (I16 hm 8).toInt := by rw [e20]
          have sc20 : x20_.toInt = D 0 8 := by rw [e20]; exact (mc.mv hs ka0 khm hF16 rfl).2.2.1.2.2.2.2.2.2.1
          refine r_icmp_ge hC (tgt := 100) dX10_dead_46 (by decide) (fun c21 => ?_) (fun c21 => ?_)
          · refine r_aload_n hC dX10_dead_100 0 rfl ?_
            refine r_iload_n hC dX10_dead_101 3 rfl ?_
            have lqd : x19_3.toInt = Dd D x1.toInt.toNat x2.toInt (D 0 8).toNat := by rw [show (D 0 8).toNat = x19_4.toInt.toNat by omega]; exact v19_2
            refine r_callV hC (As := [.int x19_3]) (rest := []) (ci := 10) (c_X10_done g (xL X) K len I16 J R hs16 a0 ka0 x19_3) mT_6_79 mT_1_10 mT_6_76 mT_6_78 mP_67 okX10_done ⟨by decide, by decide⟩ rfl (by show kO (K a0) = _; rw [ka0]; rfl) rfl rfl (Nat.le_of_ble_eq_true rfl) ⟨by decide, by decide⟩ dX10_dead_102 (aI1 (F := fun st M => P g X 5 105 [(0, .ref a0), (1, .int x1), (2, .int x2), (3, .int x19_3), (4, .int x19_4)] st _ _ M) (M := (K, len, I16, J, R)) fun x22_ I22 h22 => ?_)
            obtain ⟨hs22, hf22, k22_0, k22_1, k22_2⟩ := h22
            show P g X 5 105 [(0, .ref a0), (1, .int x1), (2, .int x2), (3, .int x19_3), (4, .int x19_4)] [.int x22_] _ _ (K, len, I22, J, R)
            have hF22 : Fr K [(11, 0), (11, 1), (11, 2), (11, 19), (85, 999), (86, 999), (87, 999), (88, 999)] I I22 := hF16.trans hf22 rfl rfl
            have mo22 := k16_0.mv ka0 klr ksr kir kwr hf22 rfl
            exact r_iret hC hQ hlk hr rfl (by decide) (by decide) dX10_dead_105 ⟨_, _, rfl, rfl, ⟨hs22, hF22, (by first | exact Or.inl ⟨hz, by omega⟩ | exact Or.inr ⟨hm, hbm, Or.inr ⟨by omega, by omega⟩⟩ | exact Or.inr ⟨hm, hbm, Or.inl ⟨by omega, (congrArg Int32.toInt k22_0).trans lqd⟩⟩), (by omega)⟩⟩
          · refine r_iload_n hC dX10_dead_49 3 rfl ?_
            refine r_aload_n hC dX10_dead_50 0 rfl ?_
            refine r_iload hC dX10_dead_51 4 rfl ?_
            refine r_callV hC (As := [.int x19_4]) (rest := [.int x19_3]) (ci := 10) (f_X10_isStruck g (xL X) K len I16 J R hs16 a0 ka0 x19_4 hm hbm khm lr hlr klr llr sr hsr ksr lsr ir hir kir lir wr hwr kwr lwr D E (mc.mv hs ka0 khm hF16 rfl) x1.toInt.toNat (show ((x1.toInt.toNat : Nat) : Int) < D 0 7 by omega) k16_0 (by omega) (by omega)) mT_7_55 mT_1_10 mT_7_52 mT_7_54 mP_95 okX10_isStruck ⟨by decide, by decide⟩ rfl (by show kO (K a0) = _; rw [ka0]; rfl) rfl rfl (Nat.le_of_ble_eq_true rfl) ⟨by decide, by decide⟩ dX10_dead_53 (aI0 (F := fun st M => P g X 5 56 [(0, .ref a0), (1, .int x1), (2, .int x2), (3, .int x19_3), (4, .int x19_4)] st _ _ M) (M := (K, len, I16, J, R)) fun x23_ h23 => ?_)
            have k23_0 := h23
            clear h23
            show P g X 5 56 [(0, .ref a0), (1, .int x1), (2, .int x2), (3, .int x19_3), (4, .int x19_4)] [.int x23_, .int x19_3] _ _ (K, len, I16, J, R)
            refine r_if_eq hC (tgt := 91) dX10_dead_56 (by decide) (fun c24 => ?_) (fun c24 => ?_)
            · refine r_iconst hC (v := (0)) dX10_dead_91 (by decide) (by decide) (fun x25_ e25 t25 => ?_)
              refine r_iadd hC dX10_dead_92 (fun x26_ e26 => ?_)
              try have t26 : x26_.toInt = x19_3.toInt + x25_.toInt := by rw [e26]; exact ti_add (by omega) (by omega)
              refine r_istore_n hC (lv' := [(3, .int x26_), (0, .ref a0), (1, .int x1), (2, .int x2), (4, .int x19_4)]) dX10_dead_93 (by decide) rfl ?_
              obtain ⟨x27_, e27⟩ : ∃ z : Int32, z = x19_4 + Int32.ofInt (1) := ⟨_, rfl⟩
              refine r_iinc hC (j := 4) (v := x27_) (lv' := [(4, .int x27_), (3, .int x26_), (0, .ref a0), (1, .int x1), (2, .int x2)]) dX10_dead_94 rfl (by rw [e27]) (by decide) rfl ?_
              try have t27 : x27_.toInt = x19_4.toInt + (1) := by rw [e27]; exact (ti_add (b := Int32.ofInt (1)) (by show _ ≤ _ + (1 : Int); omega) (by show _ + (1 : Int) ≤ _; omega))
              refine r_goto hC (tgt := 37) dX10_dead_97 (by decide) ?_
              refine r_sub [2, 3, 4, 1, 0] rfl ?_
              exact ih19 ((4 - x27_.toInt).toNat) (by omega) x27_ x26_ (by omega) (by omega) (by first | (rw [show x27_.toInt.toNat = 0 by omega]; show _ = (0 : Int); omega) | (rw [show x27_.toInt.toNat = x19_4.toInt.toNat + 1 by omega, Dd_t (by omega)]; omega) | (rw [show x27_.toInt.toNat = x19_4.toInt.toNat + 1 by omega, Dd_n (by omega)]; omega)) (by omega) rfl
            · refine r_iload_n hC dX10_dead_59 2 rfl ?_
              refine r_aload_n hC dX10_dead_60 0 rfl ?_
              refine r_getr hC 3 (ci := 10) rfl u10_in (by decide) mT_4_238 dX10_dead_61 ka0 rfl rfl hbm ?_
              obtain ⟨a28_, hb28, hk28, hn28⟩ := hs16.row khm 22 79 4 (by decide) (by decide)
              refine r_getrN hC 22 (ci := 9) rfl u9_in (by decide) nF_22 dX10_dead_64 khm rfl rfl hb28 ?_
              refine r_iload hC dX10_dead_67 4 rfl ?_
              refine x_iaload hC hk28 hn28 (by decide) rfl rfl dX10_dead_69 (by omega) (by omega) (fun x29_ e29 => ?_)
              have q29 : x29_.toInt = D 12 x19_4.toInt.toNat := by rw [e29, clx (i := x19_4) rfl (by omega)]; exact (mc.mv hs ka0 khm hF16 rfl).hrw (r := 12) (by decide) (by decide) hb28 (by rw [cnt_12]; omega) (fun h9 => absurd h9 (by decide))
              have jb29 : 0 ≤ D 12 x19_4.toInt.toNat ∧ D 12 x19_4.toInt.toNat ≤ 30 := hJ.2.2.2.1 12 _ (by decide) (by decide) (by decide)
              refine r_iadd hC dX10_dead_70 (fun x30_ e30 => ?_)
              try have t30 : x30_.toInt = x2.toInt + x29_.toInt := by rw [e30]; exact ti_add (by omega) (by omega)
              refine r_aload_n hC dX10_dead_71 0 rfl ?_
              refine r_geti hC 19 (ci := 10) rfl u10_in (by decide) mT_5_14 dX10_dead_72 ka0 rfl rfl (fun x31_ e31 => ?_)
              have r31 := hs16.rng ka0 rfl e31
              have q31 := hs16.gone ka0 e31
              have f31 : x31_.toInt = (I16 a0 19).toInt := by rw [e31]
              have q31g : x31_.toInt = GV D x1.toInt.toNat (Ad D x1.toInt.toNat (LP1 D) 1) 60 := by rw [e31]; exact k16_0.2.2
              refine r_icmp_le hC (tgt := 91) dX10_dead_75 (by decide) (fun c32 => ?_) (fun c32 => ?_)
              · refine r_iconst hC (v := (0)) dX10_dead_91 (by decide) (by decide) (fun x33_ e33 t33 => ?_)
                refine r_iadd hC dX10_dead_92 (fun x34_ e34 => ?_)
                try have t34 : x34_.toInt = x19_3.toInt + x33_.toInt := by rw [e34]; exact ti_add (by omega) (by omega)
                refine r_istore_n hC (lv' := [(3, .int x34_), (0, .ref a0), (1, .int x1), (2, .int x2), (4, .int x19_4)]) dX10_dead_93 (by decide) rfl ?_
                obtain ⟨x35_, e35⟩ : ∃ z : Int32, z = x19_4 + Int32.ofInt (1) := ⟨_, rfl⟩
                refine r_iinc hC (j := 4) (v := x35_) (lv' := [(4, .int x35_), (3, .int x34_), (0, .ref a0), (1, .int x1), (2, .int x2)]) dX10_dead_94 rfl (by rw [e35]) (by decide) rfl ?_
                try have t35 : x35_.toInt = x19_4.toInt + (1) := by rw [e35]; exact (ti_add (b := Int32.ofInt (1)) (by show _ ≤ _ + (1 : Int); omega) (by show _ + (1 : Int) ≤ _; omega))
                refine r_goto hC (tgt := 37) dX10_dead_97 (by decide) ?_
                refine r_sub [2, 3, 4, 1, 0] rfl ?_
                exact ih19 ((4 - x35_.toInt).toNat) (by omega) x35_ x34_ (by omega) (by omega) (by first | (rw [show x35_.toInt.toNat = 0 by omega]; show _ = (0 : Int); omega) | (rw [show x35_.toInt.toNat = x19_4.toInt.toNat + 1 by omega, Dd_t (by omega)]; omega) | (rw [show x35_.toInt.toNat = x19_4.toInt.toNat + 1 by omega, Dd_n (by omega)]; omega)) (by omega) rfl
              · refine r_aload_n hC dX10_dead_78 0 rfl ?_
                refine r_getr hC 3 (ci := 10) rfl u10_in (by decide) mT_4_238 dX10_dead_79 ka0 rfl rfl hbm ?_
                obtain ⟨a36_, hb36, hk36, hn36⟩ := hs16.row khm 21 78 4 (by decide) (by decide)
                refine r_getrN hC 21 (ci := 9) rfl u9_in (by decide) nF_21 dX10_dead_82 khm rfl rfl hb36 ?_
                refine r_iload hC dX10_dead_85 4 rfl ?_
                refine x_iaload hC hk36 hn36 (by decide) rfl rfl dX10_dead_87 (by omega) (by omega) (fun x37_ e37 => ?_)
                have q37 : x37_.toInt = D 11 x19_4.toInt.toNat := by rw [e37, clx (i := x19_4) rfl (by omega)]; exact (mc.mv hs ka0 khm hF16 rfl).hrw (r := 11) (by decide) (by decide) hb36 (by rw [cnt_11]; omega) (fun h9 => absurd h9 (by decide))
                have jb37 : 0 ≤ D 11 x19_4.toInt.toNat ∧ D 11 x19_4.toInt.toNat ≤ 999 := hJ.2.2.2.1 11 _ (by decide) (by decide) (by decide)
                refine r_goto hC (tgt := 92) dX10_dead_88 (by decide) ?_
                refine r_iadd hC dX10_dead_92 (fun x38_ e38 => ?_)
                try have t38 : x38_.toInt = x19_3.toInt + x37_.toInt := by rw [e38]; exact ti_add (by omega) (by omega)
                refine r_istore_n hC (lv' := [(3, .int x38_), (0, .ref a0), (1, .int x1), (2, .int x2), (4, .int x19_4)]) dX10_dead_93 (by decide) rfl ?_
                obtain ⟨x39_, e39⟩ : ∃ z : Int32, z = x19_4 + Int32.ofInt (1) := ⟨_, rfl⟩
                refine r_iinc hC (j := 4) (v := x39_) (lv' := [(4, .int x39_), (3, .int x38_), (0, .ref a0), (1, .int x1), (2, .int x2)]) dX10_dead_94 rfl (by rw [e39]) (by decide) rfl ?_
                try have t39 : x39_.toInt = x19_4.toInt + (1) := by rw [e39]; exact (ti_add (b := Int32.ofInt (1)) (by show _ ≤ _ + (1 : Int); omega) (by show _ + (1 : Int) ≤ _; omega))
                refine r_goto hC (tgt := 37) dX10_dead_97 (by decide) ?_
                refine r_sub [2, 3, 4, 1, 0] rfl ?_
                exact ih19 ((4 - x39_.toInt).toNat) (by omega) x39_ x38_ (by omega) (by omega) (by first | (rw [show x39_.toInt.toNat = 0 by omega]; show _ = (0 : Int); omega) | (rw [show x39_.toInt.toNat = x19_4.toInt.toNat + 1 by omega, Dd_t (by omega)]; omega) | (rw [show x39_.toInt.toNat = x19_4.toInt.toNat + 1 by omega, Dd_n (by omega)]; omega)) (by omega) rfl
        refine r_sub [2, 3, 4, 1, 0] rfl ?_
        exact LP19 _ x18_ x17_ (by omega) (by omega) (by first | (rw [show x18_.toInt.toNat = 0 by omega]; show _ = (0 : Int); omega) | (rw [show x18_.toInt.toNat = x19_4.toInt.toNat + 1 by omega, Dd_t (by omega)]; omega) | (rw [show x18_.toInt.toNat = x19_4.toInt.toNat + 1 by omega, Dd_n (by omega)]; omega)) (by omega) rfl
      · refine r_aload_n hC dX10_dead_21 0 rfl ?_
        refine r_iconst hC (v := (1)) dX10_dead_22 (by decide) (by decide) (fun x40_ e40 t40 => ?_)
        refine r_callV hC (As := [.int x40_]) (rest := []) (ci := 10) (c_X10_refused g (xL X) K len I8 J R hs8 a0 ka0 x40_) mT_5_85 mT_1_10 mT_5_82 mT_5_84 mP_48 okX10_refused ⟨by decide, by decide⟩ rfl (by show kO (K a0) = _; rw [ka0]; rfl) rfl rfl (Nat.le_of_ble_eq_true rfl) ⟨by decide, by decide⟩ dX10_dead_23 (aI1 (F := fun st M => P g X 5 26 [(0, .ref a0), (1, .int x1), (2, .int x2)] st _ _ M) (M := (K, len, I8, J, R)) fun x41_ I41 h41 => ?_)
        obtain ⟨hs41, hf41, k41_0, k41_1, k41_2⟩ := h41
        show P g X 5 26 [(0, .ref a0), (1, .int x1), (2, .int x2)] [.int x41_] _ _ (K, len, I41, J, R)
        have hF41 : Fr K [(11, 0), (11, 1), (11, 2), (11, 19), (85, 999), (86, 999), (87, 999), (88, 999)] I I41 := hF8.trans hf41 rfl rfl
        exact r_iret hC hQ hlk hr rfl (by decide) (by decide) dX10_dead_26 ⟨_, _, rfl, rfl, ⟨hs41, hF41, (by first | exact Or.inl ⟨hz, by omega⟩ | exact Or.inr ⟨hm, hbm, Or.inr ⟨by omega, by omega⟩⟩ | exact Or.inr ⟨hm, hbm, Or.inl ⟨by omega, (congrArg Int32.toInt k41_0).trans NOlq⟩⟩), (by omega)⟩⟩

