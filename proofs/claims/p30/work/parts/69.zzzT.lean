def Tw (D : DD) (E : Nat → Nat → Int) (N v : Nat) : Nat → Int
  | 0 => 0
  | s + 1 => Tw D E N v s + (if (59 < Mf D E s N ∧ GV D s (Ad D s (LP1 D) 1) 60 ≠ -2 ∧ D 10 v ≤ Wq D s (Ad D s (LP1 D) 1) (LP1 D) 60) then D 6 s else 0)
def Tf (D : DD) (E : Nat → Nat → Int) (N v : Nat) : Nat → Int
  | 0 => 60
  | s + 1 => if (59 < Mf D E s N ∧ GV D s (Ad D s (LP1 D) 1) 60 ≠ -2 ∧ D 10 v ≤ Wq D s (Ad D s (LP1 D) 1) (LP1 D) 60) then min (Tf D E N v s) (GV D s (Ad D s (LP1 D) 1) 60) else Tf D E N v s
def TeV (D : DD) (E : Nat → Nat → Int) (N v : Nat) (cost : Int) : Int := if Tw D E N v (D 0 7).toNat = 0 ∨ Tw D E N v (D 0 7).toNat * D 11 v < cost * Wf D E N (D 0 7).toNat then -2 else max 0 (Tf D E N v (D 0 7).toNat - D 12 v)
section TELL
variable {D : DD} {E : Nat → Nat → Int} {N s v n : Nat} {A : Nat → Int} {cost : Int}
theorem Tw_t (h : (59 < Mf D E s N ∧ GV D s (Ad D s (LP1 D) 1) 60 ≠ -2 ∧ D 10 v ≤ Wq D s (Ad D s (LP1 D) 1) (LP1 D) 60)) : Tw D E N v (s + 1) = Tw D E N v s + D 6 s := by simp only [Tw]; rw [if_pos h]
theorem Tw_n (h : ¬ (59 < Mf D E s N ∧ GV D s (Ad D s (LP1 D) 1) 60 ≠ -2 ∧ D 10 v ≤ Wq D s (Ad D s (LP1 D) 1) (LP1 D) 60)) : Tw D E N v (s + 1) = Tw D E N v s := by simp only [Tw]; rw [if_neg h]; omega
theorem Tf_t (h : (59 < Mf D E s N ∧ GV D s (Ad D s (LP1 D) 1) 60 ≠ -2 ∧ D 10 v ≤ Wq D s (Ad D s (LP1 D) 1) (LP1 D) 60)) : Tf D E N v (s + 1) = min (Tf D E N v s) (GV D s (Ad D s (LP1 D) 1) 60) := by simp only [Tf]; rw [if_pos h]
theorem Tf_n (h : ¬ (59 < Mf D E s N ∧ GV D s (Ad D s (LP1 D) 1) 60 ≠ -2 ∧ D 10 v ≤ Wq D s (Ad D s (LP1 D) 1) (LP1 D) 60)) : Tf D E N v (s + 1) = Tf D E N v s := by simp only [Tf]; rw [if_neg h]
theorem GV_r : ∀ n : Nat, -2 ≤ GV D s A n ∧ GV D s A n ≤ n
  | 0 => by rw [GV_0]; decide
  | n + 1 => by
    have h := GV_r n
    rw [GV_s]
    rcases gs_or (v := SV D s A n) (e := n) (g := GV D s A n) (D 0 5).toNat with h2 | h2 <;> rw [h2] <;> omega
theorem Wf_p (h : Wf D E N n ≠ 0) : 0 < n := by
  apply Classical.byContradiction; intro hc
  have e : n = 0 := by omega
  rw [e] at h; exact h rfl
theorem TeV_n (h : Tw D E N v (D 0 7).toNat = 0 ∨ Tw D E N v (D 0 7).toNat * D 11 v < cost * Wf D E N (D 0 7).toNat) : TeV D E N v cost = -2 := by unfold TeV; rw [if_pos h]
theorem TeV_t (h : ¬ (Tw D E N v (D 0 7).toNat = 0 ∨ Tw D E N v (D 0 7).toNat * D 11 v < cost * Wf D E N (D 0 7).toNat)) : TeV D E N v cost = max 0 (Tf D E N v (D 0 7).toNat - D 12 v) := by unfold TeV; rw [if_neg h]
theorem tj_add {a b z : Int64} (e : z = a + b) (h1 : -2147483648 ≤ a.toInt + b.toInt) (h2 : a.toInt + b.toInt ≤ 2147483647) : z.toInt = a.toInt + b.toInt := by rw [e, Int64.toInt_add, Int.bmod_eq_of_le (by omega) (by omega)]
theorem tj_mul {a b z : Int64} {x y : Int} (e : z = a * b) (ha : a.toInt = x) (hb : b.toInt = y) (h1 : -2147483648 ≤ x * y) (h2 : x * y ≤ 2147483647) : z.toInt = x * y := by rw [e, Int64.toInt_mul, ha, hb, Int.bmod_eq_of_le (by omega) (by omega)]
theorem lg3 {x y : Int64} {z : Int32} (e : z = lg_cmp x y) : (z.toInt < 0 ∧ x.toInt < y.toInt) ∨ (z.toInt = 0 ∧ x.toInt = y.toInt) ∨ (0 < z.toInt ∧ y.toInt < x.toInt) := by
  rw [e]
  by_cases h1 : (lg_cmp x y).toInt < 0
  · exact Or.inl ⟨h1, lgc_lt h1⟩
  by_cases h2 : (lg_cmp x y).toInt = 0
  · exact Or.inr (Or.inl ⟨h2, lgc_eq h2⟩)
  · exact Or.inr (Or.inr ⟨by omega, lgc_gt (by omega)⟩)
end TELL
set_option maxHeartbeats 4000000 in
set_option maxRecDepth 100000 in
theorem a_X8_tell (g : GG) (l : Launch) (K len : Nat → Nat) (I : Nat → Nat → Int32) (J : Nat → Nat → Int64) (R : Nat → Nat → Option Nat) (hs : Sf K len I R) (a0 : Nat) (ka0 : K a0 = 9) (x1 : Int32) (x2 : Int32) (h : Nat) (hh : R a0 2 = some h) (kh : K h = 2) (lk : Nat) (hlk2 : R h 0 = some lk) (klk : K lk = 3) (rd : Nat) (hrd : R a0 9 = some rd) (krd : K rd = 4) (lv : Nat) (hlv : R a0 4 = some lv) (klv : K lv = 41) (llv : len lv = 60) (kn : Nat) (hkn : R a0 6 = some kn) (kkn : K kn = 43) (lkn : len kn = 6) (cr : Nat) (hcr : R a0 5 = some cr) (kcr1 : K cr = 44) (lcr : len cr = 6) (hu : UU K R) (D : DD) (E : Nat → Nat → Int) (hc : KC D E a0 h lk rd I R) (N : Nat) (hN : (I rd 0).toInt = N) : Ct g l yX8_tell cX8_tell 7 (Option.some Jvm.ClassFile.FieldType.int) rmX8_tell [.ref a0, .int x1, .int x2] (K, len, I, J, R) (pI1 (K, len, I, J, R) (fun r I' => Sf K len I' R ∧ Fr K [(1, 5), (1, 6), (9, 12), (43, 999), (50, 999), (51, 999), (52, 999), (53, 999), (54, 999), (67, 999)] I I' ∧ (KC D E a0 h lk rd I' R) ∧ (((0 ≤ x1.toInt ∧ x1.toInt < D 0 8) ∧ (0 ≤ x2.toInt ∧ x2.toInt ≤ 999999) ∧ Wf D E N (D 0 7).toNat ≠ 0) ∧ r.toInt = TeV D E N x1.toInt.toNat x2.toInt ∨ ¬ ((0 ≤ x1.toInt ∧ x1.toInt < D 0 8) ∧ (0 ≤ x2.toInt ∧ x2.toInt ≤ 999999) ∧ Wf D E N (D 0 7).toNat ≠ 0) ∧ r.toInt = -1) ∧ ((I' a0 12).toInt ≠ 4))) := by
  refine Ct_intro (by decide +kernel) (Nat.le_of_ble_eq_true rfl) (fun X hC hL hKK hNm hr hlk hQ => ?_)
  subst hL
  have hC : Cx g X cX8_tell "HillTap" 7 rmX8_tell := hC
  show P g X 7 0 [(0, .ref a0), (1, .int x1), (2, .int x2)] [] 0 0 (K, len, I, J, R)
  have hF : Fr K [(1, 5), (1, 6), (9, 12), (43, 999), (50, 999), (51, 999), (52, 999), (53, 999), (54, 999), (67, 999)] I I := Fr.refl
  have ka : KA a0 h lk rd K len R := ⟨⟨_, hs⟩, hu, ka0, kh, klk, krd⟩
  obtain ⟨sd1, sd2, sd3, sd4, sd5, sd7, sd8, sd9⟩ := id hc.2.1
  have d7b := hs.rng kh (k := 6) rfl (x := I h 6) rfl
  have d5b := hs.rng kh (k := 1) rfl (x := I h 1) rfl
  have d8b := hs.rng kh (k := 8) rfl (x := I h 8) rfl
  obtain ⟨mf, hmf, kmf, lmf⟩ := hs.row ka0 10 67 6 (by decide) (by decide)
  have mfb : ∀ s, 0 ≤ Mf D E s N ∧ Mf D E s N ≤ 60 := fun s => Mf_b (fun j hj => (hc.rdb (by omega)).2.1)
  have b_x1 := ti_rng x1
  have b_x2 := ti_rng x2
  refine r_aload_n hC dX8_tell_0 0 rfl ?_
  refine r_iload_n hC dX8_tell_1 1 rfl ?_
  refine r_callV hC (As := [.int x1]) (rest := []) (ci := 8) (f_X8_isVillage g (xL X) K len I J R hs a0 ka0 x1 h hh kh) mT_4_119 mT_1_1 mT_4_116 mT_4_118 mP_45 okX8_isVillage ⟨by decide, by decide⟩ rfl (by show kO (K a0) = _; rw [ka0]; rfl) rfl rfl (Nat.le_of_ble_eq_true rfl) ⟨by decide, by decide⟩ dX8_tell_2 (aI0 (F := fun st M => P g X 7 5 [(0, .ref a0), (1, .int x1), (2, .int x2)] st _ _ M) (M := (K, len, I, J, R)) fun x1_ h1 => ?_)
  have k1_0 := h1
  clear h1
  show P g X 7 5 [(0, .ref a0), (1, .int x1), (2, .int x2)] [.int x1_] _ _ (K, len, I, J, R)
  rcases k1_0 with ⟨hr1, hw1⟩ | ⟨hr1, hw1⟩
  · refine r_if_ne hC (tgt := 14) dX8_tell_5 (by decide) (fun c2 => ?_) (fun c2 => ?_)
    rotate_left
    · exfalso; omega
    refine r_iload_n hC dX8_tell_14 2 rfl ?_
    refine r_if_lt hC (tgt := 24) dX8_tell_15 (by decide) (fun c3 => ?_) (fun c3 => ?_)
    · refine r_aload_n hC dX8_tell_24 0 rfl ?_
      refine r_iconst hC (v := (2)) dX8_tell_25 (by decide) (by decide) (fun x4_ e4 t4 => ?_)
      refine r_callV hC (As := [.int x4_]) (rest := []) (ci := 8) (c_X8_refuse g (xL X) K len I J R hs a0 ka0 x4_) mT_2_133 mT_1_1 mT_2_130 mT_2_132 mP_0 okX8_refuse ⟨by decide, by decide⟩ rfl (by show kO (K a0) = _; rw [ka0]; rfl) rfl rfl (Nat.le_of_ble_eq_true rfl) ⟨by decide, by decide⟩ dX8_tell_26 (aI1 (F := fun st M => P g X 7 29 [(0, .ref a0), (1, .int x1), (2, .int x2)] st _ _ M) (M := (K, len, I, J, R)) fun x5_ I5 h5 => ?_)
      obtain ⟨hs5, hf5, k5_0, k5_1⟩ := h5
      show P g X 7 29 [(0, .ref a0), (1, .int x1), (2, .int x2)] [.int x5_] _ _ (K, len, I5, J, R)
      have hF5 : Fr K [(1, 5), (1, 6), (9, 12), (43, 999), (50, 999), (51, 999), (52, 999), (53, 999), (54, 999), (67, 999)] I I5 := hF.trans hf5 rfl rfl
      have hc5 := hc.mv ka hf5 rfl
      exact r_iret hC hQ hlk hr rfl (by decide) (by decide) dX8_tell_29 ⟨_, _, rfl, rfl, ⟨hs5, hF5, (by exact hc5), (by first | exact Or.inr ⟨by omega, by omega⟩ | exact Or.inl ⟨by omega, (congrArg Int32.toInt k5_0).trans (by first | (rw [TeV_n (Or.inl (by omega))]; omega) | (rw [TeV_n (Or.inr (by rw [show Tw D E N x1.toInt.toNat (D 0 7).toNat * D 11 x1.toInt.toNat = NOm1.toInt by rw [← twe, ← NOqp, NOtm1], show x2.toInt * Wf D E N (D 0 7).toNat = NOm2.toInt by rw [NOqw, NOtm2]]; omega))]; omega) | (rw [TeV_t (by rw [show Tw D E N x1.toInt.toNat (D 0 7).toNat * D 11 x1.toInt.toNat = NOm1.toInt by rw [← twe, ← NOqp, NOtm1], show x2.toInt * Wf D E N (D 0 7).toNat = NOm2.toInt by rw [NOqw, NOtm2]]; omega)]; omega))⟩), (by omega)⟩⟩
    · refine r_iload_n hC dX8_tell_18 2 rfl ?_
      refine r_ldc hC (n := 999999) (v := 999999) mT_4_132 dX8_tell_19 (by decide) (fun x6_ e6 t6 => ?_)
      refine r_icmp_le hC (tgt := 30) dX8_tell_21 (by decide) (fun c7 => ?_) (fun c7 => ?_)
      · refine r_aload_n hC dX8_tell_30 0 rfl ?_
        refine r_callV hC (As := []) (rest := []) (ci := 8) (a_X8_findFits g (xL X) K len I J R hs a0 ka0 h hh kh lk hlk2 klk rd hrd krd lv hlv klv llv kn hkn kkn lkn cr hcr kcr1 lcr hu D E hc N (by rw [hF.get krd rfl]; exact hN) mf hmf kmf lmf) mT_3_226 mT_1_1 mT_3_223 mT_3_225 mP_33 okX8_findFits ⟨by decide, by decide⟩ rfl (by show kO (K a0) = _; rw [ka0]; rfl) rfl rfl (Nat.le_of_ble_eq_true rfl) ⟨by decide, by decide⟩ dX8_tell_31 (aV1 (F := fun st M => P g X 7 34 [(0, .ref a0), (1, .int x1), (2, .int x2)] st _ _ M) (M := (K, len, I, J, R)) fun I8 h8 => ?_)
        obtain ⟨hs8, hf8, k8_0, k8_1⟩ := h8
        show P g X 7 34 [(0, .ref a0), (1, .int x1), (2, .int x2)] [] _ _ (K, len, I8, J, R)
        have hF8 : Fr K [(1, 5), (1, 6), (9, 12), (43, 999), (50, 999), (51, 999), (52, 999), (53, 999), (54, 999), (67, 999)] I I8 := hF.trans hf8 rfl rfl
        refine r_aload_n hC dX8_tell_34 0 rfl ?_
        refine r_callV hC (As := []) (rest := []) (ci := 8) (f_X8_weightOfFits g (xL X) K len I8 J R hs8 a0 ka0 h hh kh lk hlk2 klk rd hrd krd lv hlv klv llv kn hkn kkn lkn cr hcr kcr1 lcr hu D E k8_0 N (by rw [hF8.get krd rfl]; exact hN) mf hmf kmf lmf k8_1) mT_4_15 mT_1_1 mT_4_12 mT_4_14 mP_36 okX8_weightOfFits ⟨by decide, by decide⟩ rfl (by show kO (K a0) = _; rw [ka0]; rfl) rfl rfl (Nat.le_of_ble_eq_true rfl) ⟨by decide, by decide⟩ dX8_tell_35 (aI0 (F := fun st M => P g X 7 38 [(0, .ref a0), (1, .int x1), (2, .int x2)] st _ _ M) (M := (K, len, I8, J, R)) fun x9_ h9 => ?_)
        obtain ⟨k9_0, k9_1⟩ := h9
        show P g X 7 38 [(0, .ref a0), (1, .int x1), (2, .int x2)] [.int x9_] _ _ (K, len, I8, J, R)
        refine r_istore_n hC (lv' := [(3, .int x9_), (0, .ref a0), (1, .int x1), (2, .int x2)]) dX8_tell_38 (by decide) rfl ?_
        refine r_iload_n hC dX8_tell_39 0 rfl ?_
        refine r_if_ne hC (tgt := 50) dX8_tell_40 (by decide) (fun c10 => ?_) (fun c10 => ?_)
        · have h17 : 1 ≤ D 0 7 := by have h9 := Wf_p (D := D) (E := E) (N := N) (n := (D 0 7).toNat) (by omega); omega
          refine r_iconst hC (v := (0)) dX8_tell_50 (by decide) (by decide) (fun x11_ e11 t11 => ?_)
          refine r_istore hC (lv' := [(4, .int x11_), (3, .int x9_), (0, .ref a0), (1, .int x1), (2, .int x2)]) dX8_tell_51 (by decide) rfl ?_
          refine r_bipush hC (v := (60)) dX8_tell_53 (by decide) (by decide) (fun x12_ e12 t12 => ?_)
          refine r_istore hC (lv' := [(5, .int x12_), (4, .int x11_), (3, .int x9_), (0, .ref a0), (1, .int x1), (2, .int x2)]) dX8_tell_55 (by decide) rfl ?_
          refine r_iconst hC (v := (0)) dX8_tell_57 (by decide) (by decide) (fun x13_ e13 t13 => ?_)
          refine r_istore hC (lv' := [(6, .int x13_), (5, .int x12_), (4, .int x11_), (3, .int x9_), (0, .ref a0), (1, .int x1), (2, .int x2)]) dX8_tell_58 (by decide) rfl ?_
          have LP14 : ∀ (mu : Nat) (x14_6 : Int32) (x14_5 : Int32) (x14_4 : Int32) (I14 : Nat → Nat → Int32) (hs14 : Sf K len I14 R) (hF14 : Fr K [(1, 5), (1, 6), (9, 12), (43, 999), (50, 999), (51, 999), (52, 999), (53, 999), (54, 999), (67, 999)] I I14) (v14_0 : 0 ≤ x14_6.toInt) (v14_1 : x14_6.toInt ≤ D 0 7) (v14_2 : x14_4.toInt = Tw D E N x1.toInt.toNat x14_6.toInt.toNat) (v14_3 : x14_5.toInt = Tf D E N x1.toInt.toNat x14_6.toInt.toNat) (v14_4 : 0 ≤ x14_4.toInt ∧ x14_4.toInt ≤ 99 * x14_6.toInt) (v14_5 : -2 ≤ x14_5.toInt ∧ x14_5.toInt ≤ 60) (v14_6 : ∀ j : Nat, (j : Int) < D 0 7 → (I14 mf j).toInt = Mf D E j N) (v14_7 : KC D E a0 h lk rd I14 R), (6 - x14_6.toInt).toNat = mu → P g X 7 60 [(0, .ref a0), (1, .int x1), (2, .int x2), (3, .int x9_), (4, .int x14_4), (5, .int x14_5), (6, .int x14_6)] [] 0 0 (K, len, I14, J, R) := by
            intro mu; induction mu using Nat.strongRecOn with | ind mu ih => ?_
            intro x14_6 x14_5 x14_4 I14 hs14 hF14 v14_0 v14_1 v14_2 v14_3 v14_4 v14_5 v14_6 v14_7 hmu
            have ih14 := ih
            clear ih
            have hmu14 := hmu
            clear hmu
            refine r_iload hC dX8_tell_60 6 rfl ?_
            refine r_aload_n hC dX8_tell_62 0 rfl ?_
            refine r_getr hC 2 (ci := 8) rfl u8_in (by decide) mT_2_80 dX8_tell_63 ka0 rfl rfl hh ?_
            refine r_geti hC 6 (ci := 1) rfl u1_in (by decide) mT_1_202 dX8_tell_66 kh rfl rfl (fun x15_ e15 => ?_)
            have r15 := hs14.rng kh rfl e15
            have f15 : x15_.toInt = (I14 h 6).toInt := by rw [e15]
            have sc15 : x15_.toInt = D 0 7 := by rw [e15]; exact v14_7.2.1.2.2.2.2.2.1
            refine r_icmp_ge hC (tgt := 131) dX8_tell_69 (by decide) (fun c16 => ?_) (fun c16 => ?_)
            · have twe := v14_2
              have tfe := v14_3
              rw [show x14_6.toInt.toNat = (D 0 7).toNat by omega] at twe tfe
              refine r_iload hC dX8_tell_131 4 rfl ?_
              refine r_if_eq hC (tgt := 154) dX8_tell_133 (by decide) (fun c17 => ?_) (fun c17 => ?_)
              · refine r_aload_n hC dX8_tell_154 0 rfl ?_
                refine r_bipush hC (v := (-2)) dX8_tell_155 (by decide) (by decide) (fun x18_ e18 t18 => ?_)
                refine r_callV hC (As := [.int x18_]) (rest := []) (ci := 8) (c_X8_answer g (xL X) K len I14 J R hs14 a0 ka0 x18_) mT_3_115 mT_1_1 mT_3_112 mT_3_114 mP_21 okX8_answer ⟨by decide, by decide⟩ rfl (by show kO (K a0) = _; rw [ka0]; rfl) rfl rfl (Nat.le_of_ble_eq_true rfl) ⟨by decide, by decide⟩ dX8_tell_157 (aI1 (F := fun st M => P g X 7 160 [(0, .ref a0), (1, .int x1), (2, .int x2), (3, .int x9_), (4, .int x14_4), (5, .int x14_5), (6, .int x14_6)] st _ _ M) (M := (K, len, I14, J, R)) fun x19_ I19 h19 => ?_)
                obtain ⟨hs19, hf19, k19_0, k19_1⟩ := h19
                show P g X 7 160 [(0, .ref a0), (1, .int x1), (2, .int x2), (3, .int x9_), (4, .int x14_4), (5, .int x14_5), (6, .int x14_6)] [.int x19_] _ _ (K, len, I19, J, R)
                have hF19 : Fr K [(1, 5), (1, 6), (9, 12), (43, 999), (50, 999), (51, 999), (52, 999), (53, 999), (54, 999), (67, 999)] I I19 := hF14.trans hf19 rfl rfl
                have hc19 := v14_7.mv ka hf19 rfl
                have mff19 : ∀ j : Nat, (j : Int) < D 0 7 → (I19 mf j).toInt = Mf D E j N := fun j hj => by rw [hf19.get kmf rfl]; exact v14_6 j hj
                exact r_iret hC hQ hlk hr rfl (by decide) (by decide) dX8_tell_160 ⟨_, _, rfl, rfl, ⟨hs19, hF19, (by exact hc19), (by first | exact Or.inr ⟨by omega, by omega⟩ | exact Or.inl ⟨by omega, (congrArg Int32.toInt k19_0).trans (by first | (rw [TeV_n (Or.inl (by omega))]; omega) | (rw [TeV_n (Or.inr (by rw [show Tw D E N x1.toInt.toNat (D 0 7).toNat * D 11 x1.toInt.toNat = NOm1.toInt by rw [← twe, ← NOqp, NOtm1], show x2.toInt * Wf D E N (D 0 7).toNat = NOm2.toInt by rw [NOqw, NOtm2]]; omega))]; omega) | (rw [TeV_t (by rw [show Tw D E N x1.toInt.toNat (D 0 7).toNat * D 11 x1.toInt.toNat = NOm1.toInt by rw [← twe, ← NOqp, NOtm1], show x2.toInt * Wf D E N (D 0 7).toNat = NOm2.toInt by rw [NOqw, NOtm2]]; omega)]; omega))⟩), (by omega)⟩⟩
              · refine r_iload hC dX8_tell_136 4 rfl ?_
                refine r_aload_n hC dX8_tell_138 0 rfl ?_
                refine r_getr hC 2 (ci := 8) rfl u8_in (by decide) mT_2_80 dX8_tell_139 ka0 rfl rfl hh ?_
                obtain ⟨a20_, hb20, hk20, hn20⟩ := hs14.row kh 10 59 4 (by decide) (by decide)
                refine r_getr hC 10 (ci := 1) rfl u1_in (by decide) mT_1_214 dX8_tell_142 kh rfl rfl hb20 ?_
                refine r_iload_n hC dX8_tell_145 1 rfl ?_
                refine x_iaload hC hk20 hn20 (by decide) rfl rfl dX8_tell_146 (by omega) (by omega) (fun x21_ e21 => ?_)
                have q21 : x21_.toInt = D 11 x1.toInt.toNat := by rw [e21, clx (i := x1) rfl (by omega)]; exact v14_7.1 11 _ _ _ (cCt (r := 11) rfl hb20) (by rw [cnt_11]; omega) (fun h9 => absurd h9 (by decide))
                have jb21 : 0 ≤ D 11 x1.toInt.toNat ∧ D 11 x1.toInt.toNat ≤ 999 := ((v14_7.2.2.1 (by omega)).1).2.2.2.1 11 _ (by decide) (by decide) (by decide)
                refine r_imul hC dX8_tell_147 (fun x22_ e22 => ?_)
                have mb22 := mul_b (a := x14_4.toInt) (b := x21_.toInt) (A := 600) (B := 999) (C := 599400) (by decide) (by omega) (by omega) (by omega) (by omega)
                have tm22 : x22_.toInt = x14_4.toInt * x21_.toInt := by rw [e22]; exact ti_mul rfl rfl (by omega) (by omega)
                refine r_iload_n hC dX8_tell_148 2 rfl ?_
                refine r_iload_n hC dX8_tell_149 3 rfl ?_
                refine r_imul hC dX8_tell_150 (fun x23_ e23 => ?_)
                have mb23 := mul_b (a := x2.toInt) (b := x9_.toInt) (A := 999999) (B := 600) (C := 599999400) (by decide) (by omega) (by omega) (by omega) (by omega)
                have tm23 : x23_.toInt = x2.toInt * x9_.toInt := by rw [e23]; exact ti_mul rfl rfl (by omega) (by omega)
                have wfe : Wf D E N (D 0 7).toNat = x9_.toInt := by omega
                refine r_icmp_ge hC (tgt := 161) dX8_tell_151 (by decide) (fun c24 => ?_) (fun c24 => ?_)
                · refine r_aload_n hC dX8_tell_161 0 rfl ?_
                  refine r_iconst hC (v := (0)) dX8_tell_162 (by decide) (by decide) (fun x25_ e25 t25 => ?_)
                  refine r_iload hC dX8_tell_163 5 rfl ?_
                  refine r_aload_n hC dX8_tell_165 0 rfl ?_
                  refine r_getr hC 2 (ci := 8) rfl u8_in (by decide) mT_2_80 dX8_tell_166 ka0 rfl rfl hh ?_
                  obtain ⟨a26_, hb26, hk26, hn26⟩ := hs14.row kh 11 60 4 (by decide) (by decide)
                  refine r_getr hC 11 (ci := 1) rfl u1_in (by decide) mT_1_217 dX8_tell_169 kh rfl rfl hb26 ?_
                  refine r_iload_n hC dX8_tell_172 1 rfl ?_
                  refine x_iaload hC hk26 hn26 (by decide) rfl rfl dX8_tell_173 (by omega) (by omega) (fun x27_ e27 => ?_)
                  have q27 : x27_.toInt = D 12 x1.toInt.toNat := by rw [e27, clx (i := x1) rfl (by omega)]; exact v14_7.1 12 _ _ _ (cCt (r := 12) rfl hb26) (by rw [cnt_12]; omega) (fun h9 => absurd h9 (by decide))
                  have jb27 : 0 ≤ D 12 x1.toInt.toNat ∧ D 12 x1.toInt.toNat ≤ 30 := ((v14_7.2.2.1 (by omega)).1).2.2.2.1 12 _ (by decide) (by decide) (by decide)
                  refine r_isub hC dX8_tell_174 (fun x28_ e28 => ?_)
                  try have t28 : x28_.toInt = x14_5.toInt - x27_.toInt := by rw [e28]; exact ti_sub (by omega) (by omega)
                  refine r_mmax hC mT_4_111 mT_3_11 mT_1_12 mT_3_12 (by decide) (Nat.le_of_ble_eq_true rfl) (Nat.zero_le _) (Nat.zero_le _) dX8_tell_175 (fun x29_ e29 t29a t29b t29c => ?_)
                  refine r_callV hC (As := [.int x29_]) (rest := []) (ci := 8) (c_X8_answer g (xL X) K len I14 J R hs14 a0 ka0 x29_) mT_3_115 mT_1_1 mT_3_112 mT_3_114 mP_21 okX8_answer ⟨by decide, by decide⟩ rfl (by show kO (K a0) = _; rw [ka0]; rfl) rfl rfl (Nat.le_of_ble_eq_true rfl) ⟨by decide, by decide⟩ dX8_tell_178 (aI1 (F := fun st M => P g X 7 181 [(0, .ref a0), (1, .int x1), (2, .int x2), (3, .int x9_), (4, .int x14_4), (5, .int x14_5), (6, .int x14_6)] st _ _ M) (M := (K, len, I14, J, R)) fun x30_ I30 h30 => ?_)
                  obtain ⟨hs30, hf30, k30_0, k30_1⟩ := h30
                  show P g X 7 181 [(0, .ref a0), (1, .int x1), (2, .int x2), (3, .int x9_), (4, .int x14_4), (5, .int x14_5), (6, .int x14_6)] [.int x30_] _ _ (K, len, I30, J, R)
                  have hF30 : Fr K [(1, 5), (1, 6), (9, 12), (43, 999), (50, 999), (51, 999), (52, 999), (53, 999), (54, 999), (67, 999)] I I30 := hF14.trans hf30 rfl rfl
                  have hc30 := v14_7.mv ka hf30 rfl
                  have mff30 : ∀ j : Nat, (j : Int) < D 0 7 → (I30 mf j).toInt = Mf D E j N := fun j hj => by rw [hf30.get kmf rfl]; exact v14_6 j hj
                  exact r_iret hC hQ hlk hr rfl (by decide) (by decide) dX8_tell_181 ⟨_, _, rfl, rfl, ⟨hs30, hF30, (by exact hc30), (by first | exact Or.inr ⟨by omega, by omega⟩ | exact Or.inl ⟨by omega, (congrArg Int32.toInt k30_0).trans (by first | (rw [TeV_n (Or.inl (by omega))]; omega) | (rw [TeV_n (Or.inr (by rw [show Tw D E N x1.toInt.toNat (D 0 7).toNat * D 11 x1.toInt.toNat = x22_.toInt by rw [← twe, ← q21, tm22], show x2.toInt * Wf D E N (D 0 7).toNat = x23_.toInt by rw [wfe, tm23]]; omega))]; omega) | (rw [TeV_t (by rw [show Tw D E N x1.toInt.toNat (D 0 7).toNat * D 11 x1.toInt.toNat = x22_.toInt by rw [← twe, ← q21, tm22], show x2.toInt * Wf D E N (D 0 7).toNat = x23_.toInt by rw [wfe, tm23]]; omega)]; omega))⟩), (by omega)⟩⟩
                · refine r_aload_n hC dX8_tell_154 0 rfl ?_
                  refine r_bipush hC (v := (-2)) dX8_tell_155 (by decide) (by decide) (fun x31_ e31 t31 => ?_)
                  refine r_callV hC (As := [.int x31_]) (rest := []) (ci := 8) (c_X8_answer g (xL X) K len I14 J R hs14 a0 ka0 x31_) mT_3_115 mT_1_1 mT_3_112 mT_3_114 mP_21 okX8_answer ⟨by decide, by decide⟩ rfl (by show kO (K a0) = _; rw [ka0]; rfl) rfl rfl (Nat.le_of_ble_eq_true rfl) ⟨by decide, by decide⟩ dX8_tell_157 (aI1 (F := fun st M => P g X 7 160 [(0, .ref a0), (1, .int x1), (2, .int x2), (3, .int x9_), (4, .int x14_4), (5, .int x14_5), (6, .int x14_6)] st _ _ M) (M := (K, len, I14, J, R)) fun x32_ I32 h32 => ?_)
                  obtain ⟨hs32, hf32, k32_0, k32_1⟩ := h32
                  show P g X 7 160 [(0, .ref a0), (1, .int x1), (2, .int x2), (3, .int x9_), (4, .int x14_4), (5, .int x14_5), (6, .int x14_6)] [.int x32_] _ _ (K, len, I32, J, R)
                  have hF32 : Fr K [(1, 5), (1, 6), (9, 12), (43, 999), (50, 999), (51, 999), (52, 999), (53, 999), (54, 999), (67, 999)] I I32 := hF14.trans hf32 rfl rfl
                  have hc32 := v14_7.mv ka hf32 rfl
                  have mff32 : ∀ j : Nat, (j : Int) < D 0 7 → (I32 mf j).toInt = Mf D E j N := fun j hj => by rw [hf32.get kmf rfl]; exact v14_6 j hj
                  exact r_iret hC hQ hlk hr rfl (by decide) (by decide) dX8_tell_160 ⟨_, _, rfl, rfl, ⟨hs32, hF32, (by exact hc32), (by first | exact Or.inr ⟨by omega, by omega⟩ | exact Or.inl ⟨by omega, (congrArg Int32.toInt k32_0).trans (by first | (rw [TeV_n (Or.inl (by omega))]; omega) | (rw [TeV_n (Or.inr (by rw [show Tw D E N x1.toInt.toNat (D 0 7).toNat * D 11 x1.toInt.toNat = x22_.toInt by rw [← twe, ← q21, tm22], show x2.toInt * Wf D E N (D 0 7).toNat = x23_.toInt by rw [wfe, tm23]]; omega))]; omega) | (rw [TeV_t (by rw [show Tw D E N x1.toInt.toNat (D 0 7).toNat * D 11 x1.toInt.toNat = x22_.toInt by rw [← twe, ← q21, tm22], show x2.toInt * Wf D E N (D 0 7).toNat = x23_.toInt by rw [wfe, tm23]]; omega)]; omega))⟩), (by omega)⟩⟩
            · have gvr := GV_r (D := D) (s := x14_6.toInt.toNat) (A := Ad D x14_6.toInt.toNat (LP1 D) 1) 60
              refine r_aload_n hC dX8_tell_72 0 rfl ?_
              refine r_iload hC dX8_tell_73 6 rfl ?_
              refine r_callV hC (As := [.int x14_6]) (rest := []) (ci := 8) (f_X8_isFit g (xL X) K len I14 J R hs14 a0 ka0 x14_6 h hh kh lk hlk2 klk rd hrd krd lv hlv klv llv kn hkn kkn lkn cr hcr kcr1 lcr hu D E v14_7 N (by rw [hF14.get krd rfl]; exact hN) mf hmf kmf lmf v14_6 (by omega) (by omega)) mT_4_7 mT_1_1 mT_4_4 mT_4_6 mP_35 okX8_isFit ⟨by decide, by decide⟩ rfl (by show kO (K a0) = _; rw [ka0]; rfl) rfl rfl (Nat.le_of_ble_eq_true rfl) ⟨by decide, by decide⟩ dX8_tell_75 (aI0 (F := fun st M => P g X 7 78 [(0, .ref a0), (1, .int x1), (2, .int x2), (3, .int x9_), (4, .int x14_4), (5, .int x14_5), (6, .int x14_6)] st _ _ M) (M := (K, len, I14, J, R)) fun x33_ h33 => ?_)
              have k33_0 := h33
              clear h33
              show P g X 7 78 [(0, .ref a0), (1, .int x1), (2, .int x2), (3, .int x9_), (4, .int x14_4), (5, .int x14_5), (6, .int x14_6)] [.int x33_] _ _ (K, len, I14, J, R)
              refine r_if_eq hC (tgt := 125) dX8_tell_78 (by decide) (fun c34 => ?_) (fun c34 => ?_)
              · obtain ⟨x35_, e35⟩ : ∃ z : Int32, z = x14_6 + Int32.ofInt (1) := ⟨_, rfl⟩
                refine r_iinc hC (j := 6) (v := x35_) (lv' := [(6, .int x35_), (0, .ref a0), (1, .int x1), (2, .int x2), (3, .int x9_), (4, .int x14_4), (5, .int x14_5)]) dX8_tell_125 rfl (by rw [e35]) (by decide) rfl ?_
                try have t35 : x35_.toInt = x14_6.toInt + (1) := by rw [e35]; exact (ti_add (b := Int32.ofInt (1)) (by show _ ≤ _ + (1 : Int); omega) (by show _ + (1 : Int) ≤ _; omega))
                refine r_goto hC (tgt := 60) dX8_tell_128 (by decide) ?_
                refine r_sub [1, 2, 3, 4, 5, 6, 0] rfl ?_
                exact ih14 ((6 - x35_.toInt).toNat) (by omega) x35_ x14_5 x14_4 I14 hs14 hF14 (by omega) (by omega) (by first | (rw [show x35_.toInt.toNat = 0 by omega]; show _ = (0 : Int); omega) | (rw [show x35_.toInt.toNat = x14_6.toInt.toNat + 1 by omega, Tw_t (by omega)]; omega) | (rw [show x35_.toInt.toNat = x14_6.toInt.toNat + 1 by omega, Tw_n (by omega)]; omega)) (by first | (rw [show x35_.toInt.toNat = 0 by omega]; show _ = (60 : Int); omega) | (rw [show x35_.toInt.toNat = x14_6.toInt.toNat + 1 by omega, Tf_t (by omega)]; omega) | (rw [show x35_.toInt.toNat = x14_6.toInt.toNat + 1 by omega, Tf_n (by omega)]; omega)) (by omega) (by omega) (by exact v14_6) (by exact v14_7) rfl
              · refine r_aload_n hC dX8_tell_81 0 rfl ?_
                refine r_iload hC dX8_tell_82 6 rfl ?_
                refine r_iload_n hC dX8_tell_84 1 rfl ?_
                refine r_callV hC (As := [.int x14_6, .int x1]) (rest := []) (ci := 8) (f_X8_strikes g (xL X) K len I14 J R hs14 a0 ka0 x14_6 x1 h hh kh lk hlk2 klk rd hrd krd lv hlv klv llv kn hkn kkn lkn cr hcr kcr1 lcr hu D E v14_7 (by omega) (by omega) (by omega) (by omega)) mT_4_123 mT_1_1 mT_4_120 mT_4_122 mP_46 okX8_strikes ⟨by decide, by decide⟩ rfl (by show kO (K a0) = _; rw [ka0]; rfl) rfl rfl (Nat.le_of_ble_eq_true rfl) ⟨by decide, by decide⟩ dX8_tell_85 (aI1 (F := fun st M => P g X 7 88 [(0, .ref a0), (1, .int x1), (2, .int x2), (3, .int x9_), (4, .int x14_4), (5, .int x14_5), (6, .int x14_6)] st _ _ M) (M := (K, len, I14, J, R)) fun x36_ I36 h36 => ?_)
                obtain ⟨hs36, hf36, k36_0, k36_1⟩ := h36
                show P g X 7 88 [(0, .ref a0), (1, .int x1), (2, .int x2), (3, .int x9_), (4, .int x14_4), (5, .int x14_5), (6, .int x14_6)] [.int x36_] _ _ (K, len, I36, J, R)
                have hF36 : Fr K [(1, 5), (1, 6), (9, 12), (43, 999), (50, 999), (51, 999), (52, 999), (53, 999), (54, 999), (67, 999)] I I36 := hF14.trans hf36 rfl rfl
                have mff36 : ∀ j : Nat, (j : Int) < D 0 7 → (I36 mf j).toInt = Mf D E j N := fun j hj => by rw [hf36.get kmf rfl]; exact v14_6 j hj
                refine r_if_eq hC (tgt := 125) dX8_tell_88 (by decide) (fun c37 => ?_) (fun c37 => ?_)
                · obtain ⟨x38_, e38⟩ : ∃ z : Int32, z = x14_6 + Int32.ofInt (1) := ⟨_, rfl⟩
                  refine r_iinc hC (j := 6) (v := x38_) (lv' := [(6, .int x38_), (0, .ref a0), (1, .int x1), (2, .int x2), (3, .int x9_), (4, .int x14_4), (5, .int x14_5)]) dX8_tell_125 rfl (by rw [e38]) (by decide) rfl ?_
                  try have t38 : x38_.toInt = x14_6.toInt + (1) := by rw [e38]; exact (ti_add (b := Int32.ofInt (1)) (by show _ ≤ _ + (1 : Int); omega) (by show _ + (1 : Int) ≤ _; omega))
                  refine r_goto hC (tgt := 60) dX8_tell_128 (by decide) ?_
                  refine r_sub [1, 2, 3, 4, 5, 6, 0] rfl ?_
                  exact ih14 ((6 - x38_.toInt).toNat) (by omega) x38_ x14_5 x14_4 I36 hs36 hF36 (by omega) (by omega) (by first | (rw [show x38_.toInt.toNat = 0 by omega]; show _ = (0 : Int); omega) | (rw [show x38_.toInt.toNat = x14_6.toInt.toNat + 1 by omega, Tw_t (by omega)]; omega) | (rw [show x38_.toInt.toNat = x14_6.toInt.toNat + 1 by omega, Tw_n (by omega)]; omega)) (by first | (rw [show x38_.toInt.toNat = 0 by omega]; show _ = (60 : Int); omega) | (rw [show x38_.toInt.toNat = x14_6.toInt.toNat + 1 by omega, Tf_t (by omega)]; omega) | (rw [show x38_.toInt.toNat = x14_6.toInt.toNat + 1 by omega, Tf_n (by omega)]; omega)) (by omega) (by omega) (by exact mff36) (by exact k36_0) rfl
                · refine r_iload hC dX8_tell_91 4 rfl ?_
                  refine r_aload_n hC dX8_tell_93 0 rfl ?_
                  refine r_getr hC 2 (ci := 8) rfl u8_in (by decide) mT_2_80 dX8_tell_94 ka0 rfl rfl hh ?_
                  obtain ⟨a39_, hb39, hk39, hn39⟩ := hs36.row kh 7 45 6 (by decide) (by decide)
                  refine r_getr hC 7 (ci := 1) rfl u1_in (by decide) mT_1_205 dX8_tell_97 kh rfl rfl hb39 ?_
                  refine r_iload hC dX8_tell_100 6 rfl ?_
                  obtain ⟨a40_, hb40, hk40⟩ := hs36.sto hk39 (i := x14_6) (by omega) (by omega)
                  refine x_aaload (C := "HillTap$Story") hC hk39 hn39 (by decide) rfl (by decide) dX8_tell_102 (by omega) (by omega) hb40 ?_
                  refine r_geti hC 0 (ci := 4) rfl u4_in (by decide) mT_1_161 dX8_tell_103 hk40 rfl rfl (fun x41_ e41 => ?_)
                  have f41 : x41_.toInt = (I36 a40_ 0).toInt := by rw [e41]
                  have q41 : x41_.toInt = D 6 x14_6.toInt.toNat := by rw [e41]; exact (k36_0.sto hb39 (by rw [← clx (i := x14_6) rfl (by omega)]; exact hb40) (by omega) (by omega)).1
                  have jb41 : 0 ≤ D 6 x14_6.toInt.toNat ∧ D 6 x14_6.toInt.toNat ≤ 99 := ((k36_0.2.2.1 (by omega)).1).2.2.2.1 6 _ (by decide) (by decide) (by decide)
                  refine r_iadd hC dX8_tell_106 (fun x42_ e42 => ?_)
                  try have t42 : x42_.toInt = x14_4.toInt + x41_.toInt := by rw [e42]; exact ti_add (by omega) (by omega)
                  refine r_istore hC (lv' := [(4, .int x42_), (0, .ref a0), (1, .int x1), (2, .int x2), (3, .int x9_), (5, .int x14_5), (6, .int x14_6)]) dX8_tell_107 (by decide) rfl ?_
                  refine r_iload hC dX8_tell_109 5 rfl ?_
                  refine r_aload_n hC dX8_tell_111 1 rfl ?_
                  refine r_iload hC dX8_tell_112 6 rfl ?_
                  refine r_callV hC (As := [.int x14_6]) (rest := [.int x14_5]) (ci := 8) (f_X8_courseOf g (xL X) K len I36 J R hs36 a0 ka0 x14_6 h hh kh lk hlk2 klk rd hrd krd lv hlv klv llv kn hkn kkn lkn cr hcr kcr1 lcr hu D E k36_0 (by omega) (by omega)) mT_3_163 mT_1_1 mT_3_160 mT_3_162 mP_26 okX8_courseOf ⟨by decide, by decide⟩ rfl (by show kO (K a0) = _; rw [ka0]; rfl) rfl rfl (Nat.le_of_ble_eq_true rfl) ⟨by decide, by decide⟩ dX8_tell_114 (aR1 (F := fun st M => P g X 7 117 [(4, .int x42_), (0, .ref a0), (1, .int x1), (2, .int x2), (3, .int x9_), (5, .int x14_5), (6, .int x14_6)] st _ _ M) (M := (K, len, I36, J, R)) fun a43_ I43 h43 => ?_)
                  obtain ⟨hs43, hf43, k43_0, k43_1, k43_2, k43_3, k43_4⟩ := h43
                  show P g X 7 117 [(4, .int x42_), (0, .ref a0), (1, .int x1), (2, .int x2), (3, .int x9_), (5, .int x14_5), (6, .int x14_6)] [.ref a43_, .int x14_5] _ _ (K, len, I43, J, R)
                  have hF43 : Fr K [(1, 5), (1, 6), (9, 12), (43, 999), (50, 999), (51, 999), (52, 999), (53, 999), (54, 999), (67, 999)] I I43 := hF36.trans hf43 rfl rfl
                  have mff43 : ∀ j : Nat, (j : Int) < D 0 7 → (I43 mf j).toInt = Mf D E j N := fun j hj => by rw [hf43.get kmf rfl]; exact mff36 j hj
                  refine r_geti hC 5 (ci := 0) rfl u0_in (by decide) mT_2_36 dX8_tell_117 k43_0 rfl rfl (fun x44_ e44 => ?_)
                  have f44 : x44_.toInt = (I43 a43_ 5).toInt := by rw [e44]
                  have q44 : x44_.toInt = GV D x14_6.toInt.toNat (Ad D x14_6.toInt.toNat (LP1 D) 1) 60 := by rw [e44]; exact k43_3.2.1
                  refine r_mmin hC mT_4_133 mT_2_154 mT_1_12 mT_2_155 (by decide) (Nat.le_of_ble_eq_true rfl) (Nat.zero_le _) (Nat.zero_le _) dX8_tell_120 (fun x45_ e45 t45a t45b t45c => ?_)
                  refine r_istore hC (lv' := [(5, .int x45_), (4, .int x42_), (0, .ref a0), (1, .int x1), (2, .int x2), (3, .int x9_), (6, .int x14_6)]) dX8_tell_123 (by decide) rfl ?_
                  obtain ⟨x46_, e46⟩ : ∃ z : Int32, z = x14_6 + Int32.ofInt (1) := ⟨_, rfl⟩
                  refine r_iinc hC (j := 6) (v := x46_) (lv' := [(6, .int x46_), (5, .int x45_), (4, .int x42_), (0, .ref a0), (1, .int x1), (2, .int x2), (3, .int x9_)]) dX8_tell_125 rfl (by rw [e46]) (by decide) rfl ?_
                  try have t46 : x46_.toInt = x14_6.toInt + (1) := by rw [e46]; exact (ti_add (b := Int32.ofInt (1)) (by show _ ≤ _ + (1 : Int); omega) (by show _ + (1 : Int) ≤ _; omega))
                  refine r_goto hC (tgt := 60) dX8_tell_128 (by decide) ?_
                  refine r_sub [3, 4, 5, 6, 2, 1, 0] rfl ?_
                  exact ih14 ((6 - x46_.toInt).toNat) (by omega) x46_ x45_ x42_ I43 hs43 hF43 (by omega) (by omega) (by first | (rw [show x46_.toInt.toNat = 0 by omega]; show _ = (0 : Int); omega) | (rw [show x46_.toInt.toNat = x14_6.toInt.toNat + 1 by omega, Tw_t (by omega)]; omega) | (rw [show x46_.toInt.toNat = x14_6.toInt.toNat + 1 by omega, Tw_n (by omega)]; omega)) (by first | (rw [show x46_.toInt.toNat = 0 by omega]; show _ = (60 : Int); omega) | (rw [show x46_.toInt.toNat = x14_6.toInt.toNat + 1 by omega, Tf_t (by omega)]; omega) | (rw [show x46_.toInt.toNat = x14_6.toInt.toNat + 1 by omega, Tf_n (by omega)]; omega)) (by omega) (by omega) (by exact mff43) (by exact k43_2) rfl
          refine r_sub [4, 5, 6, 3, 2, 1, 0] rfl ?_
          exact LP14 _ x13_ x12_ x11_ I8 hs8 hF8 (by omega) (by omega) (by first | (rw [show x13_.toInt.toNat = 0 by omega]; show _ = (0 : Int); omega) | (rw [show x13_.toInt.toNat = x14_6.toInt.toNat + 1 by omega, Tw_t (by omega)]; omega) | (rw [show x13_.toInt.toNat = x14_6.toInt.toNat + 1 by omega, Tw_n (by omega)]; omega)) (by first | (rw [show x13_.toInt.toNat = 0 by omega]; show _ = (60 : Int); omega) | (rw [show x13_.toInt.toNat = x14_6.toInt.toNat + 1 by omega, Tf_t (by omega)]; omega) | (rw [show x13_.toInt.toNat = x14_6.toInt.toNat + 1 by omega, Tf_n (by omega)]; omega)) (by omega) (by omega) (by exact k8_1) (by exact k8_0) rfl
        · refine r_aload_n hC dX8_tell_43 1 rfl ?_
          refine r_bipush hC (v := (6)) dX8_tell_44 (by decide) (by decide) (fun x47_ e47 t47 => ?_)
          refine r_callV hC (As := [.int x47_]) (rest := []) (ci := 8) (c_X8_refuse g (xL X) K len I8 J R hs8 a0 ka0 x47_) mT_2_133 mT_1_1 mT_2_130 mT_2_132 mP_0 okX8_refuse ⟨by decide, by decide⟩ rfl (by show kO (K a0) = _; rw [ka0]; rfl) rfl rfl (Nat.le_of_ble_eq_true rfl) ⟨by decide, by decide⟩ dX8_tell_46 (aI1 (F := fun st M => P g X 7 49 [(3, .int x9_), (0, .ref a0), (1, .int x1), (2, .int x2)] st _ _ M) (M := (K, len, I8, J, R)) fun x48_ I48 h48 => ?_)
          obtain ⟨hs48, hf48, k48_0, k48_1⟩ := h48
          show P g X 7 49 [(3, .int x9_), (0, .ref a0), (1, .int x1), (2, .int x2)] [.int x48_] _ _ (K, len, I48, J, R)
          have hF48 : Fr K [(1, 5), (1, 6), (9, 12), (43, 999), (50, 999), (51, 999), (52, 999), (53, 999), (54, 999), (67, 999)] I I48 := hF8.trans hf48 rfl rfl
          have hc48 := k8_0.mv ka hf48 rfl
          have mff48 : ∀ j : Nat, (j : Int) < D 0 7 → (I48 mf j).toInt = Mf D E j N := fun j hj => by rw [hf48.get kmf rfl]; exact k8_1 j hj
          exact r_iret hC hQ hlk hr rfl (by decide) (by decide) dX8_tell_49 ⟨_, _, rfl, rfl, ⟨hs48, hF48, (by exact hc48), (by first | exact Or.inr ⟨by omega, by omega⟩ | exact Or.inl ⟨by omega, (congrArg Int32.toInt k48_0).trans (by first | (rw [TeV_n (Or.inl (by omega))]; omega) | (rw [TeV_n (Or.inr (by rw [show Tw D E N x1.toInt.toNat (D 0 7).toNat * D 11 x1.toInt.toNat = NOm1.toInt by rw [← twe, ← NOqp, NOtm1], show x2.toInt * Wf D E N (D 0 7).toNat = NOm2.toInt by rw [NOqw, NOtm2]]; omega))]; omega) | (rw [TeV_t (by rw [show Tw D E N x1.toInt.toNat (D 0 7).toNat * D 11 x1.toInt.toNat = NOm1.toInt by rw [← twe, ← NOqp, NOtm1], show x2.toInt * Wf D E N (D 0 7).toNat = NOm2.toInt by rw [NOqw, NOtm2]]; omega)]; omega))⟩), (by omega)⟩⟩
      · refine r_aload_n hC dX8_tell_24 0 rfl ?_
        refine r_iconst hC (v := (2)) dX8_tell_25 (by decide) (by decide) (fun x49_ e49 t49 => ?_)
        refine r_callV hC (As := [.int x49_]) (rest := []) (ci := 8) (c_X8_refuse g (xL X) K len I J R hs a0 ka0 x49_) mT_2_133 mT_1_1 mT_2_130 mT_2_132 mP_0 okX8_refuse ⟨by decide, by decide⟩ rfl (by show kO (K a0) = _; rw [ka0]; rfl) rfl rfl (Nat.le_of_ble_eq_true rfl) ⟨by decide, by decide⟩ dX8_tell_26 (aI1 (F := fun st M => P g X 7 29 [(0, .ref a0), (1, .int x1), (2, .int x2)] st _ _ M) (M := (K, len, I, J, R)) fun x50_ I50 h50 => ?_)
        obtain ⟨hs50, hf50, k50_0, k50_1⟩ := h50
        show P g X 7 29 [(0, .ref a0), (1, .int x1), (2, .int x2)] [.int x50_] _ _ (K, len, I50, J, R)
        have hF50 : Fr K [(1, 5), (1, 6), (9, 12), (43, 999), (50, 999), (51, 999), (52, 999), (53, 999), (54, 999), (67, 999)] I I50 := hF.trans hf50 rfl rfl
        have hc50 := hc.mv ka hf50 rfl
        exact r_iret hC hQ hlk hr rfl (by decide) (by decide) dX8_tell_29 ⟨_, _, rfl, rfl, ⟨hs50, hF50, (by exact hc50), (by first | exact Or.inr ⟨by omega, by omega⟩ | exact Or.inl ⟨by omega, (congrArg Int32.toInt k50_0).trans (by first | (rw [TeV_n (Or.inl (by omega))]; omega) | (rw [TeV_n (Or.inr (by rw [show Tw D E N x1.toInt.toNat (D 0 7).toNat * D 11 x1.toInt.toNat = NOm1.toInt by rw [← twe, ← NOqp, NOtm1], show x2.toInt * Wf D E N (D 0 7).toNat = NOm2.toInt by rw [NOqw, NOtm2]]; omega))]; omega) | (rw [TeV_t (by rw [show Tw D E N x1.toInt.toNat (D 0 7).toNat * D 11 x1.toInt.toNat = NOm1.toInt by rw [← twe, ← NOqp, NOtm1], show x2.toInt * Wf D E N (D 0 7).toNat = NOm2.toInt by rw [NOqw, NOtm2]]; omega)]; omega))⟩), (by omega)⟩⟩
  · refine r_if_ne hC (tgt := 14) dX8_tell_5 (by decide) (fun c51 => ?_) (fun c51 => ?_)
    · exfalso; omega
    refine r_aload_n hC dX8_tell_8 0 rfl ?_
    refine r_iconst hC (v := (1)) dX8_tell_9 (by decide) (by decide) (fun x52_ e52 t52 => ?_)
    refine r_callV hC (As := [.int x52_]) (rest := []) (ci := 8) (c_X8_refuse g (xL X) K len I J R hs a0 ka0 x52_) mT_2_133 mT_1_1 mT_2_130 mT_2_132 mP_0 okX8_refuse ⟨by decide, by decide⟩ rfl (by show kO (K a0) = _; rw [ka0]; rfl) rfl rfl (Nat.le_of_ble_eq_true rfl) ⟨by decide, by decide⟩ dX8_tell_10 (aI1 (F := fun st M => P g X 7 13 [(0, .ref a0), (1, .int x1), (2, .int x2)] st _ _ M) (M := (K, len, I, J, R)) fun x53_ I53 h53 => ?_)
    obtain ⟨hs53, hf53, k53_0, k53_1⟩ := h53
    show P g X 7 13 [(0, .ref a0), (1, .int x1), (2, .int x2)] [.int x53_] _ _ (K, len, I53, J, R)
    have hF53 : Fr K [(1, 5), (1, 6), (9, 12), (43, 999), (50, 999), (51, 999), (52, 999), (53, 999), (54, 999), (67, 999)] I I53 := hF.trans hf53 rfl rfl
    have hc53 := hc.mv ka hf53 rfl
    exact r_iret hC hQ hlk hr rfl (by decide) (by decide) dX8_tell_13 ⟨_, _, rfl, rfl, ⟨hs53, hF53, (by exact hc53), (by first | exact Or.inr ⟨by omega, by omega⟩ | exact Or.inl ⟨by omega, (congrArg Int32.toInt k53_0).trans (by first | (rw [TeV_n (Or.inl (by omega))]; omega) | (rw [TeV_n (Or.inr (by rw [show Tw D E N x1.toInt.toNat (D 0 7).toNat * D 11 x1.toInt.toNat = NOm1.toInt by rw [← twe, ← NOqp, NOtm1], show x2.toInt * Wf D E N (D 0 7).toNat = NOm2.toInt by rw [NOqw, NOtm2]]; omega))]; omega) | (rw [TeV_t (by rw [show Tw D E N x1.toInt.toNat (D 0 7).toNat * D 11 x1.toInt.toNat = NOm1.toInt by rw [← twe, ← NOqp, NOtm1], show x2.toInt * Wf D E N (D 0 7).toNat = NOm2.toInt by rw [NOqw, NOtm2]]; omega)]; omega))⟩), (by omega)⟩⟩
set_option maxHeartbeats 4000000 in
set_option maxRecDepth 100000 in
theorem f_X10_tell (g : GG) (l : Launch) (K len : Nat → Nat) (I : Nat → Nat → Int32) (J : Nat → Nat → Int64) (R : Nat → Nat → Option Nat) (hs : Sf K len I R) (a0 : Nat) (ka0 : K a0 = 11) (x1 : Int32) (x2 : Int32) (D : DD) (E : Nat → Nat → Int) (hmx : ∀ hm, R a0 3 = some hm → MC D E a0 hm I R) (N : Nat) (hN : (I a0 20).toInt = N) : Ct g l yX10_tell cX10_tell 9 (Option.some Jvm.ClassFile.FieldType.int) rmX10_tell [.ref a0, .int x1, .int x2] (K, len, I, J, R) (pI1 (K, len, I, J, R) (fun r I' => Sf K len I' R ∧ Fr K [(11, 0), (11, 1), (11, 2), (11, 19), (85, 999), (86, 999), (87, 999), (88, 999), (93, 999)] I I' ∧ ((R a0 3 = none ∧ r.toInt = -1) ∨ (∃ hm, R a0 3 = some hm ∧ (((0 ≤ x1.toInt ∧ x1.toInt < D 0 8) ∧ (0 ≤ x2.toInt ∧ x2.toInt ≤ 999999) ∧ Wf D E N (D 0 7).toNat ≠ 0) ∧ r.toInt = TeV D E N x1.toInt.toNat x2.toInt ∨ ¬ ((0 ≤ x1.toInt ∧ x1.toInt < D 0 8) ∧ (0 ≤ x2.toInt ∧ x2.toInt ≤ 999999) ∧ Wf D E N (D 0 7).toNat ≠ 0) ∧ r.toInt = -1))) ∧ ((I' a0 2).toInt = -1))) := by
  refine Ct_intro (by decide +kernel) (Nat.le_of_ble_eq_true rfl) (fun X hC hL hKK hNm hr hlk hQ => ?_)
  subst hL
  have hC : Cx g X cX10_tell "HillTapModel" 9 rmX10_tell := hC
  show P g X 9 0 [(0, .ref a0), (1, .int x1), (2, .int x2)] [] 0 0 (K, len, I, J, R)
  have hF : Fr K [(11, 0), (11, 1), (11, 2), (11, 19), (85, 999), (86, 999), (87, 999), (88, 999), (93, 999)] I I := Fr.refl
  obtain ⟨lr, hlr, klr, llr⟩ := hs.row ka0 15 85 60 (by decide) (by decide)
  obtain ⟨sr, hsr, ksr, lsr⟩ := hs.row ka0 16 86 300 (by decide) (by decide)
  obtain ⟨ir, hir, kir, lir⟩ := hs.row ka0 17 87 300 (by decide) (by decide)
  obtain ⟨wr, hwr, kwr, lwr⟩ := hs.row ka0 18 88 300 (by decide) (by decide)
  obtain ⟨ft, hft, kft, lft⟩ := hs.row ka0 25 93 6 (by decide) (by decide)
  have b_x1 := ti_rng x1
  have b_x2 := ti_rng x2
  obtain ⟨C20, eC20⟩ : ∃ z : Int32, z = I a0 20 := ⟨_, rfl⟩
  have fC20 : C20.toInt = (I a0 20).toInt := by rw [eC20]
  have rC20 := hs.rng ka0 rfl eC20
  rcases hs.2.1.2.2.1 a0 ka0 with hz | ⟨hm, hbm, khm⟩
  · refine r_aload_n hC dX10_tell_0 0 rfl ?_
    refine r_iconst hC (v := (0)) dX10_tell_1 (by decide) (by decide) (fun x1_ e1 t1 => ?_)
    refine r_puti hC 0 (ci := 10) rfl u10_in tyX10_ok nmX10 (by decide) mT_4_235 rfl rfl rfl dX10_tell_2 ka0 rfl rfl (fun I2 eI2 => ?_)
    have hs2 := hs.put0 eI2 ka0 rfl rfl rfl (by decide)
    have hF2 := hF.put eI2 ka0 rfl
    refine r_aload_n hC dX10_tell_5 0 rfl ?_
    refine r_iload_n hC dX10_tell_6 1 rfl ?_
    refine r_callV hC (As := [.int x1]) (rest := []) (ci := 10) (f_X10_isVillage g (xL X) K len I2 J R hs2 a0 ka0 x1) mT_7_51 mT_1_10 mT_7_48 mT_7_50 mP_94 okX10_isVillage ⟨by decide, by decide⟩ rfl (by show kO (K a0) = _; rw [ka0]; rfl) rfl rfl (Nat.le_of_ble_eq_true rfl) ⟨by decide, by decide⟩ dX10_tell_7 (aI0 (F := fun st M => P g X 9 10 [(0, .ref a0), (1, .int x1), (2, .int x2)] st _ _ M) (M := (K, len, I2, J, R)) fun x3_ h3 => ?_)
    have k3_0 := h3
    clear h3
    show P g X 9 10 [(0, .ref a0), (1, .int x1), (2, .int x2)] [.int x3_] _ _ (K, len, I2, J, R)
    have kq3 : x3_.toInt = 0 := by rcases k3_0 with ⟨z, y⟩ | ⟨hm9, z, y⟩; exact y; rw [hz] at z; cases z
    clear k3_0
    refine r_if_ne hC (tgt := 19) dX10_tell_10 (by decide) (fun c4 => ?_) (fun c4 => ?_)
    · exfalso; omega
    refine r_aload_n hC dX10_tell_13 0 rfl ?_
    refine r_iconst hC (v := (1)) dX10_tell_14 (by decide) (by decide) (fun x5_ e5 t5 => ?_)
    refine r_callV hC (As := [.int x5_]) (rest := []) (ci := 10) (c_X10_refused g (xL X) K len I2 J R hs2 a0 ka0 x5_) mT_5_85 mT_1_10 mT_5_82 mT_5_84 mP_48 okX10_refused ⟨by decide, by decide⟩ rfl (by show kO (K a0) = _; rw [ka0]; rfl) rfl rfl (Nat.le_of_ble_eq_true rfl) ⟨by decide, by decide⟩ dX10_tell_15 (aI1 (F := fun st M => P g X 9 18 [(0, .ref a0), (1, .int x1), (2, .int x2)] st _ _ M) (M := (K, len, I2, J, R)) fun x6_ I6 h6 => ?_)
    obtain ⟨hs6, hf6, k6_0, k6_1, k6_2⟩ := h6
    show P g X 9 18 [(0, .ref a0), (1, .int x1), (2, .int x2)] [.int x6_] _ _ (K, len, I6, J, R)
    have hF6 : Fr K [(11, 0), (11, 1), (11, 2), (11, 19), (85, 999), (86, 999), (87, 999), (88, 999), (93, 999)] I I6 := hF2.trans hf6 rfl rfl
    exact r_iret hC hQ hlk hr rfl (by decide) (by decide) dX10_tell_18 ⟨_, _, rfl, rfl, ⟨hs6, hF6, (by first | exact Or.inl ⟨hz, by omega⟩ | exact Or.inr ⟨hm, hbm, Or.inr ⟨by omega, by omega⟩⟩ | exact Or.inr ⟨hm, hbm, Or.inl ⟨by omega, (congrArg Int32.toInt k6_0).trans (by first | (rw [TeV_n (Or.inl (by omega))]; omega) | (rw [TeV_n (Or.inr (by rw [show Tw D E N x1.toInt.toNat (D 0 7).toNat * D 11 x1.toInt.toNat = NOm1.toInt by rw [← twe, ← NOqp, NOtm1], show x2.toInt * Wf D E N (D 0 7).toNat = NOm2.toInt by rw [NOqw, NOtm2]]; omega))]; omega) | (rw [TeV_t (by rw [show Tw D E N x1.toInt.toNat (D 0 7).toNat * D 11 x1.toInt.toNat = NOm1.toInt by rw [← twe, ← NOqp, NOtm1], show x2.toInt * Wf D E N (D 0 7).toNat = NOm2.toInt by rw [NOqw, NOtm2]]; omega)]; omega))⟩⟩), (by omega)⟩⟩
  · obtain ⟨S0, eS0⟩ : ∃ z : Int32, z = I hm 7 := ⟨_, rfl⟩
    have fS0 : S0.toInt = (I hm 7).toInt := by rw [eS0]
    have rS0 := hs.rng khm rfl eS0
    have mc := hmx hm hbm
    obtain ⟨⟨hJ, hR6, hD7⟩, rwm, ⟨hd1, hd2, hd3, hd4, hd5, hd7, hd8, hd9⟩, -⟩ := id mc
    have hcx := CM_x hs khm
    have b5 := hs.rng khm (k := 3) rfl (x := I hm 3) rfl
    have b7 := hs.rng khm (k := 7) rfl (x := I hm 7) rfl
    have b8 := hs.rng khm (k := 8) rfl (x := I hm 8) rfl
    have b20 := hs.rng ka0 (k := 20) rfl (x := I a0 20) rfl
    refine r_aload_n hC dX10_tell_0 0 rfl ?_
    refine r_iconst hC (v := (0)) dX10_tell_1 (by decide) (by decide) (fun x7_ e7 t7 => ?_)
    refine r_puti hC 0 (ci := 10) rfl u10_in tyX10_ok nmX10 (by decide) mT_4_235 rfl rfl rfl dX10_tell_2 ka0 rfl rfl (fun I8 eI8 => ?_)
    have hs8 := hs.put0 eI8 ka0 rfl rfl rfl (by decide)
    have hF8 := hF.put eI8 ka0 rfl
    refine r_aload_n hC dX10_tell_5 0 rfl ?_
    refine r_iload_n hC dX10_tell_6 1 rfl ?_
    refine r_callV hC (As := [.int x1]) (rest := []) (ci := 10) (f_X10_isVillage g (xL X) K len I8 J R hs8 a0 ka0 x1) mT_7_51 mT_1_10 mT_7_48 mT_7_50 mP_94 okX10_isVillage ⟨by decide, by decide⟩ rfl (by show kO (K a0) = _; rw [ka0]; rfl) rfl rfl (Nat.le_of_ble_eq_true rfl) ⟨by decide, by decide⟩ dX10_tell_7 (aI0 (F := fun st M => P g X 9 10 [(0, .ref a0), (1, .int x1), (2, .int x2)] st _ _ M) (M := (K, len, I8, J, R)) fun x9_ h9 => ?_)
    have k9_0 := h9
    clear h9
    show P g X 9 10 [(0, .ref a0), (1, .int x1), (2, .int x2)] [.int x9_] _ _ (K, len, I8, J, R)
    have kq9 : x9_.toInt = 1 ∧ (0 ≤ x1.toInt ∧ x1.toInt < D 0 8) ∨ x9_.toInt = 0 ∧ ¬ (0 ≤ x1.toInt ∧ x1.toInt < D 0 8) := by rcases k9_0 with ⟨z, -⟩ | ⟨hm9, z, y⟩ <;> rw [hbm] at z <;> cases z; rw [show (I8 hm 8).toInt = _ from (mc.mv hs ka0 khm hF8 rfl).2.2.1.2.2.2.2.2.2.1] at y; exact y
    clear k9_0
    refine r_if_ne hC (tgt := 19) dX10_tell_10 (by decide) (fun c10 => ?_) (fun c10 => ?_)
    · refine r_iload_n hC dX10_tell_19 2 rfl ?_
      refine r_iconst hC (v := (0)) dX10_tell_20 (by decide) (by decide) (fun x11_ e11 t11 => ?_)
      refine r_ldcw hC (n := 999999) (v := 999999) mT_7_64 dX10_tell_21 (by decide) (fun x12_ e12 t12 => ?_)
      refine r_callS hC (As := [.int x2, .int x11_, .int x12_]) (rest := []) (f_X10_in g (xL X) K len I8 J R hs8 x2 x11_ x12_) mT_6_8 mT_1_10 mT_6_6 mT_6_7 okX10_in ⟨by decide, by decide⟩ rfl rfl (Nat.le_of_ble_eq_true rfl) ⟨by decide, by decide⟩ dX10_tell_24 (aI0 (F := fun st M => P g X 9 27 [(0, .ref a0), (1, .int x1), (2, .int x2)] st _ _ M) (M := (K, len, I8, J, R)) fun x13_ h13 => ?_)
      have k13_0 := h13
      clear h13
      show P g X 9 27 [(0, .ref a0), (1, .int x1), (2, .int x2)] [.int x13_] _ _ (K, len, I8, J, R)
      rcases k13_0 with ⟨hr13, hw13⟩ | ⟨hr13, hw13⟩
      · refine r_if_ne hC (tgt := 36) dX10_tell_27 (by decide) (fun c14 => ?_) (fun c14 => ?_)
        rotate_left
        · exfalso; omega
        refine r_aload_n hC dX10_tell_36 0 rfl ?_
        refine r_callV hC (As := []) (rest := []) (ci := 10) (f_X10_weighs g (xL X) K len I8 J R hs8 a0 ka0 hm hbm khm lr hlr klr llr sr hsr ksr lsr ir hir kir lir wr hwr kwr lwr D E (mc.mv hs ka0 khm hF8 rfl) N (by rw [hF8.get ka0 rfl]; exact hN) ft hft kft lft) mT_6_200 mT_1_10 mT_6_197 mT_6_199 mP_84 okX10_weighs ⟨by decide, by decide⟩ rfl (by show kO (K a0) = _; rw [ka0]; rfl) rfl rfl (Nat.le_of_ble_eq_true rfl) ⟨by decide, by decide⟩ dX10_tell_37 (aI1 (F := fun st M => P g X 9 40 [(0, .ref a0), (1, .int x1), (2, .int x2)] st _ _ M) (M := (K, len, I8, J, R)) fun x15_ I15 h15 => ?_)
        obtain ⟨hs15, hf15, k15_0, k15_1, k15_2⟩ := h15
        show P g X 9 40 [(0, .ref a0), (1, .int x1), (2, .int x2)] [.int x15_] _ _ (K, len, I15, J, R)
        have hF15 : Fr K [(11, 0), (11, 1), (11, 2), (11, 19), (85, 999), (86, 999), (87, 999), (88, 999), (93, 999)] I I15 := hF8.trans hf15 rfl rfl
        refine r_i2l hC dX10_tell_40 (fun y16_ e16 => ?_)
        have tl16 : y16_.toInt = x15_.toInt := by rw [e16]; exact Int32.toInt_toInt64 _
        refine r_lstore_n hC (lv' := [(3, .long y16_), (0, .ref a0), (1, .int x1), (2, .int x2)]) dX10_tell_41 (by decide) rfl ?_
        refine r_lload_n hC dX10_tell_42 0 rfl ?_
        refine r_lconst hC (v := 0) dX10_tell_43 (by decide) (fun y17_ e17 => ?_)
        have tj17 : y17_.toInt = 0 := by rw [e17]; rfl
        refine r_lcmp hC dX10_tell_44 (fun x18_ e18 => ?_)
        have tl18 := lg3 e18
        refine r_if_ne hC (tgt := 55) dX10_tell_45 (by decide) (fun c19 => ?_) (fun c19 => ?_)
        · refine r_lconst hC (v := 0) dX10_tell_55 (by decide) (fun y20_ e20 => ?_)
          have tj20 : y20_.toInt = 0 := by rw [e20]; rfl
          refine r_lstore hC (lv' := [(5, .long y20_), (3, .long y16_), (0, .ref a0), (1, .int x1), (2, .int x2)]) dX10_tell_56 (by decide) rfl ?_
          refine r_bipush hC (v := (60)) dX10_tell_58 (by decide) (by decide) (fun x21_ e21 t21 => ?_)
          refine r_istore hC (lv' := [(7, .int x21_), (5, .long y20_), (3, .long y16_), (0, .ref a0), (1, .int x1), (2, .int x2)]) dX10_tell_60 (by decide) rfl ?_
          refine r_iconst hC (v := (0)) dX10_tell_62 (by decide) (by decide) (fun x22_ e22 t22 => ?_)
          refine r_istore hC (lv' := [(8, .int x22_), (7, .int x21_), (5, .long y20_), (3, .long y16_), (0, .ref a0), (1, .int x1), (2, .int x2)]) dX10_tell_63 (by decide) rfl ?_
          have LP23 : ∀ (mu : Nat) (x23_8 : Int32) (x23_7 : Int32) (y23_5 : Int64) (I23 : Nat → Nat → Int32) (hs23 : Sf K len I23 R) (hF23 : Fr K [(11, 0), (11, 1), (11, 2), (11, 19), (85, 999), (86, 999), (87, 999), (88, 999), (93, 999)] I I23) (v23_0 : 0 ≤ x23_8.toInt) (v23_1 : x23_8.toInt ≤ D 0 7) (v23_2 : y23_5.toInt = Tw D E N x1.toInt.toNat x23_8.toInt.toNat) (v23_3 : x23_7.toInt = Tf D E N x1.toInt.toNat x23_8.toInt.toNat) (v23_4 : 0 ≤ y23_5.toInt ∧ y23_5.toInt ≤ 99 * x23_8.toInt) (v23_5 : -2 ≤ x23_7.toInt ∧ x23_7.toInt ≤ 60) (v23_6 : ∀ j : Nat, (j : Int) < D 0 7 → (I23 ft j).toInt = Fb D E N j), (6 - x23_8.toInt).toNat = mu → P g X 9 65 [(0, .ref a0), (1, .int x1), (2, .int x2), (3, .long y16_), (5, .long y23_5), (7, .int x23_7), (8, .int x23_8)] [] 0 0 (K, len, I23, J, R) := by
            intro mu; induction mu using Nat.strongRecOn with | ind mu ih => ?_
            intro x23_8 x23_7 y23_5 I23 hs23 hF23 v23_0 v23_1 v23_2 v23_3 v23_4 v23_5 v23_6 hmu
            have ih23 := ih
            clear ih
            have hmu23 := hmu
            clear hmu
            refine r_iload hC dX10_tell_65 6 rfl ?_
            refine r_aload_n hC dX10_tell_67 0 rfl ?_
            refine r_getr hC 3 (ci := 10) rfl u10_in (by decide) mT_4_238 dX10_tell_68 ka0 rfl rfl hbm ?_
            refine r_getiN hC 7 (ci := 9) rfl u9_in (by decide) nF_7 dX10_tell_71 khm rfl rfl (fun x24_ e24 => ?_)
            have r24 := hs23.rng khm rfl e24
            have f24 : x24_.toInt = (I23 hm 7).toInt := by rw [e24]
            have w24 : x24_ = S0 := by rw [e24]; exact (Eq.trans (hF23.get khm rfl) eS0.symm)
            have wt24 : x24_.toInt = S0.toInt := by rw [w24]
            have sc24 : x24_.toInt = D 0 7 := by rw [e24]; exact (mc.mv hs ka0 khm hF23 rfl).2.2.1.2.2.2.2.2.1
            refine r_icmp_ge hC (tgt := 149) dX10_tell_74 (by decide) (fun c25 => ?_) (fun c25 => ?_)
            · have twe := v23_2
              have tfe := v23_3
              rw [show x23_8.toInt.toNat = (D 0 7).toNat by omega] at twe tfe
              refine r_lload hC dX10_tell_149 4 rfl ?_
              refine r_lconst hC (v := 0) dX10_tell_151 (by decide) (fun y26_ e26 => ?_)
              have tj26 : y26_.toInt = 0 := by rw [e26]; rfl
              refine r_lcmp hC dX10_tell_152 (fun x27_ e27 => ?_)
              have tl27 := lg3 e27
              refine r_if_eq hC (tgt := 177) dX10_tell_153 (by decide) (fun c28 => ?_) (fun c28 => ?_)
              · refine r_aload_n hC dX10_tell_177 0 rfl ?_
                refine r_bipush hC (v := (-2)) dX10_tell_178 (by decide) (by decide) (fun x29_ e29 t29 => ?_)
                refine r_callV hC (As := [.int x29_]) (rest := []) (ci := 10) (c_X10_done g (xL X) K len I23 J R hs23 a0 ka0 x29_) mT_6_79 mT_1_10 mT_6_76 mT_6_78 mP_67 okX10_done ⟨by decide, by decide⟩ rfl (by show kO (K a0) = _; rw [ka0]; rfl) rfl rfl (Nat.le_of_ble_eq_true rfl) ⟨by decide, by decide⟩ dX10_tell_180 (aI1 (F := fun st M => P g X 9 183 [(0, .ref a0), (1, .int x1), (2, .int x2), (3, .long y16_), (5, .long y23_5), (7, .int x23_7), (8, .int x23_8)] st _ _ M) (M := (K, len, I23, J, R)) fun x30_ I30 h30 => ?_)
                obtain ⟨hs30, hf30, k30_0, k30_1, k30_2⟩ := h30
                show P g X 9 183 [(0, .ref a0), (1, .int x1), (2, .int x2), (3, .long y16_), (5, .long y23_5), (7, .int x23_7), (8, .int x23_8)] [.int x30_] _ _ (K, len, I30, J, R)
                have hF30 : Fr K [(11, 0), (11, 1), (11, 2), (11, 19), (85, 999), (86, 999), (87, 999), (88, 999), (93, 999)] I I30 := hF23.trans hf30 rfl rfl
                have ftf30 : ∀ j : Nat, (j : Int) < D 0 7 → (I30 ft j).toInt = Fb D E N j := fun j hj => by rw [hf30.get kft rfl]; exact v23_6 j hj
                exact r_iret hC hQ hlk hr rfl (by decide) (by decide) dX10_tell_183 ⟨_, _, rfl, rfl, ⟨hs30, hF30, (by first | exact Or.inl ⟨hz, by omega⟩ | exact Or.inr ⟨hm, hbm, Or.inr ⟨by omega, by omega⟩⟩ | exact Or.inr ⟨hm, hbm, Or.inl ⟨by omega, (congrArg Int32.toInt k30_0).trans (by first | (rw [TeV_n (Or.inl (by omega))]; omega) | (rw [TeV_n (Or.inr (by rw [show Tw D E N x1.toInt.toNat (D 0 7).toNat * D 11 x1.toInt.toNat = NOm1.toInt by rw [← twe, ← NOqp, NOtm1], show x2.toInt * Wf D E N (D 0 7).toNat = NOm2.toInt by rw [NOqw, NOtm2]]; omega))]; omega) | (rw [TeV_t (by rw [show Tw D E N x1.toInt.toNat (D 0 7).toNat * D 11 x1.toInt.toNat = NOm1.toInt by rw [← twe, ← NOqp, NOtm1], show x2.toInt * Wf D E N (D 0 7).toNat = NOm2.toInt by rw [NOqw, NOtm2]]; omega)]; omega))⟩⟩), (by omega)⟩⟩
              · refine r_lload hC dX10_tell_156 4 rfl ?_
                refine r_aload_n hC dX10_tell_158 0 rfl ?_
                refine r_getr hC 3 (ci := 10) rfl u10_in (by decide) mT_4_238 dX10_tell_159 ka0 rfl rfl hbm ?_
                obtain ⟨a31_, hb31, hk31, hn31⟩ := hs23.row khm 21 78 4 (by decide) (by decide)
                refine r_getrN hC 21 (ci := 9) rfl u9_in (by decide) nF_21 dX10_tell_162 khm rfl rfl hb31 ?_
                refine r_iload_n hC dX10_tell_165 1 rfl ?_
                refine x_iaload hC hk31 hn31 (by decide) rfl rfl dX10_tell_166 (by omega) (by omega) (fun x32_ e32 => ?_)
                have q32 : x32_.toInt = D 11 x1.toInt.toNat := by rw [e32, clx (i := x1) rfl (by omega)]; exact (mc.mv hs ka0 khm hF23 rfl).hrw (r := 11) (by decide) (by decide) hb31 (by rw [cnt_11]; omega) (fun h9 => absurd h9 (by decide))
                have jb32 : 0 ≤ D 11 x1.toInt.toNat ∧ D 11 x1.toInt.toNat ≤ 999 := hJ.2.2.2.1 11 _ (by decide) (by decide) (by decide)
                refine r_i2l hC dX10_tell_167 (fun y33_ e33 => ?_)
                have tl33 : y33_.toInt = x32_.toInt := by rw [e33]; exact Int32.toInt_toInt64 _
                have qpp : y33_.toInt = D 11 x1.toInt.toNat := by omega
                refine r_lmul hC dX10_tell_168 (fun y34_ e34 => ?_)
                have mb34 := mul_b (a := y23_5.toInt) (b := y33_.toInt) (A := 600) (B := 999) (C := 599400) (by decide) (by omega) (by omega) (by omega) (by omega)
                have tm34 : y34_.toInt = y23_5.toInt * y33_.toInt := tj_mul e34 rfl rfl (by omega) (by omega)
                refine r_iload_n hC dX10_tell_169 2 rfl ?_
                refine r_i2l hC dX10_tell_170 (fun y35_ e35 => ?_)
                have tl35 : y35_.toInt = x2.toInt := by rw [e35]; exact Int32.toInt_toInt64 _
                refine r_lload_n hC dX10_tell_171 3 rfl ?_
                have wfe : Wf D E N (D 0 7).toNat = y16_.toInt := by omega
                have cse : x2.toInt = y35_.toInt := by omega
                refine r_lmul hC dX10_tell_172 (fun y36_ e36 => ?_)
                have mb36 := mul_b (a := y35_.toInt) (b := y16_.toInt) (A := 999999) (B := 600) (C := 599999400) (by decide) (by omega) (by omega) (by omega) (by omega)
                have tm36 : y36_.toInt = y35_.toInt * y16_.toInt := tj_mul e36 rfl rfl (by omega) (by omega)
                refine r_lcmp hC dX10_tell_173 (fun x37_ e37 => ?_)
                have tl37 := lg3 e37
                refine r_if_ge hC (tgt := 184) dX10_tell_174 (by decide) (fun c38 => ?_) (fun c38 => ?_)
                · refine r_aload_n hC dX10_tell_184 0 rfl ?_
                  refine r_iload hC dX10_tell_185 5 rfl ?_
                  refine r_aload_n hC dX10_tell_187 0 rfl ?_
                  refine r_getr hC 3 (ci := 10) rfl u10_in (by decide) mT_4_238 dX10_tell_188 ka0 rfl rfl hbm ?_
                  obtain ⟨a39_, hb39, hk39, hn39⟩ := hs23.row khm 22 79 4 (by decide) (by decide)
                  refine r_getrN hC 22 (ci := 9) rfl u9_in (by decide) nF_22 dX10_tell_191 khm rfl rfl hb39 ?_
                  refine r_iload_n hC dX10_tell_194 1 rfl ?_
                  refine x_iaload hC hk39 hn39 (by decide) rfl rfl dX10_tell_195 (by omega) (by omega) (fun x40_ e40 => ?_)
                  have q40 : x40_.toInt = D 12 x1.toInt.toNat := by rw [e40, clx (i := x1) rfl (by omega)]; exact (mc.mv hs ka0 khm hF23 rfl).hrw (r := 12) (by decide) (by decide) hb39 (by rw [cnt_12]; omega) (fun h9 => absurd h9 (by decide))
                  have jb40 : 0 ≤ D 12 x1.toInt.toNat ∧ D 12 x1.toInt.toNat ≤ 30 := hJ.2.2.2.1 12 _ (by decide) (by decide) (by decide)
                  refine r_icmp_le hC (tgt := 214) dX10_tell_196 (by decide) (fun c41 => ?_) (fun c41 => ?_)
                  · refine r_iconst hC (v := (0)) dX10_tell_214 (by decide) (by decide) (fun x42_ e42 t42 => ?_)
                    refine r_callV hC (As := [.int x42_]) (rest := []) (ci := 10) (c_X10_done g (xL X) K len I23 J R hs23 a0 ka0 x42_) mT_6_79 mT_1_10 mT_6_76 mT_6_78 mP_67 okX10_done ⟨by decide, by decide⟩ rfl (by show kO (K a0) = _; rw [ka0]; rfl) rfl rfl (Nat.le_of_ble_eq_true rfl) ⟨by decide, by decide⟩ dX10_tell_215 (aI1 (F := fun st M => P g X 9 218 [(0, .ref a0), (1, .int x1), (2, .int x2), (3, .long y16_), (5, .long y23_5), (7, .int x23_7), (8, .int x23_8)] st _ _ M) (M := (K, len, I23, J, R)) fun x43_ I43 h43 => ?_)
                    obtain ⟨hs43, hf43, k43_0, k43_1, k43_2⟩ := h43
                    show P g X 9 218 [(0, .ref a0), (1, .int x1), (2, .int x2), (3, .long y16_), (5, .long y23_5), (7, .int x23_7), (8, .int x23_8)] [.int x43_] _ _ (K, len, I43, J, R)
                    have hF43 : Fr K [(11, 0), (11, 1), (11, 2), (11, 19), (85, 999), (86, 999), (87, 999), (88, 999), (93, 999)] I I43 := hF23.trans hf43 rfl rfl
                    have ftf43 : ∀ j : Nat, (j : Int) < D 0 7 → (I43 ft j).toInt = Fb D E N j := fun j hj => by rw [hf43.get kft rfl]; exact v23_6 j hj
                    exact r_iret hC hQ hlk hr rfl (by decide) (by decide) dX10_tell_218 ⟨_, _, rfl, rfl, ⟨hs43, hF43, (by first | exact Or.inl ⟨hz, by omega⟩ | exact Or.inr ⟨hm, hbm, Or.inr ⟨by omega, by omega⟩⟩ | exact Or.inr ⟨hm, hbm, Or.inl ⟨by omega, (congrArg Int32.toInt k43_0).trans (by first | (rw [TeV_n (Or.inl (by omega))]; omega) | (rw [TeV_n (Or.inr (by rw [show Tw D E N x1.toInt.toNat (D 0 7).toNat * D 11 x1.toInt.toNat = y34_.toInt by rw [← twe, ← qpp, tm34], show x2.toInt * Wf D E N (D 0 7).toNat = y36_.toInt by rw [wfe, cse, tm36]]; omega))]; omega) | (rw [TeV_t (by rw [show Tw D E N x1.toInt.toNat (D 0 7).toNat * D 11 x1.toInt.toNat = y34_.toInt by rw [← twe, ← qpp, tm34], show x2.toInt * Wf D E N (D 0 7).toNat = y36_.toInt by rw [wfe, cse, tm36]]; omega)]; omega))⟩⟩), (by omega)⟩⟩
                  · refine r_iload hC dX10_tell_199 5 rfl ?_
                    refine r_aload_n hC dX10_tell_201 0 rfl ?_
                    refine r_getr hC 3 (ci := 10) rfl u10_in (by decide) mT_4_238 dX10_tell_202 ka0 rfl rfl hbm ?_
                    refine r_getrN hC 22 (ci := 9) rfl u9_in (by decide) nF_22 dX10_tell_205 khm rfl rfl hb39 ?_
                    refine r_iload_n hC dX10_tell_208 1 rfl ?_
                    refine x_iaload hC hk39 hn39 (by decide) rfl rfl dX10_tell_209 (by omega) (by omega) (fun x44_ e44 => ?_)
                    have q44 : x44_.toInt = D 12 x1.toInt.toNat := by rw [e44, clx (i := x1) rfl (by omega)]; exact (mc.mv hs ka0 khm hF23 rfl).hrw (r := 12) (by decide) (by decide) hb39 (by rw [cnt_12]; omega) (fun h9 => absurd h9 (by decide))
                    have jb44 : 0 ≤ D 12 x1.toInt.toNat ∧ D 12 x1.toInt.toNat ≤ 30 := hJ.2.2.2.1 12 _ (by decide) (by decide) (by decide)
                    refine r_isub hC dX10_tell_210 (fun x45_ e45 => ?_)
                    try have t45 : x45_.toInt = x23_7.toInt - x44_.toInt := by rw [e45]; exact ti_sub (by omega) (by omega)
                    refine r_goto hC (tgt := 215) dX10_tell_211 (by decide) ?_
                    refine r_callV hC (As := [.int x45_]) (rest := []) (ci := 10) (c_X10_done g (xL X) K len I23 J R hs23 a0 ka0 x45_) mT_6_79 mT_1_10 mT_6_76 mT_6_78 mP_67 okX10_done ⟨by decide, by decide⟩ rfl (by show kO (K a0) = _; rw [ka0]; rfl) rfl rfl (Nat.le_of_ble_eq_true rfl) ⟨by decide, by decide⟩ dX10_tell_215 (aI1 (F := fun st M => P g X 9 218 [(0, .ref a0), (1, .int x1), (2, .int x2), (3, .long y16_), (5, .long y23_5), (7, .int x23_7), (8, .int x23_8)] st _ _ M) (M := (K, len, I23, J, R)) fun x46_ I46 h46 => ?_)
                    obtain ⟨hs46, hf46, k46_0, k46_1, k46_2⟩ := h46
                    show P g X 9 218 [(0, .ref a0), (1, .int x1), (2, .int x2), (3, .long y16_), (5, .long y23_5), (7, .int x23_7), (8, .int x23_8)] [.int x46_] _ _ (K, len, I46, J, R)
                    have hF46 : Fr K [(11, 0), (11, 1), (11, 2), (11, 19), (85, 999), (86, 999), (87, 999), (88, 999), (93, 999)] I I46 := hF23.trans hf46 rfl rfl
                    have ftf46 : ∀ j : Nat, (j : Int) < D 0 7 → (I46 ft j).toInt = Fb D E N j := fun j hj => by rw [hf46.get kft rfl]; exact v23_6 j hj
                    exact r_iret hC hQ hlk hr rfl (by decide) (by decide) dX10_tell_218 ⟨_, _, rfl, rfl, ⟨hs46, hF46, (by first | exact Or.inl ⟨hz, by omega⟩ | exact Or.inr ⟨hm, hbm, Or.inr ⟨by omega, by omega⟩⟩ | exact Or.inr ⟨hm, hbm, Or.inl ⟨by omega, (congrArg Int32.toInt k46_0).trans (by first | (rw [TeV_n (Or.inl (by omega))]; omega) | (rw [TeV_n (Or.inr (by rw [show Tw D E N x1.toInt.toNat (D 0 7).toNat * D 11 x1.toInt.toNat = y34_.toInt by rw [← twe, ← qpp, tm34], show x2.toInt * Wf D E N (D 0 7).toNat = y36_.toInt by rw [wfe, cse, tm36]]; omega))]; omega) | (rw [TeV_t (by rw [show Tw D E N x1.toInt.toNat (D 0 7).toNat * D 11 x1.toInt.toNat = y34_.toInt by rw [← twe, ← qpp, tm34], show x2.toInt * Wf D E N (D 0 7).toNat = y36_.toInt by rw [wfe, cse, tm36]]; omega)]; omega))⟩⟩), (by omega)⟩⟩
                · refine r_aload_n hC dX10_tell_177 0 rfl ?_
                  refine r_bipush hC (v := (-2)) dX10_tell_178 (by decide) (by decide) (fun x47_ e47 t47 => ?_)
                  refine r_callV hC (As := [.int x47_]) (rest := []) (ci := 10) (c_X10_done g (xL X) K len I23 J R hs23 a0 ka0 x47_) mT_6_79 mT_1_10 mT_6_76 mT_6_78 mP_67 okX10_done ⟨by decide, by decide⟩ rfl (by show kO (K a0) = _; rw [ka0]; rfl) rfl rfl (Nat.le_of_ble_eq_true rfl) ⟨by decide, by decide⟩ dX10_tell_180 (aI1 (F := fun st M => P g X 9 183 [(0, .ref a0), (1, .int x1), (2, .int x2), (3, .long y16_), (5, .long y23_5), (7, .int x23_7), (8, .int x23_8)] st _ _ M) (M := (K, len, I23, J, R)) fun x48_ I48 h48 => ?_)
                  obtain ⟨hs48, hf48, k48_0, k48_1, k48_2⟩ := h48
                  show P g X 9 183 [(0, .ref a0), (1, .int x1), (2, .int x2), (3, .long y16_), (5, .long y23_5), (7, .int x23_7), (8, .int x23_8)] [.int x48_] _ _ (K, len, I48, J, R)
                  have hF48 : Fr K [(11, 0), (11, 1), (11, 2), (11, 19), (85, 999), (86, 999), (87, 999), (88, 999), (93, 999)] I I48 := hF23.trans hf48 rfl rfl
                  have ftf48 : ∀ j : Nat, (j : Int) < D 0 7 → (I48 ft j).toInt = Fb D E N j := fun j hj => by rw [hf48.get kft rfl]; exact v23_6 j hj
                  exact r_iret hC hQ hlk hr rfl (by decide) (by decide) dX10_tell_183 ⟨_, _, rfl, rfl, ⟨hs48, hF48, (by first | exact Or.inl ⟨hz, by omega⟩ | exact Or.inr ⟨hm, hbm, Or.inr ⟨by omega, by omega⟩⟩ | exact Or.inr ⟨hm, hbm, Or.inl ⟨by omega, (congrArg Int32.toInt k48_0).trans (by first | (rw [TeV_n (Or.inl (by omega))]; omega) | (rw [TeV_n (Or.inr (by rw [show Tw D E N x1.toInt.toNat (D 0 7).toNat * D 11 x1.toInt.toNat = y34_.toInt by rw [← twe, ← qpp, tm34], show x2.toInt * Wf D E N (D 0 7).toNat = y36_.toInt by rw [wfe, cse, tm36]]; omega))]; omega) | (rw [TeV_t (by rw [show Tw D E N x1.toInt.toNat (D 0 7).toNat * D 11 x1.toInt.toNat = y34_.toInt by rw [← twe, ← qpp, tm34], show x2.toInt * Wf D E N (D 0 7).toNat = y36_.toInt by rw [wfe, cse, tm36]]; omega)]; omega))⟩⟩), (by omega)⟩⟩
            · refine r_aload_n hC dX10_tell_77 0 rfl ?_
              refine r_getr hC 25 (ci := 10) rfl u10_in (by decide) mT_5_20 dX10_tell_78 ka0 rfl rfl hft ?_
              refine r_iload hC dX10_tell_81 6 rfl ?_
              refine x_zaload hC kft lft (by decide) rfl rfl dX10_tell_83 (by omega) (by omega) (fun x49_ e49 => ?_)
              have q49 : x49_.toInt = Fb D E N x23_8.toInt.toNat := by rw [e49, clx (i := x23_8) rfl (by omega)]; exact v23_6 _ (by omega)
              have jb49 : (59 < Mf D E x23_8.toInt.toNat N ∧ Fb D E N x23_8.toInt.toNat = 1) ∨ (¬ 59 < Mf D E x23_8.toInt.toNat N ∧ Fb D E N x23_8.toInt.toNat = 0) := by by_cases h9 : 59 < Mf D E x23_8.toInt.toNat N; exact Or.inl ⟨h9, Fb_t h9⟩; exact Or.inr ⟨h9, Fb_n h9⟩
              refine r_if_ne hC (tgt := 90) dX10_tell_84 (by decide) (fun c50 => ?_) (fun c50 => ?_)
              · refine r_aload_n hC dX10_tell_90 0 rfl ?_
                refine r_iload hC dX10_tell_91 6 rfl ?_
                have hv51 : I23 hm 7 = x24_ := e24.symm
                refine r_callV hC (As := [.int x23_8]) (rest := []) (ci := 10) (f_X10_runsAsTold g (xL X) K len I23 J R hs23 a0 ka0 x23_8 hm hbm khm (by rw [hv51]; omega) lr hlr klr llr sr hsr ksr lsr ir hir kir lir wr hwr kwr lwr D E (mc.mv hs ka0 khm hF23 rfl) (by omega) (by omega)) mT_6_127 mT_1_10 mT_6_124 mT_6_126 mP_73 okX10_runsAsTold ⟨by decide, by decide⟩ rfl (by show kO (K a0) = _; rw [ka0]; rfl) rfl rfl (Nat.le_of_ble_eq_true rfl) ⟨by decide, by decide⟩ dX10_tell_93 (aV1 (F := fun st M => P g X 9 96 [(0, .ref a0), (1, .int x1), (2, .int x2), (3, .long y16_), (5, .long y23_5), (7, .int x23_7), (8, .int x23_8)] st _ _ M) (M := (K, len, I23, J, R)) fun I52 h52 => ?_)
                obtain ⟨hs52, hf52, k52_0⟩ := h52
                show P g X 9 96 [(0, .ref a0), (1, .int x1), (2, .int x2), (3, .long y16_), (5, .long y23_5), (7, .int x23_7), (8, .int x23_8)] [] _ _ (K, len, I52, J, R)
                have hF52 : Fr K [(11, 0), (11, 1), (11, 2), (11, 19), (85, 999), (86, 999), (87, 999), (88, 999), (93, 999)] I I52 := hF23.trans hf52 rfl rfl
                have ftf52 : ∀ j : Nat, (j : Int) < D 0 7 → (I52 ft j).toInt = Fb D E N j := fun j hj => by rw [hf52.get kft rfl]; exact v23_6 j hj
                have gvr := GV_r (D := D) (s := x23_8.toInt.toNat) (A := Ad D x23_8.toInt.toNat (LP1 D) 1) 60
                refine r_aload_n hC dX10_tell_96 0 rfl ?_
                refine r_iload_n hC dX10_tell_97 1 rfl ?_
                refine r_callV hC (As := [.int x1]) (rest := []) (ci := 10) (f_X10_isStruck g (xL X) K len I52 J R hs52 a0 ka0 x1 hm hbm khm lr hlr klr llr sr hsr ksr lsr ir hir kir lir wr hwr kwr lwr D E (mc.mv hs ka0 khm hF52 rfl) x23_8.toInt.toNat (show ((x23_8.toInt.toNat : Nat) : Int) < D 0 7 by omega) k52_0 (by omega) (by omega)) mT_7_55 mT_1_10 mT_7_52 mT_7_54 mP_95 okX10_isStruck ⟨by decide, by decide⟩ rfl (by show kO (K a0) = _; rw [ka0]; rfl) rfl rfl (Nat.le_of_ble_eq_true rfl) ⟨by decide, by decide⟩ dX10_tell_98 (aI0 (F := fun st M => P g X 9 101 [(0, .ref a0), (1, .int x1), (2, .int x2), (3, .long y16_), (5, .long y23_5), (7, .int x23_7), (8, .int x23_8)] st _ _ M) (M := (K, len, I52, J, R)) fun x53_ h53 => ?_)
                have k53_0 := h53
                clear h53
                show P g X 9 101 [(0, .ref a0), (1, .int x1), (2, .int x2), (3, .long y16_), (5, .long y23_5), (7, .int x23_7), (8, .int x23_8)] [.int x53_] _ _ (K, len, I52, J, R)
                refine r_if_ne hC (tgt := 107) dX10_tell_101 (by decide) (fun c54 => ?_) (fun c54 => ?_)
                · refine r_lload hC dX10_tell_107 4 rfl ?_
                  refine r_aload_n hC dX10_tell_109 0 rfl ?_
                  refine r_getr hC 3 (ci := 10) rfl u10_in (by decide) mT_4_238 dX10_tell_110 ka0 rfl rfl hbm ?_
                  obtain ⟨a55_, hb55, hk55, hn55⟩ := hs52.row khm 16 75 6 (by decide) (by decide)
                  refine r_getrN hC 16 (ci := 9) rfl u9_in (by decide) nF_16 dX10_tell_113 khm rfl rfl hb55 ?_
                  refine r_iload hC dX10_tell_116 6 rfl ?_
                  refine x_iaload hC hk55 hn55 (by decide) rfl rfl dX10_tell_118 (by omega) (by omega) (fun x56_ e56 => ?_)
                  have q56 : x56_.toInt = D 6 x23_8.toInt.toNat := by rw [e56, clx (i := x23_8) rfl (by omega)]; exact (mc.mv hs ka0 khm hF52 rfl).hrw (r := 6) (by decide) (by decide) hb55 (by rw [cnt_6]; omega) (fun h9 => absurd h9 (by decide))
                  have jb56 : 0 ≤ D 6 x23_8.toInt.toNat ∧ D 6 x23_8.toInt.toNat ≤ 99 := hJ.2.2.2.1 6 _ (by decide) (by decide) (by decide)
                  refine r_i2l hC dX10_tell_119 (fun y57_ e57 => ?_)
                  have tl57 : y57_.toInt = x56_.toInt := by rw [e57]; exact Int32.toInt_toInt64 _
                  refine r_ladd hC dX10_tell_120 (fun y58_ e58 => ?_)
                  have tl58 : y58_.toInt = y23_5.toInt + y57_.toInt := tj_add e58 (by omega) (by omega)
                  refine r_lstore hC (lv' := [(5, .long y58_), (0, .ref a0), (1, .int x1), (2, .int x2), (3, .long y16_), (7, .int x23_7), (8, .int x23_8)]) dX10_tell_121 (by decide) rfl ?_
                  refine r_aload_n hC dX10_tell_123 1 rfl ?_
                  refine r_geti hC 19 (ci := 10) rfl u10_in (by decide) mT_5_14 dX10_tell_124 ka0 rfl rfl (fun x59_ e59 => ?_)
                  have r59 := hs52.rng ka0 rfl e59
                  have q59 := hs52.gone ka0 e59
                  have f59 : x59_.toInt = (I52 a0 19).toInt := by rw [e59]
                  have q59g : x59_.toInt = GV D x23_8.toInt.toNat (Ad D x23_8.toInt.toNat (LP1 D) 1) 60 := by rw [e59]; exact k52_0.2.2
                  refine r_iload hC dX10_tell_127 5 rfl ?_
                  refine r_icmp_ge hC (tgt := 139) dX10_tell_129 (by decide) (fun c60 => ?_) (fun c60 => ?_)
                  · refine r_iload hC dX10_tell_139 5 rfl ?_
                    refine r_istore hC (lv' := [(7, .int x23_7), (5, .long y58_), (0, .ref a0), (1, .int x1), (2, .int x2), (3, .long y16_), (8, .int x23_8)]) dX10_tell_141 (by decide) rfl ?_
                    obtain ⟨x61_, e61⟩ : ∃ z : Int32, z = x23_8 + Int32.ofInt (1) := ⟨_, rfl⟩
                    refine r_iinc hC (j := 6) (v := x61_) (lv' := [(8, .int x61_), (7, .int x23_7), (5, .long y58_), (0, .ref a0), (1, .int x1), (2, .int x2), (3, .long y16_)]) dX10_tell_143 rfl (by rw [e61]) (by decide) rfl ?_
                    try have t61 : x61_.toInt = x23_8.toInt + (1) := by rw [e61]; exact (ti_add (b := Int32.ofInt (1)) (by show _ ≤ _ + (1 : Int); omega) (by show _ + (1 : Int) ≤ _; omega))
                    refine r_goto hC (tgt := 65) dX10_tell_146 (by decide) ?_
                    refine r_sub [3, 4, 5, 6, 2, 1, 0] rfl ?_
                    exact ih23 ((6 - x61_.toInt).toNat) (by omega) x61_ x23_7 y58_ I52 hs52 hF52 (by omega) (by omega) (by first | (rw [show x61_.toInt.toNat = 0 by omega]; show _ = (0 : Int); omega) | (rw [show x61_.toInt.toNat = x23_8.toInt.toNat + 1 by omega, Tw_t (by omega)]; omega) | (rw [show x61_.toInt.toNat = x23_8.toInt.toNat + 1 by omega, Tw_n (by omega)]; omega)) (by first | (rw [show x61_.toInt.toNat = 0 by omega]; show _ = (60 : Int); omega) | (rw [show x61_.toInt.toNat = x23_8.toInt.toNat + 1 by omega, Tf_t (by omega)]; omega) | (rw [show x61_.toInt.toNat = x23_8.toInt.toNat + 1 by omega, Tf_n (by omega)]; omega)) (by omega) (by omega) (by exact ftf52) rfl
                  · refine r_aload_n hC dX10_tell_132 1 rfl ?_
                    refine r_geti hC 19 (ci := 10) rfl u10_in (by decide) mT_5_14 dX10_tell_133 ka0 rfl rfl (fun x62_ e62 => ?_)
                    have r62 := hs52.rng ka0 rfl e62
                    have q62 := hs52.gone ka0 e62
                    have f62 : x62_.toInt = (I52 a0 19).toInt := by rw [e62]
                    have w62 : x62_ = x59_ := by rw [e62]; exact e59.symm
                    have wt62 : x62_.toInt = x59_.toInt := by rw [w62]
                    have q62g : x62_.toInt = GV D x23_8.toInt.toNat (Ad D x23_8.toInt.toNat (LP1 D) 1) 60 := by rw [e62]; exact k52_0.2.2
                    refine r_goto hC (tgt := 141) dX10_tell_136 (by decide) ?_
                    refine r_istore hC (lv' := [(7, .int x62_), (5, .long y58_), (0, .ref a0), (1, .int x1), (2, .int x2), (3, .long y16_), (8, .int x23_8)]) dX10_tell_141 (by decide) rfl ?_
                    obtain ⟨x63_, e63⟩ : ∃ z : Int32, z = x23_8 + Int32.ofInt (1) := ⟨_, rfl⟩
                    refine r_iinc hC (j := 6) (v := x63_) (lv' := [(8, .int x63_), (7, .int x62_), (5, .long y58_), (0, .ref a0), (1, .int x1), (2, .int x2), (3, .long y16_)]) dX10_tell_143 rfl (by rw [e63]) (by decide) rfl ?_
                    try have t63 : x63_.toInt = x23_8.toInt + (1) := by rw [e63]; exact (ti_add (b := Int32.ofInt (1)) (by show _ ≤ _ + (1 : Int); omega) (by show _ + (1 : Int) ≤ _; omega))
                    refine r_goto hC (tgt := 65) dX10_tell_146 (by decide) ?_
                    refine r_sub [3, 4, 5, 6, 2, 1, 0] rfl ?_
                    exact ih23 ((6 - x63_.toInt).toNat) (by omega) x63_ x62_ y58_ I52 hs52 hF52 (by omega) (by omega) (by first | (rw [show x63_.toInt.toNat = 0 by omega]; show _ = (0 : Int); omega) | (rw [show x63_.toInt.toNat = x23_8.toInt.toNat + 1 by omega, Tw_t (by omega)]; omega) | (rw [show x63_.toInt.toNat = x23_8.toInt.toNat + 1 by omega, Tw_n (by omega)]; omega)) (by first | (rw [show x63_.toInt.toNat = 0 by omega]; show _ = (60 : Int); omega) | (rw [show x63_.toInt.toNat = x23_8.toInt.toNat + 1 by omega, Tf_t (by omega)]; omega) | (rw [show x63_.toInt.toNat = x23_8.toInt.toNat + 1 by omega, Tf_n (by omega)]; omega)) (by omega) (by omega) (by exact ftf52) rfl
                · refine r_goto hC (tgt := 143) dX10_tell_104 (by decide) ?_
                  obtain ⟨x64_, e64⟩ : ∃ z : Int32, z = x23_8 + Int32.ofInt (1) := ⟨_, rfl⟩
                  refine r_iinc hC (j := 6) (v := x64_) (lv' := [(8, .int x64_), (0, .ref a0), (1, .int x1), (2, .int x2), (3, .long y16_), (5, .long y23_5), (7, .int x23_7)]) dX10_tell_143 rfl (by rw [e64]) (by decide) rfl ?_
                  try have t64 : x64_.toInt = x23_8.toInt + (1) := by rw [e64]; exact (ti_add (b := Int32.ofInt (1)) (by show _ ≤ _ + (1 : Int); omega) (by show _ + (1 : Int) ≤ _; omega))
                  refine r_goto hC (tgt := 65) dX10_tell_146 (by decide) ?_
                  refine r_sub [1, 2, 3, 4, 5, 6, 0] rfl ?_
                  exact ih23 ((6 - x64_.toInt).toNat) (by omega) x64_ x23_7 y23_5 I52 hs52 hF52 (by omega) (by omega) (by first | (rw [show x64_.toInt.toNat = 0 by omega]; show _ = (0 : Int); omega) | (rw [show x64_.toInt.toNat = x23_8.toInt.toNat + 1 by omega, Tw_t (by omega)]; omega) | (rw [show x64_.toInt.toNat = x23_8.toInt.toNat + 1 by omega, Tw_n (by omega)]; omega)) (by first | (rw [show x64_.toInt.toNat = 0 by omega]; show _ = (60 : Int); omega) | (rw [show x64_.toInt.toNat = x23_8.toInt.toNat + 1 by omega, Tf_t (by omega)]; omega) | (rw [show x64_.toInt.toNat = x23_8.toInt.toNat + 1 by omega, Tf_n (by omega)]; omega)) (by omega) (by omega) (by exact ftf52) rfl
              · refine r_goto hC (tgt := 143) dX10_tell_87 (by decide) ?_
                obtain ⟨x65_, e65⟩ : ∃ z : Int32, z = x23_8 + Int32.ofInt (1) := ⟨_, rfl⟩
                refine r_iinc hC (j := 6) (v := x65_) (lv' := [(8, .int x65_), (0, .ref a0), (1, .int x1), (2, .int x2), (3, .long y16_), (5, .long y23_5), (7, .int x23_7)]) dX10_tell_143 rfl (by rw [e65]) (by decide) rfl ?_
                try have t65 : x65_.toInt = x23_8.toInt + (1) := by rw [e65]; exact (ti_add (b := Int32.ofInt (1)) (by show _ ≤ _ + (1 : Int); omega) (by show _ + (1 : Int) ≤ _; omega))
                refine r_goto hC (tgt := 65) dX10_tell_146 (by decide) ?_
                refine r_sub [1, 2, 3, 4, 5, 6, 0] rfl ?_
                exact ih23 ((6 - x65_.toInt).toNat) (by omega) x65_ x23_7 y23_5 I23 hs23 hF23 (by omega) (by omega) (by first | (rw [show x65_.toInt.toNat = 0 by omega]; show _ = (0 : Int); omega) | (rw [show x65_.toInt.toNat = x23_8.toInt.toNat + 1 by omega, Tw_t (by omega)]; omega) | (rw [show x65_.toInt.toNat = x23_8.toInt.toNat + 1 by omega, Tw_n (by omega)]; omega)) (by first | (rw [show x65_.toInt.toNat = 0 by omega]; show _ = (60 : Int); omega) | (rw [show x65_.toInt.toNat = x23_8.toInt.toNat + 1 by omega, Tf_t (by omega)]; omega) | (rw [show x65_.toInt.toNat = x23_8.toInt.toNat + 1 by omega, Tf_n (by omega)]; omega)) (by omega) (by omega) (by exact v23_6) rfl
          refine r_sub [4, 5, 6, 3, 2, 1, 0] rfl ?_
          exact LP23 _ x22_ x21_ y20_ I15 hs15 hF15 (by omega) (by omega) (by first | (rw [show x22_.toInt.toNat = 0 by omega]; show _ = (0 : Int); omega) | (rw [show x22_.toInt.toNat = x23_8.toInt.toNat + 1 by omega, Tw_t (by omega)]; omega) | (rw [show x22_.toInt.toNat = x23_8.toInt.toNat + 1 by omega, Tw_n (by omega)]; omega)) (by first | (rw [show x22_.toInt.toNat = 0 by omega]; show _ = (60 : Int); omega) | (rw [show x22_.toInt.toNat = x23_8.toInt.toNat + 1 by omega, Tf_t (by omega)]; omega) | (rw [show x22_.toInt.toNat = x23_8.toInt.toNat + 1 by omega, Tf_n (by omega)]; omega)) (by omega) (by omega) (by exact k15_2) rfl
        · refine r_aload_n hC dX10_tell_48 1 rfl ?_
          refine r_bipush hC (v := (6)) dX10_tell_49 (by decide) (by decide) (fun x66_ e66 t66 => ?_)
          refine r_callV hC (As := [.int x66_]) (rest := []) (ci := 10) (c_X10_refused g (xL X) K len I15 J R hs15 a0 ka0 x66_) mT_5_85 mT_1_10 mT_5_82 mT_5_84 mP_48 okX10_refused ⟨by decide, by decide⟩ rfl (by show kO (K a0) = _; rw [ka0]; rfl) rfl rfl (Nat.le_of_ble_eq_true rfl) ⟨by decide, by decide⟩ dX10_tell_51 (aI1 (F := fun st M => P g X 9 54 [(3, .long y16_), (0, .ref a0), (1, .int x1), (2, .int x2)] st _ _ M) (M := (K, len, I15, J, R)) fun x67_ I67 h67 => ?_)
          obtain ⟨hs67, hf67, k67_0, k67_1, k67_2⟩ := h67
          show P g X 9 54 [(3, .long y16_), (0, .ref a0), (1, .int x1), (2, .int x2)] [.int x67_] _ _ (K, len, I67, J, R)
          have hF67 : Fr K [(11, 0), (11, 1), (11, 2), (11, 19), (85, 999), (86, 999), (87, 999), (88, 999), (93, 999)] I I67 := hF15.trans hf67 rfl rfl
          have ftf67 : ∀ j : Nat, (j : Int) < D 0 7 → (I67 ft j).toInt = Fb D E N j := fun j hj => by rw [hf67.get kft rfl]; exact k15_2 j hj
          exact r_iret hC hQ hlk hr rfl (by decide) (by decide) dX10_tell_54 ⟨_, _, rfl, rfl, ⟨hs67, hF67, (by first | exact Or.inl ⟨hz, by omega⟩ | exact Or.inr ⟨hm, hbm, Or.inr ⟨by omega, by omega⟩⟩ | exact Or.inr ⟨hm, hbm, Or.inl ⟨by omega, (congrArg Int32.toInt k67_0).trans (by first | (rw [TeV_n (Or.inl (by omega))]; omega) | (rw [TeV_n (Or.inr (by rw [show Tw D E N x1.toInt.toNat (D 0 7).toNat * D 11 x1.toInt.toNat = NOm1.toInt by rw [← twe, ← NOqp, NOtm1], show x2.toInt * Wf D E N (D 0 7).toNat = NOm2.toInt by rw [NOqw, NOtm2]]; omega))]; omega) | (rw [TeV_t (by rw [show Tw D E N x1.toInt.toNat (D 0 7).toNat * D 11 x1.toInt.toNat = NOm1.toInt by rw [← twe, ← NOqp, NOtm1], show x2.toInt * Wf D E N (D 0 7).toNat = NOm2.toInt by rw [NOqw, NOtm2]]; omega)]; omega))⟩⟩), (by omega)⟩⟩
      · refine r_if_ne hC (tgt := 36) dX10_tell_27 (by decide) (fun c68 => ?_) (fun c68 => ?_)
        · exfalso; omega
        refine r_aload_n hC dX10_tell_30 0 rfl ?_
        refine r_iconst hC (v := (2)) dX10_tell_31 (by decide) (by decide) (fun x69_ e69 t69 => ?_)
        refine r_callV hC (As := [.int x69_]) (rest := []) (ci := 10) (c_X10_refused g (xL X) K len I8 J R hs8 a0 ka0 x69_) mT_5_85 mT_1_10 mT_5_82 mT_5_84 mP_48 okX10_refused ⟨by decide, by decide⟩ rfl (by show kO (K a0) = _; rw [ka0]; rfl) rfl rfl (Nat.le_of_ble_eq_true rfl) ⟨by decide, by decide⟩ dX10_tell_32 (aI1 (F := fun st M => P g X 9 35 [(0, .ref a0), (1, .int x1), (2, .int x2)] st _ _ M) (M := (K, len, I8, J, R)) fun x70_ I70 h70 => ?_)
        obtain ⟨hs70, hf70, k70_0, k70_1, k70_2⟩ := h70
        show P g X 9 35 [(0, .ref a0), (1, .int x1), (2, .int x2)] [.int x70_] _ _ (K, len, I70, J, R)
        have hF70 : Fr K [(11, 0), (11, 1), (11, 2), (11, 19), (85, 999), (86, 999), (87, 999), (88, 999), (93, 999)] I I70 := hF8.trans hf70 rfl rfl
        exact r_iret hC hQ hlk hr rfl (by decide) (by decide) dX10_tell_35 ⟨_, _, rfl, rfl, ⟨hs70, hF70, (by first | exact Or.inl ⟨hz, by omega⟩ | exact Or.inr ⟨hm, hbm, Or.inr ⟨by omega, by omega⟩⟩ | exact Or.inr ⟨hm, hbm, Or.inl ⟨by omega, (congrArg Int32.toInt k70_0).trans (by first | (rw [TeV_n (Or.inl (by omega))]; omega) | (rw [TeV_n (Or.inr (by rw [show Tw D E N x1.toInt.toNat (D 0 7).toNat * D 11 x1.toInt.toNat = NOm1.toInt by rw [← twe, ← NOqp, NOtm1], show x2.toInt * Wf D E N (D 0 7).toNat = NOm2.toInt by rw [NOqw, NOtm2]]; omega))]; omega) | (rw [TeV_t (by rw [show Tw D E N x1.toInt.toNat (D 0 7).toNat * D 11 x1.toInt.toNat = NOm1.toInt by rw [← twe, ← NOqp, NOtm1], show x2.toInt * Wf D E N (D 0 7).toNat = NOm2.toInt by rw [NOqw, NOtm2]]; omega)]; omega))⟩⟩), (by omega)⟩⟩
    · refine r_aload_n hC dX10_tell_13 0 rfl ?_
      refine r_iconst hC (v := (1)) dX10_tell_14 (by decide) (by decide) (fun x71_ e71 t71 => ?_)
      refine r_callV hC (As := [.int x71_]) (rest := []) (ci := 10) (c_X10_refused g (xL X) K len I8 J R hs8 a0 ka0 x71_) mT_5_85 mT_1_10 mT_5_82 mT_5_84 mP_48 okX10_refused ⟨by decide, by decide⟩ rfl (by show kO (K a0) = _; rw [ka0]; rfl) rfl rfl (Nat.le_of_ble_eq_true rfl) ⟨by decide, by decide⟩ dX10_tell_15 (aI1 (F := fun st M => P g X 9 18 [(0, .ref a0), (1, .int x1), (2, .int x2)] st _ _ M) (M := (K, len, I8, J, R)) fun x72_ I72 h72 => ?_)
      obtain ⟨hs72, hf72, k72_0, k72_1, k72_2⟩ := h72
      show P g X 9 18 [(0, .ref a0), (1, .int x1), (2, .int x2)] [.int x72_] _ _ (K, len, I72, J, R)
      have hF72 : Fr K [(11, 0), (11, 1), (11, 2), (11, 19), (85, 999), (86, 999), (87, 999), (88, 999), (93, 999)] I I72 := hF8.trans hf72 rfl rfl
      exact r_iret hC hQ hlk hr rfl (by decide) (by decide) dX10_tell_18 ⟨_, _, rfl, rfl, ⟨hs72, hF72, (by first | exact Or.inl ⟨hz, by omega⟩ | exact Or.inr ⟨hm, hbm, Or.inr ⟨by omega, by omega⟩⟩ | exact Or.inr ⟨hm, hbm, Or.inl ⟨by omega, (congrArg Int32.toInt k72_0).trans (by first | (rw [TeV_n (Or.inl (by omega))]; omega) | (rw [TeV_n (Or.inr (by rw [show Tw D E N x1.toInt.toNat (D 0 7).toNat * D 11 x1.toInt.toNat = NOm1.toInt by rw [← twe, ← NOqp, NOtm1], show x2.toInt * Wf D E N (D 0 7).toNat = NOm2.toInt by rw [NOqw, NOtm2]]; omega))]; omega) | (rw [TeV_t (by rw [show Tw D E N x1.toInt.toNat (D 0 7).toNat * D 11 x1.toInt.toNat = NOm1.toInt by rw [← twe, ← NOqp, NOtm1], show x2.toInt * Wf D E N (D 0 7).toNat = NOm2.toInt by rw [NOqw, NOtm2]]; omega)]; omega))⟩⟩), (by omega)⟩⟩

